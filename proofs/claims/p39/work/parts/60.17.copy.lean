/-! copy; by program (wip/tools/op.py) -/
set_option maxHeartbeats 4000000 in
theorem op_copy (x : St) (hx : wI x) (a1 : Int32) (a2 : Int32) (a3 : Int32) (a4 : Int32) (a5 : Int32) : ∃ (r : Int32) (x1 x2 : St), Ev ab_Z0 3 78 [.ref 0, .int a1, .int a2, .int a3, .int a4, .int a5] (wt x) (some (.int r), wt x1) ∧ Ev ab_Z0 2 137 [.ref 65, .int a1, .int a2, .int a3, .int a4, .int a5] (wt x1) (some (.int r), wt x2) ∧ wI x2 := by
  obtain ⟨im, lf, s, d, k, ls, rf, rz, ra, rn, rq, lt, m1, m2, m3, m4, bd, fc, hd, sz, el, t, g, fm, hm, so, si, sh, ce, ca, td, wa, kp, la, bf, oo, bo, pw, ow, tr⟩ := x
  obtain ⟨I, ts, hf, iQ, iM, iT, iS, l_el, lr⟩ := hx
  replace lr : Hd _ := lr
  have l_fc := lr.2.2.2.1
  have l_fm := lr.2.2.2.2.1
  have l_hm := lr.2.2.2.2.2.1
  have l_so := lr.2.2.2.2.2.2.1
  have l_si := lr.2.2.2.2.2.2.2.1
  subst ts
  obtain ⟨⟨i0, i1, i2, i3⟩, ⟨i4, i5, i6, i7, i8⟩, ⟨i9, i10⟩, I1, I2, I3, I4⟩ := id I
  rcases ab_int a1 with ⟨a1k, f0, rfl⟩ | f0
  · by_cases f1 : a1k < 8
    · rcases ab_int a2 with ⟨a2k, f2, rfl⟩ | f2
      · by_cases f3 : a2k < 8
        · rcases iS a1k (by omega) with ⟨u1, u2, u3⟩ | ⟨xq, u1, u2, u3, u4, u5⟩ | ⟨u1, u2, u3, u4, u5, u6⟩
          · rcases iS a2k (by omega) with ⟨u21, u22, u23⟩ | ⟨xq2, u21, u22, u23, u24, u25⟩ | ⟨u21, u22, u23, u24, u25, u26⟩
            · refine ⟨(-3), (im, lf, s, d, k, ls, rf, rz, ra, rn, rq, lt, m1, m2, m3, m4, bd, (fc.set 3 ((fc.getD 3 0) + (nI 1))), hd, sz, el, s, g, fm, hm, so, si, sh, ce, ca, td, wa, kp, la, bf, oo, bo, pw, ow, tr), (im, lf, s, d, k, ls, rf, rz, ra, rn, rq, lt, m1, m2, m3, m4, bd, (fc.set 3 ((fc.getD 3 0) + (nI 1))), hd, sz, el, s, g, (fm.set 3 ((fm.getD 3 0) + (nI 1))), hm, so, si, sh, ce, ca, td, wa, kp, la, bf, oo, bo, pw, ow, tr), ?_, ?_, ?_⟩
              · show Ev ab_Z0 3 78 [.ref 0, .int (nI a1k), .int (nI a2k), .int a3, .int a4, .int a5] (ww im lf s d k ls rf rz ra rn rq lt m1 m2 m3 m4 bd fc hd sz el s g fm hm so si sh ce ca td wa kp la bf oo bo pw ow tr) (some (.int (-3)), (ww im lf s d k ls rf rz ra rn rq lt m1 m2 m3 m4 bd (fc.set 3 ((fc.getD 3 0) + (nI 1))) hd sz el s g fm hm so si sh ce ca td wa kp la bf oo bo pw ow tr))
                refine Ef.in (md := mX5_copy) (L := [some (.ref 0), some (.int (nI a1k)), some (.int (nI a2k)), some (.int a3), some (.int a4), some (.int a5), none, none]) rfl (Nat.le_of_ble_eq_true rfl) rfl ?_
                refine E_iload_n at_X5_copy_0 rfl ?_
                refine E_callS (v := some (.int (nI 1))) (As := [.int (nI a1k)]) (r0 := []) (cs2 := (ww im lf s d k ls rf rz ra rn rq lt m1 m2 m3 m4 bd fc hd sz el s g fm hm so si sh ce ca td wa kp la bf oo bo pw ow tr)) at_X5_copy_1 rfl rfl (Nat.le_of_ble_eq_true rfl) rfl (L39_X5_isShelf (by omega) (by omega) (by omega)) (by decide) rfl ?_
                refine E_if (t := 14) (b := false) at_X5_copy_4 rfl (by decide) ?_
                refine E_iload_n at_X5_copy_7 rfl ?_
                refine E_callS (v := some (.int (nI 1))) (As := [.int (nI a2k)]) (r0 := []) (cs2 := (ww im lf s d k ls rf rz ra rn rq lt m1 m2 m3 m4 bd fc hd sz el s g fm hm so si sh ce ca td wa kp la bf oo bo pw ow tr)) at_X5_copy_8 rfl rfl (Nat.le_of_ble_eq_true rfl) rfl (L39_X5_isShelf (by omega) (by omega) (by omega)) (by decide) rfl ?_
                refine E_if (t := 20) (b := true) at_X5_copy_11 rfl (by decide) ?_
                refine E_aload_n at_X5_copy_20 rfl ?_
                refine E_getfield (v := .ref 31) at_X5_copy_21 w0 rfl (by decide) rfl ?_
                refine E_iload_n at_X5_copy_24 rfl ?_
                refine E_aalN (b := 49 + 2 * a1k) at_X5_copy_25 w31 (by omega) (w_shs (by omega)) ?_
                refine E_astore (L2 := [some (.ref 0), some (.int (nI a1k)), some (.int (nI a2k)), some (.int a3), some (.int a4), some (.int a5), some (.ref (49 + 2 * a1k)), none]) at_X5_copy_26 rfl ?_
                refine E_aload_n at_X5_copy_28 rfl ?_
                refine E_getfield (v := .ref 31) at_X5_copy_29 w0 rfl (by decide) rfl ?_
                refine E_iload_n at_X5_copy_32 rfl ?_
                refine E_aalN (b := 49 + 2 * a2k) at_X5_copy_33 w31 (by omega) (w_shs (by omega)) ?_
                refine E_astore (L2 := [some (.ref 0), some (.int (nI a1k)), some (.int (nI a2k)), some (.int a3), some (.int a4), some (.int a5), some (.ref (49 + 2 * a1k)), some (.ref (49 + 2 * a2k))]) at_X5_copy_34 rfl ?_
                refine E_aload at_X5_copy_36 rfl ?_
                have e1 : Ev ab_Z0 1 33 [.ref (49 + 2 * a1k)] (ww im lf s d k ls rf rz ra rn rq lt m1 m2 m3 m4 bd fc hd sz el s g fm hm so si sh ce ca td wa kp la bf oo bo pw ow tr) (some (.int (nI 0)), (ww im lf s d k ls rf rz ra rn rq lt m1 m2 m3 m4 bd fc hd sz el s g fm hm so si sh ce ca td wa kp la bf oo bo pw ow tr)) := by
                  refine Ef.in (md := mX3_isOtherThanRow) (L := [some (.ref (49 + 2 * a1k))]) rfl (Nat.le_of_ble_eq_true rfl) rfl ?_
                  refine E_aload_n at_X3_isOtherThanRow_0 rfl ?_
                  refine E_getfield (v := .int (-1)) at_X3_isOtherThanRow_1 (w_shv (j := a1k) (by omega) u1 u2) rfl (by decide) rfl ?_
                  refine E_if (t := 20) (b := true) at_X3_isOtherThanRow_4 rfl (by decide) ?_
                  refine E_iconst (x := nI 0) at_X3_isOtherThanRow_20 (by decide) ?_
                  exact E_iret at_X3_isOtherThanRow_21 rfl
                refine E_callV (v := some (.int (nI 0))) (As := [.ref (49 + 2 * a1k)]) (r0 := []) (cs2 := (ww im lf s d k ls rf rz ra rn rq lt m1 m2 m3 m4 bd fc hd sz el s g fm hm so si sh ce ca td wa kp la bf oo bo pw ow tr)) at_X5_copy_38 rfl rfl (Nat.le_of_ble_eq_true rfl) rfl (ab_rvOf (w_shv (j := a1k) (by omega) u1 u2) rfl) e1 (by decide) rfl ?_
                refine E_if (t := 62) (b := false) at_X5_copy_41 rfl (by decide) ?_
                refine E_aload at_X5_copy_44 rfl ?_
                have e2 : Ev ab_Z0 1 33 [.ref (49 + 2 * a2k)] (ww im lf s d k ls rf rz ra rn rq lt m1 m2 m3 m4 bd fc hd sz el s g fm hm so si sh ce ca td wa kp la bf oo bo pw ow tr) (some (.int (nI 0)), (ww im lf s d k ls rf rz ra rn rq lt m1 m2 m3 m4 bd fc hd sz el s g fm hm so si sh ce ca td wa kp la bf oo bo pw ow tr)) := by
                  refine Ef.in (md := mX3_isOtherThanRow) (L := [some (.ref (49 + 2 * a2k))]) rfl (Nat.le_of_ble_eq_true rfl) rfl ?_
                  refine E_aload_n at_X3_isOtherThanRow_0 rfl ?_
                  refine E_getfield (v := .int (-1)) at_X3_isOtherThanRow_1 (w_shv (j := a2k) (by omega) u21 u22) rfl (by decide) rfl ?_
                  refine E_if (t := 20) (b := true) at_X3_isOtherThanRow_4 rfl (by decide) ?_
                  refine E_iconst (x := nI 0) at_X3_isOtherThanRow_20 (by decide) ?_
                  exact E_iret at_X3_isOtherThanRow_21 rfl
                refine E_callV (v := some (.int (nI 0))) (As := [.ref (49 + 2 * a2k)]) (r0 := []) (cs2 := (ww im lf s d k ls rf rz ra rn rq lt m1 m2 m3 m4 bd fc hd sz el s g fm hm so si sh ce ca td wa kp la bf oo bo pw ow tr)) at_X5_copy_46 rfl rfl (Nat.le_of_ble_eq_true rfl) rfl (ab_rvOf (w_shv (j := a2k) (by omega) u21 u22) rfl) e2 (by decide) rfl ?_
                refine E_if (t := 62) (b := false) at_X5_copy_49 rfl (by decide) ?_
                refine E_aload at_X5_copy_52 rfl ?_
                refine E_aload at_X5_copy_54 rfl ?_
                have e4 : Ev ab_Z0 2 34 [.ref (49 + 2 * a1k), .ref (49 + 2 * a2k)] (ww im lf s d k ls rf rz ra rn rq lt m1 m2 m3 m4 bd fc hd sz el s g fm hm so si sh ce ca td wa kp la bf oo bo pw ow tr) (some (.int (nI 0)), (ww im lf s d k ls rf rz ra rn rq lt m1 m2 m3 m4 bd fc hd sz el s g fm hm so si sh ce ca td wa kp la bf oo bo pw ow tr)) := by
                  refine Ef.in (md := mX3_isOfOtherSort) (L := [some (.ref (49 + 2 * a1k)), some (.ref (49 + 2 * a2k))]) rfl (Nat.le_of_ble_eq_true rfl) rfl ?_
                  refine E_aload_n at_X3_isOfOtherSort_0 rfl ?_
                  have e3 : Ev ab_Z0 1 32 [.ref (49 + 2 * a1k)] (ww im lf s d k ls rf rz ra rn rq lt m1 m2 m3 m4 bd fc hd sz el s g fm hm so si sh ce ca td wa kp la bf oo bo pw ow tr) (some (.int (nI 1)), (ww im lf s d k ls rf rz ra rn rq lt m1 m2 m3 m4 bd fc hd sz el s g fm hm so si sh ce ca td wa kp la bf oo bo pw ow tr)) := by
                    refine Ef.in (md := mX3_isEmpty) (L := [some (.ref (49 + 2 * a1k))]) rfl (Nat.le_of_ble_eq_true rfl) rfl ?_
                    refine E_aload_n at_X3_isEmpty_0 rfl ?_
                    refine E_getfield (v := .int (-1)) at_X3_isEmpty_1 (w_shv (j := a1k) (by omega) u1 u2) rfl (by decide) rfl ?_
                    refine E_iconst (x := (-1)) at_X3_isEmpty_4 (by decide) ?_
                    refine E_ic (t := 12) (b := false) at_X3_isEmpty_5 rfl (by decide) ?_
                    refine E_iconst (x := nI 1) at_X3_isEmpty_8 (by decide) ?_
                    refine E_goto (t := 13) at_X3_isEmpty_9 rfl ?_
                    exact E_iret at_X3_isEmpty_13 rfl
                  refine E_callV (v := some (.int (nI 1))) (As := [.ref (49 + 2 * a1k)]) (r0 := []) (cs2 := (ww im lf s d k ls rf rz ra rn rq lt m1 m2 m3 m4 bd fc hd sz el s g fm hm so si sh ce ca td wa kp la bf oo bo pw ow tr)) at_X3_isOfOtherSort_1 rfl rfl (Nat.le_of_ble_eq_true rfl) rfl (ab_rvOf (w_shv (j := a1k) (by omega) u1 u2) rfl) e3 (by decide) rfl ?_
                  refine E_if (t := 29) (b := true) at_X3_isOfOtherSort_4 rfl (by decide) ?_
                  refine E_iconst (x := nI 0) at_X3_isOfOtherSort_29 (by decide) ?_
                  exact E_iret at_X3_isOfOtherSort_30 rfl
                refine E_callV (v := some (.int (nI 0))) (As := [.ref (49 + 2 * a1k), .ref (49 + 2 * a2k)]) (r0 := []) (cs2 := (ww im lf s d k ls rf rz ra rn rq lt m1 m2 m3 m4 bd fc hd sz el s g fm hm so si sh ce ca td wa kp la bf oo bo pw ow tr)) at_X5_copy_56 rfl rfl (Nat.le_of_ble_eq_true rfl) rfl (ab_rvOf (w_shv (j := a1k) (by omega) u1 u2) rfl) e4 (by decide) rfl ?_
                refine E_if (t := 68) (b := true) at_X5_copy_59 rfl (by decide) ?_
                refine E_aload at_X5_copy_68 rfl ?_
                have e5 : Ev ab_Z0 1 32 [.ref (49 + 2 * a1k)] (ww im lf s d k ls rf rz ra rn rq lt m1 m2 m3 m4 bd fc hd sz el s g fm hm so si sh ce ca td wa kp la bf oo bo pw ow tr) (some (.int (nI 1)), (ww im lf s d k ls rf rz ra rn rq lt m1 m2 m3 m4 bd fc hd sz el s g fm hm so si sh ce ca td wa kp la bf oo bo pw ow tr)) := by
                  refine Ef.in (md := mX3_isEmpty) (L := [some (.ref (49 + 2 * a1k))]) rfl (Nat.le_of_ble_eq_true rfl) rfl ?_
                  refine E_aload_n at_X3_isEmpty_0 rfl ?_
                  refine E_getfield (v := .int (-1)) at_X3_isEmpty_1 (w_shv (j := a1k) (by omega) u1 u2) rfl (by decide) rfl ?_
                  refine E_iconst (x := (-1)) at_X3_isEmpty_4 (by decide) ?_
                  refine E_ic (t := 12) (b := false) at_X3_isEmpty_5 rfl (by decide) ?_
                  refine E_iconst (x := nI 1) at_X3_isEmpty_8 (by decide) ?_
                  refine E_goto (t := 13) at_X3_isEmpty_9 rfl ?_
                  exact E_iret at_X3_isEmpty_13 rfl
                refine E_callV (v := some (.int (nI 1))) (As := [.ref (49 + 2 * a1k)]) (r0 := []) (cs2 := (ww im lf s d k ls rf rz ra rn rq lt m1 m2 m3 m4 bd fc hd sz el s g fm hm so si sh ce ca td wa kp la bf oo bo pw ow tr)) at_X5_copy_70 rfl rfl (Nat.le_of_ble_eq_true rfl) rfl (ab_rvOf (w_shv (j := a1k) (by omega) u1 u2) rfl) e5 (by decide) rfl ?_
                refine E_if (t := 84) (b := true) at_X5_copy_73 rfl (by decide) ?_
                refine E_aload_n rfl rfl ?_
                refine E_iconst (x := nI 3) rfl (by decide) ?_
                refine E_callV (v := some (.int (-3))) (As := [.ref 0, .int (nI 3)]) (r0 := []) (cs2 := (ww im lf s d k ls rf rz ra rn rq lt m1 m2 m3 m4 bd (fc.set 3 ((fc.getD 3 0) + (nI 1))) hd sz el s g fm hm so si sh ce ca td wa kp la bf oo bo pw ow tr)) rfl rfl rfl (Nat.le_of_ble_eq_true rfl) rfl (ab_rvOf w0 rfl) (L52_X5_refuse (by omega)) (by decide) w_lens ?_
                exact E_iret rfl rfl
              · show Ev ab_Z0 2 137 [.ref 65, .int (nI a1k), .int (nI a2k), .int a3, .int a4, .int a5] (ww im lf s d k ls rf rz ra rn rq lt m1 m2 m3 m4 bd (fc.set 3 ((fc.getD 3 0) + (nI 1))) hd sz el s g fm hm so si sh ce ca td wa kp la bf oo bo pw ow tr) (some (.int (-3)), (ww im lf s d k ls rf rz ra rn rq lt m1 m2 m3 m4 bd (fc.set 3 ((fc.getD 3 0) + (nI 1))) hd sz el s g (fm.set 3 ((fm.getD 3 0) + (nI 1))) hm so si sh ce ca td wa kp la bf oo bo pw ow tr))
                refine Ef.in (md := mX6_copy) (L := [some (.ref 65), some (.int (nI a1k)), some (.int (nI a2k)), some (.int a3), some (.int a4), some (.int a5), none]) rfl (Nat.le_of_ble_eq_true rfl) rfl ?_
                refine E_aload_n at_X6_copy_0 rfl ?_
                refine E_iload_n at_X6_copy_1 rfl ?_
                refine E_callV (v := some (.int (nI 1))) (As := [.ref 65, .int (nI a1k)]) (r0 := []) (cs2 := (ww im lf s d k ls rf rz ra rn rq lt m1 m2 m3 m4 bd (fc.set 3 ((fc.getD 3 0) + (nI 1))) hd sz el s g fm hm so si sh ce ca td wa kp la bf oo bo pw ow tr)) at_X6_copy_2 rfl rfl (Nat.le_of_ble_eq_true rfl) rfl (ab_rvOf w65 rfl) (L40_X6_isShelf (by omega) (by omega) (by omega)) (by decide) rfl ?_
                refine E_if (t := 16) (b := false) at_X6_copy_5 rfl (by decide) ?_
                refine E_aload_n at_X6_copy_8 rfl ?_
                refine E_iload_n at_X6_copy_9 rfl ?_
                refine E_callV (v := some (.int (nI 1))) (As := [.ref 65, .int (nI a2k)]) (r0 := []) (cs2 := (ww im lf s d k ls rf rz ra rn rq lt m1 m2 m3 m4 bd (fc.set 3 ((fc.getD 3 0) + (nI 1))) hd sz el s g fm hm so si sh ce ca td wa kp la bf oo bo pw ow tr)) at_X6_copy_10 rfl rfl (Nat.le_of_ble_eq_true rfl) rfl (ab_rvOf w65 rfl) (L40_X6_isShelf (by omega) (by omega) (by omega)) (by decide) rfl ?_
                refine E_if (t := 22) (b := true) at_X6_copy_13 rfl (by decide) ?_
                refine E_aload_n at_X6_copy_22 rfl ?_
                refine E_getfield (v := .ref 76) at_X6_copy_23 w65 rfl (by decide) rfl ?_
                refine E_iload_n at_X6_copy_26 rfl ?_
                refine E_ialN (l := hm) (v := hm.getD a1k 0) at_X6_copy_27 w76 (by omega) (by omega) rfl ?_
                refine E_iconst (x := nI 2) at_X6_copy_28 (by decide) ?_
                refine E_ic (t := 77) (b := false) at_X6_copy_29 rfl ((cn_eq (nI_toInt (by omega)) (nI_toInt (by omega))).trans (decide_eq_false (by omega))) ?_
                refine E_aload_n at_X6_copy_32 rfl ?_
                refine E_getfield (v := .ref 76) at_X6_copy_33 w65 rfl (by decide) rfl ?_
                refine E_iload_n at_X6_copy_36 rfl ?_
                refine E_ialN (l := hm) (v := hm.getD a2k 0) at_X6_copy_37 w76 (by omega) (by omega) rfl ?_
                refine E_iconst (x := nI 2) at_X6_copy_38 (by decide) ?_
                refine E_ic (t := 77) (b := false) at_X6_copy_39 rfl ((cn_eq (nI_toInt (by omega)) (nI_toInt (by omega))).trans (decide_eq_false (by omega))) ?_
                refine E_aload_n at_X6_copy_42 rfl ?_
                refine E_getfield (v := .ref 76) at_X6_copy_43 w65 rfl (by decide) rfl ?_
                refine E_iload_n at_X6_copy_46 rfl ?_
                refine E_ialN (l := hm) (v := hm.getD a1k 0) at_X6_copy_47 w76 (by omega) (by omega) rfl ?_
                refine E_iconst (x := nI 1) at_X6_copy_48 (by decide) ?_
                refine E_ic (t := 84) (b := true) at_X6_copy_49 rfl ((cn_ne (nI_toInt (by omega)) (nI_toInt (by omega))).trans (decide_eq_true (by omega))) ?_
                refine E_aload_n at_X6_copy_84 rfl ?_
                refine E_getfield (v := .ref 76) at_X6_copy_85 w65 rfl (by decide) rfl ?_
                refine E_iload_n at_X6_copy_88 rfl ?_
                refine E_ialN (l := hm) (v := hm.getD a1k 0) at_X6_copy_89 w76 (by omega) (by omega) rfl ?_
                refine E_if (t := 102) (b := true) at_X6_copy_90 rfl ((cn_eq (nI_toInt (by omega)) (by decide : (0 : Int32).toInt = 0)).trans (decide_eq_true (by omega))) ?_
                refine E_aload_n rfl rfl ?_
                refine E_bipush (x := (-3)) rfl (by decide) ?_
                refine E_callV (v := some (.int (-3))) (As := [.ref 65, .int (-3)]) (r0 := []) (cs2 := (ww im lf s d k ls rf rz ra rn rq lt m1 m2 m3 m4 bd (fc.set 3 ((fc.getD 3 0) + (nI 1))) hd sz el s g (fm.set 3 ((fm.getD 3 0) + (nI 1))) hm so si sh ce ca td wa kp la bf oo bo pw ow tr)) rfl rfl rfl (Nat.le_of_ble_eq_true rfl) rfl (ab_rvOf w65 rfl) (L53_X6_no (by omega)) (by decide) w_lens ?_
                exact E_iret rfl rfl
              · exact ⟨I, rfl, hf, iQ, iM, iT, iS, l_el, (lr.1), (lr.2.1), (lr.2.2.1), (by simp only [List.length_set]; exact (lr.2.2.2.1)), (by simp only [List.length_set]; exact (lr.2.2.2.2.1)), (lr.2.2.2.2.2.1), (lr.2.2.2.2.2.2.1), (lr.2.2.2.2.2.2.2.1), (lr.2.2.2.2.2.2.2.2.1), (lr.2.2.2.2.2.2.2.2.2.1), (lr.2.2.2.2.2.2.2.2.2.2.1), (lr.2.2.2.2.2.2.2.2.2.2.2.1), (lr.2.2.2.2.2.2.2.2.2.2.2.2.1), (lr.2.2.2.2.2.2.2.2.2.2.2.2.2.1), (lr.2.2.2.2.2.2.2.2.2.2.2.2.2.2.1), (lr.2.2.2.2.2.2.2.2.2.2.2.2.2.2.2.1), (lr.2.2.2.2.2.2.2.2.2.2.2.2.2.2.2.2.1), (lr.2.2.2.2.2.2.2.2.2.2.2.2.2.2.2.2.2.1), (lr.2.2.2.2.2.2.2.2.2.2.2.2.2.2.2.2.2.2.1), (lr.2.2.2.2.2.2.2.2.2.2.2.2.2.2.2.2.2.2.2.1), (lr.2.2.2.2.2.2.2.2.2.2.2.2.2.2.2.2.2.2.2.2)⟩
            · refine ⟨(-2), (im, lf, s, d, k, ls, rf, rz, ra, rn, rq, lt, m1, m2, m3, m4, bd, (fc.set 2 ((fc.getD 2 0) + (nI 1))), hd, sz, el, s, g, fm, hm, so, si, sh, ce, ca, td, wa, kp, la, bf, oo, bo, pw, ow, tr), (im, lf, s, d, k, ls, rf, rz, ra, rn, rq, lt, m1, m2, m3, m4, bd, (fc.set 2 ((fc.getD 2 0) + (nI 1))), hd, sz, el, s, g, (fm.set 2 ((fm.getD 2 0) + (nI 1))), hm, so, si, sh, ce, ca, td, wa, kp, la, bf, oo, bo, pw, ow, tr), ?_, ?_, ?_⟩
              · show Ev ab_Z0 3 78 [.ref 0, .int (nI a1k), .int (nI a2k), .int a3, .int a4, .int a5] (ww im lf s d k ls rf rz ra rn rq lt m1 m2 m3 m4 bd fc hd sz el s g fm hm so si sh ce ca td wa kp la bf oo bo pw ow tr) (some (.int (-2)), (ww im lf s d k ls rf rz ra rn rq lt m1 m2 m3 m4 bd (fc.set 2 ((fc.getD 2 0) + (nI 1))) hd sz el s g fm hm so si sh ce ca td wa kp la bf oo bo pw ow tr))
                refine Ef.in (md := mX5_copy) (L := [some (.ref 0), some (.int (nI a1k)), some (.int (nI a2k)), some (.int a3), some (.int a4), some (.int a5), none, none]) rfl (Nat.le_of_ble_eq_true rfl) rfl ?_
                refine E_iload_n at_X5_copy_0 rfl ?_
                refine E_callS (v := some (.int (nI 1))) (As := [.int (nI a1k)]) (r0 := []) (cs2 := (ww im lf s d k ls rf rz ra rn rq lt m1 m2 m3 m4 bd fc hd sz el s g fm hm so si sh ce ca td wa kp la bf oo bo pw ow tr)) at_X5_copy_1 rfl rfl (Nat.le_of_ble_eq_true rfl) rfl (L39_X5_isShelf (by omega) (by omega) (by omega)) (by decide) rfl ?_
                refine E_if (t := 14) (b := false) at_X5_copy_4 rfl (by decide) ?_
                refine E_iload_n at_X5_copy_7 rfl ?_
                refine E_callS (v := some (.int (nI 1))) (As := [.int (nI a2k)]) (r0 := []) (cs2 := (ww im lf s d k ls rf rz ra rn rq lt m1 m2 m3 m4 bd fc hd sz el s g fm hm so si sh ce ca td wa kp la bf oo bo pw ow tr)) at_X5_copy_8 rfl rfl (Nat.le_of_ble_eq_true rfl) rfl (L39_X5_isShelf (by omega) (by omega) (by omega)) (by decide) rfl ?_
                refine E_if (t := 20) (b := true) at_X5_copy_11 rfl (by decide) ?_
                refine E_aload_n at_X5_copy_20 rfl ?_
                refine E_getfield (v := .ref 31) at_X5_copy_21 w0 rfl (by decide) rfl ?_
                refine E_iload_n at_X5_copy_24 rfl ?_
                refine E_aalN (b := 49 + 2 * a1k) at_X5_copy_25 w31 (by omega) (w_shs (by omega)) ?_
                refine E_astore (L2 := [some (.ref 0), some (.int (nI a1k)), some (.int (nI a2k)), some (.int a3), some (.int a4), some (.int a5), some (.ref (49 + 2 * a1k)), none]) at_X5_copy_26 rfl ?_
                refine E_aload_n at_X5_copy_28 rfl ?_
                refine E_getfield (v := .ref 31) at_X5_copy_29 w0 rfl (by decide) rfl ?_
                refine E_iload_n at_X5_copy_32 rfl ?_
                refine E_aalN (b := 49 + 2 * a2k) at_X5_copy_33 w31 (by omega) (w_shs (by omega)) ?_
                refine E_astore (L2 := [some (.ref 0), some (.int (nI a1k)), some (.int (nI a2k)), some (.int a3), some (.int a4), some (.int a5), some (.ref (49 + 2 * a1k)), some (.ref (49 + 2 * a2k))]) at_X5_copy_34 rfl ?_
                refine E_aload at_X5_copy_36 rfl ?_
                have e1 : Ev ab_Z0 1 33 [.ref (49 + 2 * a1k)] (ww im lf s d k ls rf rz ra rn rq lt m1 m2 m3 m4 bd fc hd sz el s g fm hm so si sh ce ca td wa kp la bf oo bo pw ow tr) (some (.int (nI 0)), (ww im lf s d k ls rf rz ra rn rq lt m1 m2 m3 m4 bd fc hd sz el s g fm hm so si sh ce ca td wa kp la bf oo bo pw ow tr)) := by
                  refine Ef.in (md := mX3_isOtherThanRow) (L := [some (.ref (49 + 2 * a1k))]) rfl (Nat.le_of_ble_eq_true rfl) rfl ?_
                  refine E_aload_n at_X3_isOtherThanRow_0 rfl ?_
                  refine E_getfield (v := .int (-1)) at_X3_isOtherThanRow_1 (w_shv (j := a1k) (by omega) u1 u2) rfl (by decide) rfl ?_
                  refine E_if (t := 20) (b := true) at_X3_isOtherThanRow_4 rfl (by decide) ?_
                  refine E_iconst (x := nI 0) at_X3_isOtherThanRow_20 (by decide) ?_
                  exact E_iret at_X3_isOtherThanRow_21 rfl
                refine E_callV (v := some (.int (nI 0))) (As := [.ref (49 + 2 * a1k)]) (r0 := []) (cs2 := (ww im lf s d k ls rf rz ra rn rq lt m1 m2 m3 m4 bd fc hd sz el s g fm hm so si sh ce ca td wa kp la bf oo bo pw ow tr)) at_X5_copy_38 rfl rfl (Nat.le_of_ble_eq_true rfl) rfl (ab_rvOf (w_shv (j := a1k) (by omega) u1 u2) rfl) e1 (by decide) rfl ?_
                refine E_if (t := 62) (b := false) at_X5_copy_41 rfl (by decide) ?_
                refine E_aload at_X5_copy_44 rfl ?_
                have e2 : Ev ab_Z0 1 33 [.ref (49 + 2 * a2k)] (ww im lf s d k ls rf rz ra rn rq lt m1 m2 m3 m4 bd fc hd sz el s g fm hm so si sh ce ca td wa kp la bf oo bo pw ow tr) (some (.int (nI 1)), (ww im lf s d k ls rf rz ra rn rq lt m1 m2 m3 m4 bd fc hd sz el s g fm hm so si sh ce ca td wa kp la bf oo bo pw ow tr)) := by
                  refine Ef.in (md := mX3_isOtherThanRow) (L := [some (.ref (49 + 2 * a2k))]) rfl (Nat.le_of_ble_eq_true rfl) rfl ?_
                  refine E_aload_n at_X3_isOtherThanRow_0 rfl ?_
                  refine E_getfield (v := .int (nI xq2)) at_X3_isOtherThanRow_1 (w_shv (j := a2k) (by omega) u22 u23) rfl (by decide) rfl ?_
                  refine E_if (t := 20) (b := false) at_X3_isOtherThanRow_4 rfl ((cn_lt (nI_toInt (by omega)) (by decide : (0 : Int32).toInt = 0)).trans (decide_eq_false (by omega))) ?_
                  refine E_aload_n at_X3_isOtherThanRow_7 rfl ?_
                  refine E_getfield (v := .int (nI xq2)) at_X3_isOtherThanRow_8 (w_shv (j := a2k) (by omega) u22 u23) rfl (by decide) rfl ?_
                  refine E_bipush (x := nI 100) at_X3_isOtherThanRow_11 (by decide) ?_
                  refine E_ic (t := 20) (b := false) at_X3_isOtherThanRow_13 rfl ((cn_ge (nI_toInt (by omega)) (nI_toInt (by omega))).trans (decide_eq_false (by omega))) ?_
                  refine E_iconst (x := nI 1) at_X3_isOtherThanRow_16 (by decide) ?_
                  refine E_goto (t := 21) at_X3_isOtherThanRow_17 rfl ?_
                  exact E_iret at_X3_isOtherThanRow_21 rfl
                refine E_callV (v := some (.int (nI 1))) (As := [.ref (49 + 2 * a2k)]) (r0 := []) (cs2 := (ww im lf s d k ls rf rz ra rn rq lt m1 m2 m3 m4 bd fc hd sz el s g fm hm so si sh ce ca td wa kp la bf oo bo pw ow tr)) at_X5_copy_46 rfl rfl (Nat.le_of_ble_eq_true rfl) rfl (ab_rvOf (w_shv (j := a2k) (by omega) u22 u23) rfl) e2 (by decide) rfl ?_
                refine E_if (t := 62) (b := true) at_X5_copy_49 rfl (by decide) ?_
                refine E_aload_n at_X5_copy_62 rfl ?_
                refine E_iconst (x := nI 2) at_X5_copy_63 (by decide) ?_
                refine E_callV (v := some (.int (-2))) (As := [.ref 0, .int (nI 2)]) (r0 := []) (cs2 := (ww im lf s d k ls rf rz ra rn rq lt m1 m2 m3 m4 bd (fc.set 2 ((fc.getD 2 0) + (nI 1))) hd sz el s g fm hm so si sh ce ca td wa kp la bf oo bo pw ow tr)) at_X5_copy_64 rfl rfl (Nat.le_of_ble_eq_true rfl) rfl (ab_rvOf w0 rfl) (L55_X5_refuse (by omega)) (by decide) w_lens ?_
                exact E_iret at_X5_copy_67 rfl
              · show Ev ab_Z0 2 137 [.ref 65, .int (nI a1k), .int (nI a2k), .int a3, .int a4, .int a5] (ww im lf s d k ls rf rz ra rn rq lt m1 m2 m3 m4 bd (fc.set 2 ((fc.getD 2 0) + (nI 1))) hd sz el s g fm hm so si sh ce ca td wa kp la bf oo bo pw ow tr) (some (.int (-2)), (ww im lf s d k ls rf rz ra rn rq lt m1 m2 m3 m4 bd (fc.set 2 ((fc.getD 2 0) + (nI 1))) hd sz el s g (fm.set 2 ((fm.getD 2 0) + (nI 1))) hm so si sh ce ca td wa kp la bf oo bo pw ow tr))
                refine Ef.in (md := mX6_copy) (L := [some (.ref 65), some (.int (nI a1k)), some (.int (nI a2k)), some (.int a3), some (.int a4), some (.int a5), none]) rfl (Nat.le_of_ble_eq_true rfl) rfl ?_
                refine E_aload_n at_X6_copy_0 rfl ?_
                refine E_iload_n at_X6_copy_1 rfl ?_
                refine E_callV (v := some (.int (nI 1))) (As := [.ref 65, .int (nI a1k)]) (r0 := []) (cs2 := (ww im lf s d k ls rf rz ra rn rq lt m1 m2 m3 m4 bd (fc.set 2 ((fc.getD 2 0) + (nI 1))) hd sz el s g fm hm so si sh ce ca td wa kp la bf oo bo pw ow tr)) at_X6_copy_2 rfl rfl (Nat.le_of_ble_eq_true rfl) rfl (ab_rvOf w65 rfl) (L40_X6_isShelf (by omega) (by omega) (by omega)) (by decide) rfl ?_
                refine E_if (t := 16) (b := false) at_X6_copy_5 rfl (by decide) ?_
                refine E_aload_n at_X6_copy_8 rfl ?_
                refine E_iload_n at_X6_copy_9 rfl ?_
                refine E_callV (v := some (.int (nI 1))) (As := [.ref 65, .int (nI a2k)]) (r0 := []) (cs2 := (ww im lf s d k ls rf rz ra rn rq lt m1 m2 m3 m4 bd (fc.set 2 ((fc.getD 2 0) + (nI 1))) hd sz el s g fm hm so si sh ce ca td wa kp la bf oo bo pw ow tr)) at_X6_copy_10 rfl rfl (Nat.le_of_ble_eq_true rfl) rfl (ab_rvOf w65 rfl) (L40_X6_isShelf (by omega) (by omega) (by omega)) (by decide) rfl ?_
                refine E_if (t := 22) (b := true) at_X6_copy_13 rfl (by decide) ?_
                refine E_aload_n at_X6_copy_22 rfl ?_
                refine E_getfield (v := .ref 76) at_X6_copy_23 w65 rfl (by decide) rfl ?_
                refine E_iload_n at_X6_copy_26 rfl ?_
                refine E_ialN (l := hm) (v := hm.getD a1k 0) at_X6_copy_27 w76 (by omega) (by omega) rfl ?_
                refine E_iconst (x := nI 2) at_X6_copy_28 (by decide) ?_
                refine E_ic (t := 77) (b := false) at_X6_copy_29 rfl ((cn_eq (nI_toInt (by omega)) (nI_toInt (by omega))).trans (decide_eq_false (by omega))) ?_
                refine E_aload_n at_X6_copy_32 rfl ?_
                refine E_getfield (v := .ref 76) at_X6_copy_33 w65 rfl (by decide) rfl ?_
                refine E_iload_n at_X6_copy_36 rfl ?_
                refine E_ialN (l := hm) (v := hm.getD a2k 0) at_X6_copy_37 w76 (by omega) (by omega) rfl ?_
                refine E_iconst (x := nI 2) at_X6_copy_38 (by decide) ?_
                refine E_ic (t := 77) (b := true) at_X6_copy_39 rfl ((cn_eq (nI_toInt (by omega)) (nI_toInt (by omega))).trans (decide_eq_true (by omega))) ?_
                refine E_aload_n at_X6_copy_77 rfl ?_
                refine E_bipush (x := (-2)) at_X6_copy_78 (by decide) ?_
                refine E_callV (v := some (.int (-2))) (As := [.ref 65, .int (-2)]) (r0 := []) (cs2 := (ww im lf s d k ls rf rz ra rn rq lt m1 m2 m3 m4 bd (fc.set 2 ((fc.getD 2 0) + (nI 1))) hd sz el s g (fm.set 2 ((fm.getD 2 0) + (nI 1))) hm so si sh ce ca td wa kp la bf oo bo pw ow tr)) at_X6_copy_80 rfl rfl (Nat.le_of_ble_eq_true rfl) rfl (ab_rvOf w65 rfl) (L56_X6_no (by omega)) (by decide) w_lens ?_
                exact E_iret at_X6_copy_83 rfl
              · exact ⟨I, rfl, hf, iQ, iM, iT, iS, l_el, (lr.1), (lr.2.1), (lr.2.2.1), (by simp only [List.length_set]; exact (lr.2.2.2.1)), (by simp only [List.length_set]; exact (lr.2.2.2.2.1)), (lr.2.2.2.2.2.1), (lr.2.2.2.2.2.2.1), (lr.2.2.2.2.2.2.2.1), (lr.2.2.2.2.2.2.2.2.1), (lr.2.2.2.2.2.2.2.2.2.1), (lr.2.2.2.2.2.2.2.2.2.2.1), (lr.2.2.2.2.2.2.2.2.2.2.2.1), (lr.2.2.2.2.2.2.2.2.2.2.2.2.1), (lr.2.2.2.2.2.2.2.2.2.2.2.2.2.1), (lr.2.2.2.2.2.2.2.2.2.2.2.2.2.2.1), (lr.2.2.2.2.2.2.2.2.2.2.2.2.2.2.2.1), (lr.2.2.2.2.2.2.2.2.2.2.2.2.2.2.2.2.1), (lr.2.2.2.2.2.2.2.2.2.2.2.2.2.2.2.2.2.1), (lr.2.2.2.2.2.2.2.2.2.2.2.2.2.2.2.2.2.2.1), (lr.2.2.2.2.2.2.2.2.2.2.2.2.2.2.2.2.2.2.2.1), (lr.2.2.2.2.2.2.2.2.2.2.2.2.2.2.2.2.2.2.2.2)⟩
            · refine ⟨(-3), (im, lf, s, d, k, ls, rf, rz, ra, rn, rq, lt, m1, m2, m3, m4, bd, (fc.set 3 ((fc.getD 3 0) + (nI 1))), hd, sz, el, s, g, fm, hm, so, si, sh, ce, ca, td, wa, kp, la, bf, oo, bo, pw, ow, tr), (im, lf, s, d, k, ls, rf, rz, ra, rn, rq, lt, m1, m2, m3, m4, bd, (fc.set 3 ((fc.getD 3 0) + (nI 1))), hd, sz, el, s, g, (fm.set 3 ((fm.getD 3 0) + (nI 1))), hm, so, si, sh, ce, ca, td, wa, kp, la, bf, oo, bo, pw, ow, tr), ?_, ?_, ?_⟩
              · show Ev ab_Z0 3 78 [.ref 0, .int (nI a1k), .int (nI a2k), .int a3, .int a4, .int a5] (ww im lf s d k ls rf rz ra rn rq lt m1 m2 m3 m4 bd fc hd sz el s g fm hm so si sh ce ca td wa kp la bf oo bo pw ow tr) (some (.int (-3)), (ww im lf s d k ls rf rz ra rn rq lt m1 m2 m3 m4 bd (fc.set 3 ((fc.getD 3 0) + (nI 1))) hd sz el s g fm hm so si sh ce ca td wa kp la bf oo bo pw ow tr))
                refine Ef.in (md := mX5_copy) (L := [some (.ref 0), some (.int (nI a1k)), some (.int (nI a2k)), some (.int a3), some (.int a4), some (.int a5), none, none]) rfl (Nat.le_of_ble_eq_true rfl) rfl ?_
                refine E_iload_n at_X5_copy_0 rfl ?_
                refine E_callS (v := some (.int (nI 1))) (As := [.int (nI a1k)]) (r0 := []) (cs2 := (ww im lf s d k ls rf rz ra rn rq lt m1 m2 m3 m4 bd fc hd sz el s g fm hm so si sh ce ca td wa kp la bf oo bo pw ow tr)) at_X5_copy_1 rfl rfl (Nat.le_of_ble_eq_true rfl) rfl (L39_X5_isShelf (by omega) (by omega) (by omega)) (by decide) rfl ?_
                refine E_if (t := 14) (b := false) at_X5_copy_4 rfl (by decide) ?_
                refine E_iload_n at_X5_copy_7 rfl ?_
                refine E_callS (v := some (.int (nI 1))) (As := [.int (nI a2k)]) (r0 := []) (cs2 := (ww im lf s d k ls rf rz ra rn rq lt m1 m2 m3 m4 bd fc hd sz el s g fm hm so si sh ce ca td wa kp la bf oo bo pw ow tr)) at_X5_copy_8 rfl rfl (Nat.le_of_ble_eq_true rfl) rfl (L39_X5_isShelf (by omega) (by omega) (by omega)) (by decide) rfl ?_
                refine E_if (t := 20) (b := true) at_X5_copy_11 rfl (by decide) ?_
                refine E_aload_n at_X5_copy_20 rfl ?_
                refine E_getfield (v := .ref 31) at_X5_copy_21 w0 rfl (by decide) rfl ?_
                refine E_iload_n at_X5_copy_24 rfl ?_
                refine E_aalN (b := 49 + 2 * a1k) at_X5_copy_25 w31 (by omega) (w_shs (by omega)) ?_
                refine E_astore (L2 := [some (.ref 0), some (.int (nI a1k)), some (.int (nI a2k)), some (.int a3), some (.int a4), some (.int a5), some (.ref (49 + 2 * a1k)), none]) at_X5_copy_26 rfl ?_
                refine E_aload_n at_X5_copy_28 rfl ?_
                refine E_getfield (v := .ref 31) at_X5_copy_29 w0 rfl (by decide) rfl ?_
                refine E_iload_n at_X5_copy_32 rfl ?_
                refine E_aalN (b := 49 + 2 * a2k) at_X5_copy_33 w31 (by omega) (w_shs (by omega)) ?_
                refine E_astore (L2 := [some (.ref 0), some (.int (nI a1k)), some (.int (nI a2k)), some (.int a3), some (.int a4), some (.int a5), some (.ref (49 + 2 * a1k)), some (.ref (49 + 2 * a2k))]) at_X5_copy_34 rfl ?_
                refine E_aload at_X5_copy_36 rfl ?_
                have e1 : Ev ab_Z0 1 33 [.ref (49 + 2 * a1k)] (ww im lf s d k ls rf rz ra rn rq lt m1 m2 m3 m4 bd fc hd sz el s g fm hm so si sh ce ca td wa kp la bf oo bo pw ow tr) (some (.int (nI 0)), (ww im lf s d k ls rf rz ra rn rq lt m1 m2 m3 m4 bd fc hd sz el s g fm hm so si sh ce ca td wa kp la bf oo bo pw ow tr)) := by
                  refine Ef.in (md := mX3_isOtherThanRow) (L := [some (.ref (49 + 2 * a1k))]) rfl (Nat.le_of_ble_eq_true rfl) rfl ?_
                  refine E_aload_n at_X3_isOtherThanRow_0 rfl ?_
                  refine E_getfield (v := .int (-1)) at_X3_isOtherThanRow_1 (w_shv (j := a1k) (by omega) u1 u2) rfl (by decide) rfl ?_
                  refine E_if (t := 20) (b := true) at_X3_isOtherThanRow_4 rfl (by decide) ?_
                  refine E_iconst (x := nI 0) at_X3_isOtherThanRow_20 (by decide) ?_
                  exact E_iret at_X3_isOtherThanRow_21 rfl
                refine E_callV (v := some (.int (nI 0))) (As := [.ref (49 + 2 * a1k)]) (r0 := []) (cs2 := (ww im lf s d k ls rf rz ra rn rq lt m1 m2 m3 m4 bd fc hd sz el s g fm hm so si sh ce ca td wa kp la bf oo bo pw ow tr)) at_X5_copy_38 rfl rfl (Nat.le_of_ble_eq_true rfl) rfl (ab_rvOf (w_shv (j := a1k) (by omega) u1 u2) rfl) e1 (by decide) rfl ?_
                refine E_if (t := 62) (b := false) at_X5_copy_41 rfl (by decide) ?_
                refine E_aload at_X5_copy_44 rfl ?_
                have e2 : Ev ab_Z0 1 33 [.ref (49 + 2 * a2k)] (ww im lf s d k ls rf rz ra rn rq lt m1 m2 m3 m4 bd fc hd sz el s g fm hm so si sh ce ca td wa kp la bf oo bo pw ow tr) (some (.int (nI 0)), (ww im lf s d k ls rf rz ra rn rq lt m1 m2 m3 m4 bd fc hd sz el s g fm hm so si sh ce ca td wa kp la bf oo bo pw ow tr)) := by
                  refine Ef.in (md := mX3_isOtherThanRow) (L := [some (.ref (49 + 2 * a2k))]) rfl (Nat.le_of_ble_eq_true rfl) rfl ?_
                  refine E_aload_n at_X3_isOtherThanRow_0 rfl ?_
                  refine E_getfield (v := .int (nI (100 + so.getD a2k 0))) at_X3_isOtherThanRow_1 (w_shv (j := a2k) (by omega) u21 u22) rfl (by decide) rfl ?_
                  refine E_if (t := 20) (b := false) at_X3_isOtherThanRow_4 rfl ((cn_lt (nI_toInt (by omega)) (by decide : (0 : Int32).toInt = 0)).trans (decide_eq_false (by omega))) ?_
                  refine E_aload_n at_X3_isOtherThanRow_7 rfl ?_
                  refine E_getfield (v := .int (nI (100 + so.getD a2k 0))) at_X3_isOtherThanRow_8 (w_shv (j := a2k) (by omega) u21 u22) rfl (by decide) rfl ?_
                  refine E_bipush (x := nI 100) at_X3_isOtherThanRow_11 (by decide) ?_
                  refine E_ic (t := 20) (b := true) at_X3_isOtherThanRow_13 rfl ((cn_ge (nI_toInt (by omega)) (nI_toInt (by omega))).trans (decide_eq_true (by omega))) ?_
                  refine E_iconst (x := nI 0) at_X3_isOtherThanRow_20 (by decide) ?_
                  exact E_iret at_X3_isOtherThanRow_21 rfl
                refine E_callV (v := some (.int (nI 0))) (As := [.ref (49 + 2 * a2k)]) (r0 := []) (cs2 := (ww im lf s d k ls rf rz ra rn rq lt m1 m2 m3 m4 bd fc hd sz el s g fm hm so si sh ce ca td wa kp la bf oo bo pw ow tr)) at_X5_copy_46 rfl rfl (Nat.le_of_ble_eq_true rfl) rfl (ab_rvOf (w_shv (j := a2k) (by omega) u21 u22) rfl) e2 (by decide) rfl ?_
                refine E_if (t := 62) (b := false) at_X5_copy_49 rfl (by decide) ?_
                refine E_aload at_X5_copy_52 rfl ?_
                refine E_aload at_X5_copy_54 rfl ?_
                have e4 : Ev ab_Z0 2 34 [.ref (49 + 2 * a1k), .ref (49 + 2 * a2k)] (ww im lf s d k ls rf rz ra rn rq lt m1 m2 m3 m4 bd fc hd sz el s g fm hm so si sh ce ca td wa kp la bf oo bo pw ow tr) (some (.int (nI 0)), (ww im lf s d k ls rf rz ra rn rq lt m1 m2 m3 m4 bd fc hd sz el s g fm hm so si sh ce ca td wa kp la bf oo bo pw ow tr)) := by
                  refine Ef.in (md := mX3_isOfOtherSort) (L := [some (.ref (49 + 2 * a1k)), some (.ref (49 + 2 * a2k))]) rfl (Nat.le_of_ble_eq_true rfl) rfl ?_
                  refine E_aload_n at_X3_isOfOtherSort_0 rfl ?_
                  have e3 : Ev ab_Z0 1 32 [.ref (49 + 2 * a1k)] (ww im lf s d k ls rf rz ra rn rq lt m1 m2 m3 m4 bd fc hd sz el s g fm hm so si sh ce ca td wa kp la bf oo bo pw ow tr) (some (.int (nI 1)), (ww im lf s d k ls rf rz ra rn rq lt m1 m2 m3 m4 bd fc hd sz el s g fm hm so si sh ce ca td wa kp la bf oo bo pw ow tr)) := by
                    refine Ef.in (md := mX3_isEmpty) (L := [some (.ref (49 + 2 * a1k))]) rfl (Nat.le_of_ble_eq_true rfl) rfl ?_
                    refine E_aload_n at_X3_isEmpty_0 rfl ?_
                    refine E_getfield (v := .int (-1)) at_X3_isEmpty_1 (w_shv (j := a1k) (by omega) u1 u2) rfl (by decide) rfl ?_
                    refine E_iconst (x := (-1)) at_X3_isEmpty_4 (by decide) ?_
                    refine E_ic (t := 12) (b := false) at_X3_isEmpty_5 rfl (by decide) ?_
                    refine E_iconst (x := nI 1) at_X3_isEmpty_8 (by decide) ?_
                    refine E_goto (t := 13) at_X3_isEmpty_9 rfl ?_
                    exact E_iret at_X3_isEmpty_13 rfl
                  refine E_callV (v := some (.int (nI 1))) (As := [.ref (49 + 2 * a1k)]) (r0 := []) (cs2 := (ww im lf s d k ls rf rz ra rn rq lt m1 m2 m3 m4 bd fc hd sz el s g fm hm so si sh ce ca td wa kp la bf oo bo pw ow tr)) at_X3_isOfOtherSort_1 rfl rfl (Nat.le_of_ble_eq_true rfl) rfl (ab_rvOf (w_shv (j := a1k) (by omega) u1 u2) rfl) e3 (by decide) rfl ?_
                  refine E_if (t := 29) (b := true) at_X3_isOfOtherSort_4 rfl (by decide) ?_
                  refine E_iconst (x := nI 0) at_X3_isOfOtherSort_29 (by decide) ?_
                  exact E_iret at_X3_isOfOtherSort_30 rfl
                refine E_callV (v := some (.int (nI 0))) (As := [.ref (49 + 2 * a1k), .ref (49 + 2 * a2k)]) (r0 := []) (cs2 := (ww im lf s d k ls rf rz ra rn rq lt m1 m2 m3 m4 bd fc hd sz el s g fm hm so si sh ce ca td wa kp la bf oo bo pw ow tr)) at_X5_copy_56 rfl rfl (Nat.le_of_ble_eq_true rfl) rfl (ab_rvOf (w_shv (j := a1k) (by omega) u1 u2) rfl) e4 (by decide) rfl ?_
                refine E_if (t := 68) (b := true) at_X5_copy_59 rfl (by decide) ?_
                refine E_aload at_X5_copy_68 rfl ?_
                have e5 : Ev ab_Z0 1 32 [.ref (49 + 2 * a1k)] (ww im lf s d k ls rf rz ra rn rq lt m1 m2 m3 m4 bd fc hd sz el s g fm hm so si sh ce ca td wa kp la bf oo bo pw ow tr) (some (.int (nI 1)), (ww im lf s d k ls rf rz ra rn rq lt m1 m2 m3 m4 bd fc hd sz el s g fm hm so si sh ce ca td wa kp la bf oo bo pw ow tr)) := by
                  refine Ef.in (md := mX3_isEmpty) (L := [some (.ref (49 + 2 * a1k))]) rfl (Nat.le_of_ble_eq_true rfl) rfl ?_
                  refine E_aload_n at_X3_isEmpty_0 rfl ?_
                  refine E_getfield (v := .int (-1)) at_X3_isEmpty_1 (w_shv (j := a1k) (by omega) u1 u2) rfl (by decide) rfl ?_
                  refine E_iconst (x := (-1)) at_X3_isEmpty_4 (by decide) ?_
                  refine E_ic (t := 12) (b := false) at_X3_isEmpty_5 rfl (by decide) ?_
                  refine E_iconst (x := nI 1) at_X3_isEmpty_8 (by decide) ?_
                  refine E_goto (t := 13) at_X3_isEmpty_9 rfl ?_
                  exact E_iret at_X3_isEmpty_13 rfl
                refine E_callV (v := some (.int (nI 1))) (As := [.ref (49 + 2 * a1k)]) (r0 := []) (cs2 := (ww im lf s d k ls rf rz ra rn rq lt m1 m2 m3 m4 bd fc hd sz el s g fm hm so si sh ce ca td wa kp la bf oo bo pw ow tr)) at_X5_copy_70 rfl rfl (Nat.le_of_ble_eq_true rfl) rfl (ab_rvOf (w_shv (j := a1k) (by omega) u1 u2) rfl) e5 (by decide) rfl ?_
                refine E_if (t := 84) (b := true) at_X5_copy_73 rfl (by decide) ?_
                refine E_aload_n rfl rfl ?_
                refine E_iconst (x := nI 3) rfl (by decide) ?_
                refine E_callV (v := some (.int (-3))) (As := [.ref 0, .int (nI 3)]) (r0 := []) (cs2 := (ww im lf s d k ls rf rz ra rn rq lt m1 m2 m3 m4 bd (fc.set 3 ((fc.getD 3 0) + (nI 1))) hd sz el s g fm hm so si sh ce ca td wa kp la bf oo bo pw ow tr)) rfl rfl rfl (Nat.le_of_ble_eq_true rfl) rfl (ab_rvOf w0 rfl) (L52_X5_refuse (by omega)) (by decide) w_lens ?_
                exact E_iret rfl rfl
              · show Ev ab_Z0 2 137 [.ref 65, .int (nI a1k), .int (nI a2k), .int a3, .int a4, .int a5] (ww im lf s d k ls rf rz ra rn rq lt m1 m2 m3 m4 bd (fc.set 3 ((fc.getD 3 0) + (nI 1))) hd sz el s g fm hm so si sh ce ca td wa kp la bf oo bo pw ow tr) (some (.int (-3)), (ww im lf s d k ls rf rz ra rn rq lt m1 m2 m3 m4 bd (fc.set 3 ((fc.getD 3 0) + (nI 1))) hd sz el s g (fm.set 3 ((fm.getD 3 0) + (nI 1))) hm so si sh ce ca td wa kp la bf oo bo pw ow tr))
                refine Ef.in (md := mX6_copy) (L := [some (.ref 65), some (.int (nI a1k)), some (.int (nI a2k)), some (.int a3), some (.int a4), some (.int a5), none]) rfl (Nat.le_of_ble_eq_true rfl) rfl ?_
                refine E_aload_n at_X6_copy_0 rfl ?_
                refine E_iload_n at_X6_copy_1 rfl ?_
                refine E_callV (v := some (.int (nI 1))) (As := [.ref 65, .int (nI a1k)]) (r0 := []) (cs2 := (ww im lf s d k ls rf rz ra rn rq lt m1 m2 m3 m4 bd (fc.set 3 ((fc.getD 3 0) + (nI 1))) hd sz el s g fm hm so si sh ce ca td wa kp la bf oo bo pw ow tr)) at_X6_copy_2 rfl rfl (Nat.le_of_ble_eq_true rfl) rfl (ab_rvOf w65 rfl) (L40_X6_isShelf (by omega) (by omega) (by omega)) (by decide) rfl ?_
                refine E_if (t := 16) (b := false) at_X6_copy_5 rfl (by decide) ?_
                refine E_aload_n at_X6_copy_8 rfl ?_
                refine E_iload_n at_X6_copy_9 rfl ?_
                refine E_callV (v := some (.int (nI 1))) (As := [.ref 65, .int (nI a2k)]) (r0 := []) (cs2 := (ww im lf s d k ls rf rz ra rn rq lt m1 m2 m3 m4 bd (fc.set 3 ((fc.getD 3 0) + (nI 1))) hd sz el s g fm hm so si sh ce ca td wa kp la bf oo bo pw ow tr)) at_X6_copy_10 rfl rfl (Nat.le_of_ble_eq_true rfl) rfl (ab_rvOf w65 rfl) (L40_X6_isShelf (by omega) (by omega) (by omega)) (by decide) rfl ?_
                refine E_if (t := 22) (b := true) at_X6_copy_13 rfl (by decide) ?_
                refine E_aload_n at_X6_copy_22 rfl ?_
                refine E_getfield (v := .ref 76) at_X6_copy_23 w65 rfl (by decide) rfl ?_
                refine E_iload_n at_X6_copy_26 rfl ?_
                refine E_ialN (l := hm) (v := hm.getD a1k 0) at_X6_copy_27 w76 (by omega) (by omega) rfl ?_
                refine E_iconst (x := nI 2) at_X6_copy_28 (by decide) ?_
                refine E_ic (t := 77) (b := false) at_X6_copy_29 rfl ((cn_eq (nI_toInt (by omega)) (nI_toInt (by omega))).trans (decide_eq_false (by omega))) ?_
                refine E_aload_n at_X6_copy_32 rfl ?_
                refine E_getfield (v := .ref 76) at_X6_copy_33 w65 rfl (by decide) rfl ?_
                refine E_iload_n at_X6_copy_36 rfl ?_
                refine E_ialN (l := hm) (v := hm.getD a2k 0) at_X6_copy_37 w76 (by omega) (by omega) rfl ?_
                refine E_iconst (x := nI 2) at_X6_copy_38 (by decide) ?_
                refine E_ic (t := 77) (b := false) at_X6_copy_39 rfl ((cn_eq (nI_toInt (by omega)) (nI_toInt (by omega))).trans (decide_eq_false (by omega))) ?_
                refine E_aload_n at_X6_copy_42 rfl ?_
                refine E_getfield (v := .ref 76) at_X6_copy_43 w65 rfl (by decide) rfl ?_
                refine E_iload_n at_X6_copy_46 rfl ?_
                refine E_ialN (l := hm) (v := hm.getD a1k 0) at_X6_copy_47 w76 (by omega) (by omega) rfl ?_
                refine E_iconst (x := nI 1) at_X6_copy_48 (by decide) ?_
                refine E_ic (t := 84) (b := true) at_X6_copy_49 rfl ((cn_ne (nI_toInt (by omega)) (nI_toInt (by omega))).trans (decide_eq_true (by omega))) ?_
                refine E_aload_n at_X6_copy_84 rfl ?_
                refine E_getfield (v := .ref 76) at_X6_copy_85 w65 rfl (by decide) rfl ?_
                refine E_iload_n at_X6_copy_88 rfl ?_
                refine E_ialN (l := hm) (v := hm.getD a1k 0) at_X6_copy_89 w76 (by omega) (by omega) rfl ?_
                refine E_if (t := 102) (b := true) at_X6_copy_90 rfl ((cn_eq (nI_toInt (by omega)) (by decide : (0 : Int32).toInt = 0)).trans (decide_eq_true (by omega))) ?_
                refine E_aload_n rfl rfl ?_
                refine E_bipush (x := (-3)) rfl (by decide) ?_
                refine E_callV (v := some (.int (-3))) (As := [.ref 65, .int (-3)]) (r0 := []) (cs2 := (ww im lf s d k ls rf rz ra rn rq lt m1 m2 m3 m4 bd (fc.set 3 ((fc.getD 3 0) + (nI 1))) hd sz el s g (fm.set 3 ((fm.getD 3 0) + (nI 1))) hm so si sh ce ca td wa kp la bf oo bo pw ow tr)) rfl rfl rfl (Nat.le_of_ble_eq_true rfl) rfl (ab_rvOf w65 rfl) (L53_X6_no (by omega)) (by decide) w_lens ?_
                exact E_iret rfl rfl
              · exact ⟨I, rfl, hf, iQ, iM, iT, iS, l_el, (lr.1), (lr.2.1), (lr.2.2.1), (by simp only [List.length_set]; exact (lr.2.2.2.1)), (by simp only [List.length_set]; exact (lr.2.2.2.2.1)), (lr.2.2.2.2.2.1), (lr.2.2.2.2.2.2.1), (lr.2.2.2.2.2.2.2.1), (lr.2.2.2.2.2.2.2.2.1), (lr.2.2.2.2.2.2.2.2.2.1), (lr.2.2.2.2.2.2.2.2.2.2.1), (lr.2.2.2.2.2.2.2.2.2.2.2.1), (lr.2.2.2.2.2.2.2.2.2.2.2.2.1), (lr.2.2.2.2.2.2.2.2.2.2.2.2.2.1), (lr.2.2.2.2.2.2.2.2.2.2.2.2.2.2.1), (lr.2.2.2.2.2.2.2.2.2.2.2.2.2.2.2.1), (lr.2.2.2.2.2.2.2.2.2.2.2.2.2.2.2.2.1), (lr.2.2.2.2.2.2.2.2.2.2.2.2.2.2.2.2.2.1), (lr.2.2.2.2.2.2.2.2.2.2.2.2.2.2.2.2.2.2.1), (lr.2.2.2.2.2.2.2.2.2.2.2.2.2.2.2.2.2.2.2.1), (lr.2.2.2.2.2.2.2.2.2.2.2.2.2.2.2.2.2.2.2.2)⟩
          · refine ⟨(-2), (im, lf, s, d, k, ls, rf, rz, ra, rn, rq, lt, m1, m2, m3, m4, bd, (fc.set 2 ((fc.getD 2 0) + (nI 1))), hd, sz, el, s, g, fm, hm, so, si, sh, ce, ca, td, wa, kp, la, bf, oo, bo, pw, ow, tr), (im, lf, s, d, k, ls, rf, rz, ra, rn, rq, lt, m1, m2, m3, m4, bd, (fc.set 2 ((fc.getD 2 0) + (nI 1))), hd, sz, el, s, g, (fm.set 2 ((fm.getD 2 0) + (nI 1))), hm, so, si, sh, ce, ca, td, wa, kp, la, bf, oo, bo, pw, ow, tr), ?_, ?_, ?_⟩
            · show Ev ab_Z0 3 78 [.ref 0, .int (nI a1k), .int (nI a2k), .int a3, .int a4, .int a5] (ww im lf s d k ls rf rz ra rn rq lt m1 m2 m3 m4 bd fc hd sz el s g fm hm so si sh ce ca td wa kp la bf oo bo pw ow tr) (some (.int (-2)), (ww im lf s d k ls rf rz ra rn rq lt m1 m2 m3 m4 bd (fc.set 2 ((fc.getD 2 0) + (nI 1))) hd sz el s g fm hm so si sh ce ca td wa kp la bf oo bo pw ow tr))
              refine Ef.in (md := mX5_copy) (L := [some (.ref 0), some (.int (nI a1k)), some (.int (nI a2k)), some (.int a3), some (.int a4), some (.int a5), none, none]) rfl (Nat.le_of_ble_eq_true rfl) rfl ?_
              refine E_iload_n at_X5_copy_0 rfl ?_
              refine E_callS (v := some (.int (nI 1))) (As := [.int (nI a1k)]) (r0 := []) (cs2 := (ww im lf s d k ls rf rz ra rn rq lt m1 m2 m3 m4 bd fc hd sz el s g fm hm so si sh ce ca td wa kp la bf oo bo pw ow tr)) at_X5_copy_1 rfl rfl (Nat.le_of_ble_eq_true rfl) rfl (L39_X5_isShelf (by omega) (by omega) (by omega)) (by decide) rfl ?_
              refine E_if (t := 14) (b := false) at_X5_copy_4 rfl (by decide) ?_
              refine E_iload_n at_X5_copy_7 rfl ?_
              refine E_callS (v := some (.int (nI 1))) (As := [.int (nI a2k)]) (r0 := []) (cs2 := (ww im lf s d k ls rf rz ra rn rq lt m1 m2 m3 m4 bd fc hd sz el s g fm hm so si sh ce ca td wa kp la bf oo bo pw ow tr)) at_X5_copy_8 rfl rfl (Nat.le_of_ble_eq_true rfl) rfl (L39_X5_isShelf (by omega) (by omega) (by omega)) (by decide) rfl ?_
              refine E_if (t := 20) (b := true) at_X5_copy_11 rfl (by decide) ?_
              refine E_aload_n at_X5_copy_20 rfl ?_
              refine E_getfield (v := .ref 31) at_X5_copy_21 w0 rfl (by decide) rfl ?_
              refine E_iload_n at_X5_copy_24 rfl ?_
              refine E_aalN (b := 49 + 2 * a1k) at_X5_copy_25 w31 (by omega) (w_shs (by omega)) ?_
              refine E_astore (L2 := [some (.ref 0), some (.int (nI a1k)), some (.int (nI a2k)), some (.int a3), some (.int a4), some (.int a5), some (.ref (49 + 2 * a1k)), none]) at_X5_copy_26 rfl ?_
              refine E_aload_n at_X5_copy_28 rfl ?_
              refine E_getfield (v := .ref 31) at_X5_copy_29 w0 rfl (by decide) rfl ?_
              refine E_iload_n at_X5_copy_32 rfl ?_
              refine E_aalN (b := 49 + 2 * a2k) at_X5_copy_33 w31 (by omega) (w_shs (by omega)) ?_
              refine E_astore (L2 := [some (.ref 0), some (.int (nI a1k)), some (.int (nI a2k)), some (.int a3), some (.int a4), some (.int a5), some (.ref (49 + 2 * a1k)), some (.ref (49 + 2 * a2k))]) at_X5_copy_34 rfl ?_
              refine E_aload at_X5_copy_36 rfl ?_
              have e1 : Ev ab_Z0 1 33 [.ref (49 + 2 * a1k)] (ww im lf s d k ls rf rz ra rn rq lt m1 m2 m3 m4 bd fc hd sz el s g fm hm so si sh ce ca td wa kp la bf oo bo pw ow tr) (some (.int (nI 1)), (ww im lf s d k ls rf rz ra rn rq lt m1 m2 m3 m4 bd fc hd sz el s g fm hm so si sh ce ca td wa kp la bf oo bo pw ow tr)) := by
                refine Ef.in (md := mX3_isOtherThanRow) (L := [some (.ref (49 + 2 * a1k))]) rfl (Nat.le_of_ble_eq_true rfl) rfl ?_
                refine E_aload_n at_X3_isOtherThanRow_0 rfl ?_
                refine E_getfield (v := .int (nI xq)) at_X3_isOtherThanRow_1 (w_shv (j := a1k) (by omega) u2 u3) rfl (by decide) rfl ?_
                refine E_if (t := 20) (b := false) at_X3_isOtherThanRow_4 rfl ((cn_lt (nI_toInt (by omega)) (by decide : (0 : Int32).toInt = 0)).trans (decide_eq_false (by omega))) ?_
                refine E_aload_n at_X3_isOtherThanRow_7 rfl ?_
                refine E_getfield (v := .int (nI xq)) at_X3_isOtherThanRow_8 (w_shv (j := a1k) (by omega) u2 u3) rfl (by decide) rfl ?_
                refine E_bipush (x := nI 100) at_X3_isOtherThanRow_11 (by decide) ?_
                refine E_ic (t := 20) (b := false) at_X3_isOtherThanRow_13 rfl ((cn_ge (nI_toInt (by omega)) (nI_toInt (by omega))).trans (decide_eq_false (by omega))) ?_
                refine E_iconst (x := nI 1) at_X3_isOtherThanRow_16 (by decide) ?_
                refine E_goto (t := 21) at_X3_isOtherThanRow_17 rfl ?_
                exact E_iret at_X3_isOtherThanRow_21 rfl
              refine E_callV (v := some (.int (nI 1))) (As := [.ref (49 + 2 * a1k)]) (r0 := []) (cs2 := (ww im lf s d k ls rf rz ra rn rq lt m1 m2 m3 m4 bd fc hd sz el s g fm hm so si sh ce ca td wa kp la bf oo bo pw ow tr)) at_X5_copy_38 rfl rfl (Nat.le_of_ble_eq_true rfl) rfl (ab_rvOf (w_shv (j := a1k) (by omega) u2 u3) rfl) e1 (by decide) rfl ?_
              refine E_if (t := 62) (b := true) at_X5_copy_41 rfl (by decide) ?_
              refine E_aload_n at_X5_copy_62 rfl ?_
              refine E_iconst (x := nI 2) at_X5_copy_63 (by decide) ?_
              refine E_callV (v := some (.int (-2))) (As := [.ref 0, .int (nI 2)]) (r0 := []) (cs2 := (ww im lf s d k ls rf rz ra rn rq lt m1 m2 m3 m4 bd (fc.set 2 ((fc.getD 2 0) + (nI 1))) hd sz el s g fm hm so si sh ce ca td wa kp la bf oo bo pw ow tr)) at_X5_copy_64 rfl rfl (Nat.le_of_ble_eq_true rfl) rfl (ab_rvOf w0 rfl) (L55_X5_refuse (by omega)) (by decide) w_lens ?_
              exact E_iret at_X5_copy_67 rfl
            · show Ev ab_Z0 2 137 [.ref 65, .int (nI a1k), .int (nI a2k), .int a3, .int a4, .int a5] (ww im lf s d k ls rf rz ra rn rq lt m1 m2 m3 m4 bd (fc.set 2 ((fc.getD 2 0) + (nI 1))) hd sz el s g fm hm so si sh ce ca td wa kp la bf oo bo pw ow tr) (some (.int (-2)), (ww im lf s d k ls rf rz ra rn rq lt m1 m2 m3 m4 bd (fc.set 2 ((fc.getD 2 0) + (nI 1))) hd sz el s g (fm.set 2 ((fm.getD 2 0) + (nI 1))) hm so si sh ce ca td wa kp la bf oo bo pw ow tr))
              refine Ef.in (md := mX6_copy) (L := [some (.ref 65), some (.int (nI a1k)), some (.int (nI a2k)), some (.int a3), some (.int a4), some (.int a5), none]) rfl (Nat.le_of_ble_eq_true rfl) rfl ?_
              refine E_aload_n at_X6_copy_0 rfl ?_
              refine E_iload_n at_X6_copy_1 rfl ?_
              refine E_callV (v := some (.int (nI 1))) (As := [.ref 65, .int (nI a1k)]) (r0 := []) (cs2 := (ww im lf s d k ls rf rz ra rn rq lt m1 m2 m3 m4 bd (fc.set 2 ((fc.getD 2 0) + (nI 1))) hd sz el s g fm hm so si sh ce ca td wa kp la bf oo bo pw ow tr)) at_X6_copy_2 rfl rfl (Nat.le_of_ble_eq_true rfl) rfl (ab_rvOf w65 rfl) (L40_X6_isShelf (by omega) (by omega) (by omega)) (by decide) rfl ?_
              refine E_if (t := 16) (b := false) at_X6_copy_5 rfl (by decide) ?_
              refine E_aload_n at_X6_copy_8 rfl ?_
              refine E_iload_n at_X6_copy_9 rfl ?_
              refine E_callV (v := some (.int (nI 1))) (As := [.ref 65, .int (nI a2k)]) (r0 := []) (cs2 := (ww im lf s d k ls rf rz ra rn rq lt m1 m2 m3 m4 bd (fc.set 2 ((fc.getD 2 0) + (nI 1))) hd sz el s g fm hm so si sh ce ca td wa kp la bf oo bo pw ow tr)) at_X6_copy_10 rfl rfl (Nat.le_of_ble_eq_true rfl) rfl (ab_rvOf w65 rfl) (L40_X6_isShelf (by omega) (by omega) (by omega)) (by decide) rfl ?_
              refine E_if (t := 22) (b := true) at_X6_copy_13 rfl (by decide) ?_
              refine E_aload_n at_X6_copy_22 rfl ?_
              refine E_getfield (v := .ref 76) at_X6_copy_23 w65 rfl (by decide) rfl ?_
              refine E_iload_n at_X6_copy_26 rfl ?_
              refine E_ialN (l := hm) (v := hm.getD a1k 0) at_X6_copy_27 w76 (by omega) (by omega) rfl ?_
              refine E_iconst (x := nI 2) at_X6_copy_28 (by decide) ?_
              refine E_ic (t := 77) (b := true) at_X6_copy_29 rfl ((cn_eq (nI_toInt (by omega)) (nI_toInt (by omega))).trans (decide_eq_true (by omega))) ?_
              refine E_aload_n at_X6_copy_77 rfl ?_
              refine E_bipush (x := (-2)) at_X6_copy_78 (by decide) ?_
              refine E_callV (v := some (.int (-2))) (As := [.ref 65, .int (-2)]) (r0 := []) (cs2 := (ww im lf s d k ls rf rz ra rn rq lt m1 m2 m3 m4 bd (fc.set 2 ((fc.getD 2 0) + (nI 1))) hd sz el s g (fm.set 2 ((fm.getD 2 0) + (nI 1))) hm so si sh ce ca td wa kp la bf oo bo pw ow tr)) at_X6_copy_80 rfl rfl (Nat.le_of_ble_eq_true rfl) rfl (ab_rvOf w65 rfl) (L56_X6_no (by omega)) (by decide) w_lens ?_
              exact E_iret at_X6_copy_83 rfl
            · exact ⟨I, rfl, hf, iQ, iM, iT, iS, l_el, (lr.1), (lr.2.1), (lr.2.2.1), (by simp only [List.length_set]; exact (lr.2.2.2.1)), (by simp only [List.length_set]; exact (lr.2.2.2.2.1)), (lr.2.2.2.2.2.1), (lr.2.2.2.2.2.2.1), (lr.2.2.2.2.2.2.2.1), (lr.2.2.2.2.2.2.2.2.1), (lr.2.2.2.2.2.2.2.2.2.1), (lr.2.2.2.2.2.2.2.2.2.2.1), (lr.2.2.2.2.2.2.2.2.2.2.2.1), (lr.2.2.2.2.2.2.2.2.2.2.2.2.1), (lr.2.2.2.2.2.2.2.2.2.2.2.2.2.1), (lr.2.2.2.2.2.2.2.2.2.2.2.2.2.2.1), (lr.2.2.2.2.2.2.2.2.2.2.2.2.2.2.2.1), (lr.2.2.2.2.2.2.2.2.2.2.2.2.2.2.2.2.1), (lr.2.2.2.2.2.2.2.2.2.2.2.2.2.2.2.2.2.1), (lr.2.2.2.2.2.2.2.2.2.2.2.2.2.2.2.2.2.2.1), (lr.2.2.2.2.2.2.2.2.2.2.2.2.2.2.2.2.2.2.2.1), (lr.2.2.2.2.2.2.2.2.2.2.2.2.2.2.2.2.2.2.2.2)⟩
          · rcases iS a2k (by omega) with ⟨u21, u22, u23⟩ | ⟨xq2, u21, u22, u23, u24, u25⟩ | ⟨u21, u22, u23, u24, u25, u26⟩
            · refine ⟨(-3), (im, lf, s, d, k, ls, rf, rz, ra, rn, rq, lt, m1, m2, m3, m4, bd, (fc.set 3 ((fc.getD 3 0) + (nI 1))), hd, sz, el, s, g, fm, hm, so, si, sh, ce, ca, td, wa, kp, la, bf, oo, bo, pw, ow, tr), (im, lf, s, d, k, ls, rf, rz, ra, rn, rq, lt, m1, m2, m3, m4, bd, (fc.set 3 ((fc.getD 3 0) + (nI 1))), hd, sz, el, s, g, (fm.set 3 ((fm.getD 3 0) + (nI 1))), hm, so, si, sh, ce, ca, td, wa, kp, la, bf, oo, bo, pw, ow, tr), ?_, ?_, ?_⟩
              · show Ev ab_Z0 3 78 [.ref 0, .int (nI a1k), .int (nI a2k), .int a3, .int a4, .int a5] (ww im lf s d k ls rf rz ra rn rq lt m1 m2 m3 m4 bd fc hd sz el s g fm hm so si sh ce ca td wa kp la bf oo bo pw ow tr) (some (.int (-3)), (ww im lf s d k ls rf rz ra rn rq lt m1 m2 m3 m4 bd (fc.set 3 ((fc.getD 3 0) + (nI 1))) hd sz el s g fm hm so si sh ce ca td wa kp la bf oo bo pw ow tr))
                refine Ef.in (md := mX5_copy) (L := [some (.ref 0), some (.int (nI a1k)), some (.int (nI a2k)), some (.int a3), some (.int a4), some (.int a5), none, none]) rfl (Nat.le_of_ble_eq_true rfl) rfl ?_
                refine E_iload_n at_X5_copy_0 rfl ?_
                refine E_callS (v := some (.int (nI 1))) (As := [.int (nI a1k)]) (r0 := []) (cs2 := (ww im lf s d k ls rf rz ra rn rq lt m1 m2 m3 m4 bd fc hd sz el s g fm hm so si sh ce ca td wa kp la bf oo bo pw ow tr)) at_X5_copy_1 rfl rfl (Nat.le_of_ble_eq_true rfl) rfl (L39_X5_isShelf (by omega) (by omega) (by omega)) (by decide) rfl ?_
                refine E_if (t := 14) (b := false) at_X5_copy_4 rfl (by decide) ?_
                refine E_iload_n at_X5_copy_7 rfl ?_
                refine E_callS (v := some (.int (nI 1))) (As := [.int (nI a2k)]) (r0 := []) (cs2 := (ww im lf s d k ls rf rz ra rn rq lt m1 m2 m3 m4 bd fc hd sz el s g fm hm so si sh ce ca td wa kp la bf oo bo pw ow tr)) at_X5_copy_8 rfl rfl (Nat.le_of_ble_eq_true rfl) rfl (L39_X5_isShelf (by omega) (by omega) (by omega)) (by decide) rfl ?_
                refine E_if (t := 20) (b := true) at_X5_copy_11 rfl (by decide) ?_
                refine E_aload_n at_X5_copy_20 rfl ?_
                refine E_getfield (v := .ref 31) at_X5_copy_21 w0 rfl (by decide) rfl ?_
                refine E_iload_n at_X5_copy_24 rfl ?_
                refine E_aalN (b := 49 + 2 * a1k) at_X5_copy_25 w31 (by omega) (w_shs (by omega)) ?_
                refine E_astore (L2 := [some (.ref 0), some (.int (nI a1k)), some (.int (nI a2k)), some (.int a3), some (.int a4), some (.int a5), some (.ref (49 + 2 * a1k)), none]) at_X5_copy_26 rfl ?_
                refine E_aload_n at_X5_copy_28 rfl ?_
                refine E_getfield (v := .ref 31) at_X5_copy_29 w0 rfl (by decide) rfl ?_
                refine E_iload_n at_X5_copy_32 rfl ?_
                refine E_aalN (b := 49 + 2 * a2k) at_X5_copy_33 w31 (by omega) (w_shs (by omega)) ?_
                refine E_astore (L2 := [some (.ref 0), some (.int (nI a1k)), some (.int (nI a2k)), some (.int a3), some (.int a4), some (.int a5), some (.ref (49 + 2 * a1k)), some (.ref (49 + 2 * a2k))]) at_X5_copy_34 rfl ?_
                refine E_aload at_X5_copy_36 rfl ?_
                have e1 : Ev ab_Z0 1 33 [.ref (49 + 2 * a1k)] (ww im lf s d k ls rf rz ra rn rq lt m1 m2 m3 m4 bd fc hd sz el s g fm hm so si sh ce ca td wa kp la bf oo bo pw ow tr) (some (.int (nI 0)), (ww im lf s d k ls rf rz ra rn rq lt m1 m2 m3 m4 bd fc hd sz el s g fm hm so si sh ce ca td wa kp la bf oo bo pw ow tr)) := by
                  refine Ef.in (md := mX3_isOtherThanRow) (L := [some (.ref (49 + 2 * a1k))]) rfl (Nat.le_of_ble_eq_true rfl) rfl ?_
                  refine E_aload_n at_X3_isOtherThanRow_0 rfl ?_
                  refine E_getfield (v := .int (nI (100 + so.getD a1k 0))) at_X3_isOtherThanRow_1 (w_shv (j := a1k) (by omega) u1 u2) rfl (by decide) rfl ?_
                  refine E_if (t := 20) (b := false) at_X3_isOtherThanRow_4 rfl ((cn_lt (nI_toInt (by omega)) (by decide : (0 : Int32).toInt = 0)).trans (decide_eq_false (by omega))) ?_
                  refine E_aload_n at_X3_isOtherThanRow_7 rfl ?_
                  refine E_getfield (v := .int (nI (100 + so.getD a1k 0))) at_X3_isOtherThanRow_8 (w_shv (j := a1k) (by omega) u1 u2) rfl (by decide) rfl ?_
                  refine E_bipush (x := nI 100) at_X3_isOtherThanRow_11 (by decide) ?_
                  refine E_ic (t := 20) (b := true) at_X3_isOtherThanRow_13 rfl ((cn_ge (nI_toInt (by omega)) (nI_toInt (by omega))).trans (decide_eq_true (by omega))) ?_
                  refine E_iconst (x := nI 0) at_X3_isOtherThanRow_20 (by decide) ?_
                  exact E_iret at_X3_isOtherThanRow_21 rfl
                refine E_callV (v := some (.int (nI 0))) (As := [.ref (49 + 2 * a1k)]) (r0 := []) (cs2 := (ww im lf s d k ls rf rz ra rn rq lt m1 m2 m3 m4 bd fc hd sz el s g fm hm so si sh ce ca td wa kp la bf oo bo pw ow tr)) at_X5_copy_38 rfl rfl (Nat.le_of_ble_eq_true rfl) rfl (ab_rvOf (w_shv (j := a1k) (by omega) u1 u2) rfl) e1 (by decide) rfl ?_
                refine E_if (t := 62) (b := false) at_X5_copy_41 rfl (by decide) ?_
                refine E_aload at_X5_copy_44 rfl ?_
                have e2 : Ev ab_Z0 1 33 [.ref (49 + 2 * a2k)] (ww im lf s d k ls rf rz ra rn rq lt m1 m2 m3 m4 bd fc hd sz el s g fm hm so si sh ce ca td wa kp la bf oo bo pw ow tr) (some (.int (nI 0)), (ww im lf s d k ls rf rz ra rn rq lt m1 m2 m3 m4 bd fc hd sz el s g fm hm so si sh ce ca td wa kp la bf oo bo pw ow tr)) := by
                  refine Ef.in (md := mX3_isOtherThanRow) (L := [some (.ref (49 + 2 * a2k))]) rfl (Nat.le_of_ble_eq_true rfl) rfl ?_
                  refine E_aload_n at_X3_isOtherThanRow_0 rfl ?_
                  refine E_getfield (v := .int (-1)) at_X3_isOtherThanRow_1 (w_shv (j := a2k) (by omega) u21 u22) rfl (by decide) rfl ?_
                  refine E_if (t := 20) (b := true) at_X3_isOtherThanRow_4 rfl (by decide) ?_
                  refine E_iconst (x := nI 0) at_X3_isOtherThanRow_20 (by decide) ?_
                  exact E_iret at_X3_isOtherThanRow_21 rfl
                refine E_callV (v := some (.int (nI 0))) (As := [.ref (49 + 2 * a2k)]) (r0 := []) (cs2 := (ww im lf s d k ls rf rz ra rn rq lt m1 m2 m3 m4 bd fc hd sz el s g fm hm so si sh ce ca td wa kp la bf oo bo pw ow tr)) at_X5_copy_46 rfl rfl (Nat.le_of_ble_eq_true rfl) rfl (ab_rvOf (w_shv (j := a2k) (by omega) u21 u22) rfl) e2 (by decide) rfl ?_
                refine E_if (t := 62) (b := false) at_X5_copy_49 rfl (by decide) ?_
                refine E_aload at_X5_copy_52 rfl ?_
                refine E_aload at_X5_copy_54 rfl ?_
                have e5 : Ev ab_Z0 2 34 [.ref (49 + 2 * a1k), .ref (49 + 2 * a2k)] (ww im lf s d k ls rf rz ra rn rq lt m1 m2 m3 m4 bd fc hd sz el s g fm hm so si sh ce ca td wa kp la bf oo bo pw ow tr) (some (.int (nI 0)), (ww im lf s d k ls rf rz ra rn rq lt m1 m2 m3 m4 bd fc hd sz el s g fm hm so si sh ce ca td wa kp la bf oo bo pw ow tr)) := by
                  refine Ef.in (md := mX3_isOfOtherSort) (L := [some (.ref (49 + 2 * a1k)), some (.ref (49 + 2 * a2k))]) rfl (Nat.le_of_ble_eq_true rfl) rfl ?_
                  refine E_aload_n at_X3_isOfOtherSort_0 rfl ?_
                  have e3 : Ev ab_Z0 1 32 [.ref (49 + 2 * a1k)] (ww im lf s d k ls rf rz ra rn rq lt m1 m2 m3 m4 bd fc hd sz el s g fm hm so si sh ce ca td wa kp la bf oo bo pw ow tr) (some (.int (nI 0)), (ww im lf s d k ls rf rz ra rn rq lt m1 m2 m3 m4 bd fc hd sz el s g fm hm so si sh ce ca td wa kp la bf oo bo pw ow tr)) := by
                    refine Ef.in (md := mX3_isEmpty) (L := [some (.ref (49 + 2 * a1k))]) rfl (Nat.le_of_ble_eq_true rfl) rfl ?_
                    refine E_aload_n at_X3_isEmpty_0 rfl ?_
                    refine E_getfield (v := .int (nI (100 + so.getD a1k 0))) at_X3_isEmpty_1 (w_shv (j := a1k) (by omega) u1 u2) rfl (by decide) rfl ?_
                    refine E_iconst (x := (-1)) at_X3_isEmpty_4 (by decide) ?_
                    refine E_ic (t := 12) (b := true) at_X3_isEmpty_5 rfl ((cn_ne (nI_toInt (by omega)) (by decide : (-1 : Int32).toInt = -1)).trans (decide_eq_true (by omega))) ?_
                    refine E_iconst (x := nI 0) at_X3_isEmpty_12 (by decide) ?_
                    exact E_iret at_X3_isEmpty_13 rfl
                  refine E_callV (v := some (.int (nI 0))) (As := [.ref (49 + 2 * a1k)]) (r0 := []) (cs2 := (ww im lf s d k ls rf rz ra rn rq lt m1 m2 m3 m4 bd fc hd sz el s g fm hm so si sh ce ca td wa kp la bf oo bo pw ow tr)) at_X3_isOfOtherSort_1 rfl rfl (Nat.le_of_ble_eq_true rfl) rfl (ab_rvOf (w_shv (j := a1k) (by omega) u1 u2) rfl) e3 (by decide) rfl ?_
                  refine E_if (t := 29) (b := false) at_X3_isOfOtherSort_4 rfl (by decide) ?_
                  refine E_aload_n at_X3_isOfOtherSort_7 rfl ?_
                  have e4 : Ev ab_Z0 1 32 [.ref (49 + 2 * a2k)] (ww im lf s d k ls rf rz ra rn rq lt m1 m2 m3 m4 bd fc hd sz el s g fm hm so si sh ce ca td wa kp la bf oo bo pw ow tr) (some (.int (nI 1)), (ww im lf s d k ls rf rz ra rn rq lt m1 m2 m3 m4 bd fc hd sz el s g fm hm so si sh ce ca td wa kp la bf oo bo pw ow tr)) := by
                    refine Ef.in (md := mX3_isEmpty) (L := [some (.ref (49 + 2 * a2k))]) rfl (Nat.le_of_ble_eq_true rfl) rfl ?_
                    refine E_aload_n at_X3_isEmpty_0 rfl ?_
                    refine E_getfield (v := .int (-1)) at_X3_isEmpty_1 (w_shv (j := a2k) (by omega) u21 u22) rfl (by decide) rfl ?_
                    refine E_iconst (x := (-1)) at_X3_isEmpty_4 (by decide) ?_
                    refine E_ic (t := 12) (b := false) at_X3_isEmpty_5 rfl (by decide) ?_
                    refine E_iconst (x := nI 1) at_X3_isEmpty_8 (by decide) ?_
                    refine E_goto (t := 13) at_X3_isEmpty_9 rfl ?_
                    exact E_iret at_X3_isEmpty_13 rfl
                  refine E_callV (v := some (.int (nI 1))) (As := [.ref (49 + 2 * a2k)]) (r0 := []) (cs2 := (ww im lf s d k ls rf rz ra rn rq lt m1 m2 m3 m4 bd fc hd sz el s g fm hm so si sh ce ca td wa kp la bf oo bo pw ow tr)) at_X3_isOfOtherSort_8 rfl rfl (Nat.le_of_ble_eq_true rfl) rfl (ab_rvOf (w_shv (j := a2k) (by omega) u21 u22) rfl) e4 (by decide) rfl ?_
                  refine E_if (t := 29) (b := true) at_X3_isOfOtherSort_11 rfl (by decide) ?_
                  refine E_iconst (x := nI 0) at_X3_isOfOtherSort_29 (by decide) ?_
                  exact E_iret at_X3_isOfOtherSort_30 rfl
                refine E_callV (v := some (.int (nI 0))) (As := [.ref (49 + 2 * a1k), .ref (49 + 2 * a2k)]) (r0 := []) (cs2 := (ww im lf s d k ls rf rz ra rn rq lt m1 m2 m3 m4 bd fc hd sz el s g fm hm so si sh ce ca td wa kp la bf oo bo pw ow tr)) at_X5_copy_56 rfl rfl (Nat.le_of_ble_eq_true rfl) rfl (ab_rvOf (w_shv (j := a1k) (by omega) u1 u2) rfl) e5 (by decide) rfl ?_
                refine E_if (t := 68) (b := true) at_X5_copy_59 rfl (by decide) ?_
                refine E_aload at_X5_copy_68 rfl ?_
                have e6 : Ev ab_Z0 1 32 [.ref (49 + 2 * a1k)] (ww im lf s d k ls rf rz ra rn rq lt m1 m2 m3 m4 bd fc hd sz el s g fm hm so si sh ce ca td wa kp la bf oo bo pw ow tr) (some (.int (nI 0)), (ww im lf s d k ls rf rz ra rn rq lt m1 m2 m3 m4 bd fc hd sz el s g fm hm so si sh ce ca td wa kp la bf oo bo pw ow tr)) := by
                  refine Ef.in (md := mX3_isEmpty) (L := [some (.ref (49 + 2 * a1k))]) rfl (Nat.le_of_ble_eq_true rfl) rfl ?_
                  refine E_aload_n at_X3_isEmpty_0 rfl ?_
                  refine E_getfield (v := .int (nI (100 + so.getD a1k 0))) at_X3_isEmpty_1 (w_shv (j := a1k) (by omega) u1 u2) rfl (by decide) rfl ?_
                  refine E_iconst (x := (-1)) at_X3_isEmpty_4 (by decide) ?_
                  refine E_ic (t := 12) (b := true) at_X3_isEmpty_5 rfl ((cn_ne (nI_toInt (by omega)) (by decide : (-1 : Int32).toInt = -1)).trans (decide_eq_true (by omega))) ?_
                  refine E_iconst (x := nI 0) at_X3_isEmpty_12 (by decide) ?_
                  exact E_iret at_X3_isEmpty_13 rfl
                refine E_callV (v := some (.int (nI 0))) (As := [.ref (49 + 2 * a1k)]) (r0 := []) (cs2 := (ww im lf s d k ls rf rz ra rn rq lt m1 m2 m3 m4 bd fc hd sz el s g fm hm so si sh ce ca td wa kp la bf oo bo pw ow tr)) at_X5_copy_70 rfl rfl (Nat.le_of_ble_eq_true rfl) rfl (ab_rvOf (w_shv (j := a1k) (by omega) u1 u2) rfl) e6 (by decide) rfl ?_
                refine E_if (t := 84) (b := false) at_X5_copy_73 rfl (by decide) ?_
                refine E_aload at_X5_copy_76 rfl ?_
                have e7 : Ev ab_Z0 1 32 [.ref (49 + 2 * a2k)] (ww im lf s d k ls rf rz ra rn rq lt m1 m2 m3 m4 bd fc hd sz el s g fm hm so si sh ce ca td wa kp la bf oo bo pw ow tr) (some (.int (nI 1)), (ww im lf s d k ls rf rz ra rn rq lt m1 m2 m3 m4 bd fc hd sz el s g fm hm so si sh ce ca td wa kp la bf oo bo pw ow tr)) := by
                  refine Ef.in (md := mX3_isEmpty) (L := [some (.ref (49 + 2 * a2k))]) rfl (Nat.le_of_ble_eq_true rfl) rfl ?_
                  refine E_aload_n at_X3_isEmpty_0 rfl ?_
                  refine E_getfield (v := .int (-1)) at_X3_isEmpty_1 (w_shv (j := a2k) (by omega) u21 u22) rfl (by decide) rfl ?_
                  refine E_iconst (x := (-1)) at_X3_isEmpty_4 (by decide) ?_
                  refine E_ic (t := 12) (b := false) at_X3_isEmpty_5 rfl (by decide) ?_
                  refine E_iconst (x := nI 1) at_X3_isEmpty_8 (by decide) ?_
                  refine E_goto (t := 13) at_X3_isEmpty_9 rfl ?_
                  exact E_iret at_X3_isEmpty_13 rfl
                refine E_callV (v := some (.int (nI 1))) (As := [.ref (49 + 2 * a2k)]) (r0 := []) (cs2 := (ww im lf s d k ls rf rz ra rn rq lt m1 m2 m3 m4 bd fc hd sz el s g fm hm so si sh ce ca td wa kp la bf oo bo pw ow tr)) at_X5_copy_78 rfl rfl (Nat.le_of_ble_eq_true rfl) rfl (ab_rvOf (w_shv (j := a2k) (by omega) u21 u22) rfl) e7 (by decide) rfl ?_
                refine E_if (t := 90) (b := false) at_X5_copy_81 rfl (by decide) ?_
                refine E_aload_n rfl rfl ?_
                refine E_iconst (x := nI 3) rfl (by decide) ?_
                refine E_callV (v := some (.int (-3))) (As := [.ref 0, .int (nI 3)]) (r0 := []) (cs2 := (ww im lf s d k ls rf rz ra rn rq lt m1 m2 m3 m4 bd (fc.set 3 ((fc.getD 3 0) + (nI 1))) hd sz el s g fm hm so si sh ce ca td wa kp la bf oo bo pw ow tr)) rfl rfl rfl (Nat.le_of_ble_eq_true rfl) rfl (ab_rvOf w0 rfl) (L52_X5_refuse (by omega)) (by decide) w_lens ?_
                exact E_iret rfl rfl
              · show Ev ab_Z0 2 137 [.ref 65, .int (nI a1k), .int (nI a2k), .int a3, .int a4, .int a5] (ww im lf s d k ls rf rz ra rn rq lt m1 m2 m3 m4 bd (fc.set 3 ((fc.getD 3 0) + (nI 1))) hd sz el s g fm hm so si sh ce ca td wa kp la bf oo bo pw ow tr) (some (.int (-3)), (ww im lf s d k ls rf rz ra rn rq lt m1 m2 m3 m4 bd (fc.set 3 ((fc.getD 3 0) + (nI 1))) hd sz el s g (fm.set 3 ((fm.getD 3 0) + (nI 1))) hm so si sh ce ca td wa kp la bf oo bo pw ow tr))
                refine Ef.in (md := mX6_copy) (L := [some (.ref 65), some (.int (nI a1k)), some (.int (nI a2k)), some (.int a3), some (.int a4), some (.int a5), none]) rfl (Nat.le_of_ble_eq_true rfl) rfl ?_
                refine E_aload_n at_X6_copy_0 rfl ?_
                refine E_iload_n at_X6_copy_1 rfl ?_
                refine E_callV (v := some (.int (nI 1))) (As := [.ref 65, .int (nI a1k)]) (r0 := []) (cs2 := (ww im lf s d k ls rf rz ra rn rq lt m1 m2 m3 m4 bd (fc.set 3 ((fc.getD 3 0) + (nI 1))) hd sz el s g fm hm so si sh ce ca td wa kp la bf oo bo pw ow tr)) at_X6_copy_2 rfl rfl (Nat.le_of_ble_eq_true rfl) rfl (ab_rvOf w65 rfl) (L40_X6_isShelf (by omega) (by omega) (by omega)) (by decide) rfl ?_
                refine E_if (t := 16) (b := false) at_X6_copy_5 rfl (by decide) ?_
                refine E_aload_n at_X6_copy_8 rfl ?_
                refine E_iload_n at_X6_copy_9 rfl ?_
                refine E_callV (v := some (.int (nI 1))) (As := [.ref 65, .int (nI a2k)]) (r0 := []) (cs2 := (ww im lf s d k ls rf rz ra rn rq lt m1 m2 m3 m4 bd (fc.set 3 ((fc.getD 3 0) + (nI 1))) hd sz el s g fm hm so si sh ce ca td wa kp la bf oo bo pw ow tr)) at_X6_copy_10 rfl rfl (Nat.le_of_ble_eq_true rfl) rfl (ab_rvOf w65 rfl) (L40_X6_isShelf (by omega) (by omega) (by omega)) (by decide) rfl ?_
                refine E_if (t := 22) (b := true) at_X6_copy_13 rfl (by decide) ?_
                refine E_aload_n at_X6_copy_22 rfl ?_
                refine E_getfield (v := .ref 76) at_X6_copy_23 w65 rfl (by decide) rfl ?_
                refine E_iload_n at_X6_copy_26 rfl ?_
                refine E_ialN (l := hm) (v := hm.getD a1k 0) at_X6_copy_27 w76 (by omega) (by omega) rfl ?_
                refine E_iconst (x := nI 2) at_X6_copy_28 (by decide) ?_
                refine E_ic (t := 77) (b := false) at_X6_copy_29 rfl ((cn_eq (nI_toInt (by omega)) (nI_toInt (by omega))).trans (decide_eq_false (by omega))) ?_
                refine E_aload_n at_X6_copy_32 rfl ?_
                refine E_getfield (v := .ref 76) at_X6_copy_33 w65 rfl (by decide) rfl ?_
                refine E_iload_n at_X6_copy_36 rfl ?_
                refine E_ialN (l := hm) (v := hm.getD a2k 0) at_X6_copy_37 w76 (by omega) (by omega) rfl ?_
                refine E_iconst (x := nI 2) at_X6_copy_38 (by decide) ?_
                refine E_ic (t := 77) (b := false) at_X6_copy_39 rfl ((cn_eq (nI_toInt (by omega)) (nI_toInt (by omega))).trans (decide_eq_false (by omega))) ?_
                refine E_aload_n at_X6_copy_42 rfl ?_
                refine E_getfield (v := .ref 76) at_X6_copy_43 w65 rfl (by decide) rfl ?_
                refine E_iload_n at_X6_copy_46 rfl ?_
                refine E_ialN (l := hm) (v := hm.getD a1k 0) at_X6_copy_47 w76 (by omega) (by omega) rfl ?_
                refine E_iconst (x := nI 1) at_X6_copy_48 (by decide) ?_
                refine E_ic (t := 84) (b := false) at_X6_copy_49 rfl ((cn_ne (nI_toInt (by omega)) (nI_toInt (by omega))).trans (decide_eq_false (by omega))) ?_
                refine E_aload_n at_X6_copy_52 rfl ?_
                refine E_getfield (v := .ref 76) at_X6_copy_53 w65 rfl (by decide) rfl ?_
                refine E_iload_n at_X6_copy_56 rfl ?_
                refine E_ialN (l := hm) (v := hm.getD a2k 0) at_X6_copy_57 w76 (by omega) (by omega) rfl ?_
                refine E_iconst (x := nI 1) at_X6_copy_58 (by decide) ?_
                refine E_ic (t := 84) (b := true) at_X6_copy_59 rfl ((cn_ne (nI_toInt (by omega)) (nI_toInt (by omega))).trans (decide_eq_true (by omega))) ?_
                refine E_aload_n at_X6_copy_84 rfl ?_
                refine E_getfield (v := .ref 76) at_X6_copy_85 w65 rfl (by decide) rfl ?_
                refine E_iload_n at_X6_copy_88 rfl ?_
                refine E_ialN (l := hm) (v := hm.getD a1k 0) at_X6_copy_89 w76 (by omega) (by omega) rfl ?_
                refine E_if (t := 102) (b := false) at_X6_copy_90 rfl ((cn_eq (nI_toInt (by omega)) (by decide : (0 : Int32).toInt = 0)).trans (decide_eq_false (by omega))) ?_
                refine E_aload_n at_X6_copy_93 rfl ?_
                refine E_getfield (v := .ref 76) at_X6_copy_94 w65 rfl (by decide) rfl ?_
                refine E_iload_n at_X6_copy_97 rfl ?_
                refine E_ialN (l := hm) (v := hm.getD a2k 0) at_X6_copy_98 w76 (by omega) (by omega) rfl ?_
                refine E_if (t := 109) (b := false) at_X6_copy_99 rfl ((cn_ne (nI_toInt (by omega)) (by decide : (0 : Int32).toInt = 0)).trans (decide_eq_false (by omega))) ?_
                refine E_aload_n rfl rfl ?_
                refine E_bipush (x := (-3)) rfl (by decide) ?_
                refine E_callV (v := some (.int (-3))) (As := [.ref 65, .int (-3)]) (r0 := []) (cs2 := (ww im lf s d k ls rf rz ra rn rq lt m1 m2 m3 m4 bd (fc.set 3 ((fc.getD 3 0) + (nI 1))) hd sz el s g (fm.set 3 ((fm.getD 3 0) + (nI 1))) hm so si sh ce ca td wa kp la bf oo bo pw ow tr)) rfl rfl rfl (Nat.le_of_ble_eq_true rfl) rfl (ab_rvOf w65 rfl) (L53_X6_no (by omega)) (by decide) w_lens ?_
                exact E_iret rfl rfl
              · exact ⟨I, rfl, hf, iQ, iM, iT, iS, l_el, (lr.1), (lr.2.1), (lr.2.2.1), (by simp only [List.length_set]; exact (lr.2.2.2.1)), (by simp only [List.length_set]; exact (lr.2.2.2.2.1)), (lr.2.2.2.2.2.1), (lr.2.2.2.2.2.2.1), (lr.2.2.2.2.2.2.2.1), (lr.2.2.2.2.2.2.2.2.1), (lr.2.2.2.2.2.2.2.2.2.1), (lr.2.2.2.2.2.2.2.2.2.2.1), (lr.2.2.2.2.2.2.2.2.2.2.2.1), (lr.2.2.2.2.2.2.2.2.2.2.2.2.1), (lr.2.2.2.2.2.2.2.2.2.2.2.2.2.1), (lr.2.2.2.2.2.2.2.2.2.2.2.2.2.2.1), (lr.2.2.2.2.2.2.2.2.2.2.2.2.2.2.2.1), (lr.2.2.2.2.2.2.2.2.2.2.2.2.2.2.2.2.1), (lr.2.2.2.2.2.2.2.2.2.2.2.2.2.2.2.2.2.1), (lr.2.2.2.2.2.2.2.2.2.2.2.2.2.2.2.2.2.2.1), (lr.2.2.2.2.2.2.2.2.2.2.2.2.2.2.2.2.2.2.2.1), (lr.2.2.2.2.2.2.2.2.2.2.2.2.2.2.2.2.2.2.2.2)⟩
            · refine ⟨(-2), (im, lf, s, d, k, ls, rf, rz, ra, rn, rq, lt, m1, m2, m3, m4, bd, (fc.set 2 ((fc.getD 2 0) + (nI 1))), hd, sz, el, s, g, fm, hm, so, si, sh, ce, ca, td, wa, kp, la, bf, oo, bo, pw, ow, tr), (im, lf, s, d, k, ls, rf, rz, ra, rn, rq, lt, m1, m2, m3, m4, bd, (fc.set 2 ((fc.getD 2 0) + (nI 1))), hd, sz, el, s, g, (fm.set 2 ((fm.getD 2 0) + (nI 1))), hm, so, si, sh, ce, ca, td, wa, kp, la, bf, oo, bo, pw, ow, tr), ?_, ?_, ?_⟩
              · show Ev ab_Z0 3 78 [.ref 0, .int (nI a1k), .int (nI a2k), .int a3, .int a4, .int a5] (ww im lf s d k ls rf rz ra rn rq lt m1 m2 m3 m4 bd fc hd sz el s g fm hm so si sh ce ca td wa kp la bf oo bo pw ow tr) (some (.int (-2)), (ww im lf s d k ls rf rz ra rn rq lt m1 m2 m3 m4 bd (fc.set 2 ((fc.getD 2 0) + (nI 1))) hd sz el s g fm hm so si sh ce ca td wa kp la bf oo bo pw ow tr))
                refine Ef.in (md := mX5_copy) (L := [some (.ref 0), some (.int (nI a1k)), some (.int (nI a2k)), some (.int a3), some (.int a4), some (.int a5), none, none]) rfl (Nat.le_of_ble_eq_true rfl) rfl ?_
                refine E_iload_n at_X5_copy_0 rfl ?_
                refine E_callS (v := some (.int (nI 1))) (As := [.int (nI a1k)]) (r0 := []) (cs2 := (ww im lf s d k ls rf rz ra rn rq lt m1 m2 m3 m4 bd fc hd sz el s g fm hm so si sh ce ca td wa kp la bf oo bo pw ow tr)) at_X5_copy_1 rfl rfl (Nat.le_of_ble_eq_true rfl) rfl (L39_X5_isShelf (by omega) (by omega) (by omega)) (by decide) rfl ?_
                refine E_if (t := 14) (b := false) at_X5_copy_4 rfl (by decide) ?_
                refine E_iload_n at_X5_copy_7 rfl ?_
                refine E_callS (v := some (.int (nI 1))) (As := [.int (nI a2k)]) (r0 := []) (cs2 := (ww im lf s d k ls rf rz ra rn rq lt m1 m2 m3 m4 bd fc hd sz el s g fm hm so si sh ce ca td wa kp la bf oo bo pw ow tr)) at_X5_copy_8 rfl rfl (Nat.le_of_ble_eq_true rfl) rfl (L39_X5_isShelf (by omega) (by omega) (by omega)) (by decide) rfl ?_
                refine E_if (t := 20) (b := true) at_X5_copy_11 rfl (by decide) ?_
                refine E_aload_n at_X5_copy_20 rfl ?_
                refine E_getfield (v := .ref 31) at_X5_copy_21 w0 rfl (by decide) rfl ?_
                refine E_iload_n at_X5_copy_24 rfl ?_
                refine E_aalN (b := 49 + 2 * a1k) at_X5_copy_25 w31 (by omega) (w_shs (by omega)) ?_
                refine E_astore (L2 := [some (.ref 0), some (.int (nI a1k)), some (.int (nI a2k)), some (.int a3), some (.int a4), some (.int a5), some (.ref (49 + 2 * a1k)), none]) at_X5_copy_26 rfl ?_
                refine E_aload_n at_X5_copy_28 rfl ?_
                refine E_getfield (v := .ref 31) at_X5_copy_29 w0 rfl (by decide) rfl ?_
                refine E_iload_n at_X5_copy_32 rfl ?_
                refine E_aalN (b := 49 + 2 * a2k) at_X5_copy_33 w31 (by omega) (w_shs (by omega)) ?_
                refine E_astore (L2 := [some (.ref 0), some (.int (nI a1k)), some (.int (nI a2k)), some (.int a3), some (.int a4), some (.int a5), some (.ref (49 + 2 * a1k)), some (.ref (49 + 2 * a2k))]) at_X5_copy_34 rfl ?_
                refine E_aload at_X5_copy_36 rfl ?_
                have e1 : Ev ab_Z0 1 33 [.ref (49 + 2 * a1k)] (ww im lf s d k ls rf rz ra rn rq lt m1 m2 m3 m4 bd fc hd sz el s g fm hm so si sh ce ca td wa kp la bf oo bo pw ow tr) (some (.int (nI 0)), (ww im lf s d k ls rf rz ra rn rq lt m1 m2 m3 m4 bd fc hd sz el s g fm hm so si sh ce ca td wa kp la bf oo bo pw ow tr)) := by
                  refine Ef.in (md := mX3_isOtherThanRow) (L := [some (.ref (49 + 2 * a1k))]) rfl (Nat.le_of_ble_eq_true rfl) rfl ?_
                  refine E_aload_n at_X3_isOtherThanRow_0 rfl ?_
                  refine E_getfield (v := .int (nI (100 + so.getD a1k 0))) at_X3_isOtherThanRow_1 (w_shv (j := a1k) (by omega) u1 u2) rfl (by decide) rfl ?_
                  refine E_if (t := 20) (b := false) at_X3_isOtherThanRow_4 rfl ((cn_lt (nI_toInt (by omega)) (by decide : (0 : Int32).toInt = 0)).trans (decide_eq_false (by omega))) ?_
                  refine E_aload_n at_X3_isOtherThanRow_7 rfl ?_
                  refine E_getfield (v := .int (nI (100 + so.getD a1k 0))) at_X3_isOtherThanRow_8 (w_shv (j := a1k) (by omega) u1 u2) rfl (by decide) rfl ?_
                  refine E_bipush (x := nI 100) at_X3_isOtherThanRow_11 (by decide) ?_
                  refine E_ic (t := 20) (b := true) at_X3_isOtherThanRow_13 rfl ((cn_ge (nI_toInt (by omega)) (nI_toInt (by omega))).trans (decide_eq_true (by omega))) ?_
                  refine E_iconst (x := nI 0) at_X3_isOtherThanRow_20 (by decide) ?_
                  exact E_iret at_X3_isOtherThanRow_21 rfl
                refine E_callV (v := some (.int (nI 0))) (As := [.ref (49 + 2 * a1k)]) (r0 := []) (cs2 := (ww im lf s d k ls rf rz ra rn rq lt m1 m2 m3 m4 bd fc hd sz el s g fm hm so si sh ce ca td wa kp la bf oo bo pw ow tr)) at_X5_copy_38 rfl rfl (Nat.le_of_ble_eq_true rfl) rfl (ab_rvOf (w_shv (j := a1k) (by omega) u1 u2) rfl) e1 (by decide) rfl ?_
                refine E_if (t := 62) (b := false) at_X5_copy_41 rfl (by decide) ?_
                refine E_aload at_X5_copy_44 rfl ?_
                have e2 : Ev ab_Z0 1 33 [.ref (49 + 2 * a2k)] (ww im lf s d k ls rf rz ra rn rq lt m1 m2 m3 m4 bd fc hd sz el s g fm hm so si sh ce ca td wa kp la bf oo bo pw ow tr) (some (.int (nI 1)), (ww im lf s d k ls rf rz ra rn rq lt m1 m2 m3 m4 bd fc hd sz el s g fm hm so si sh ce ca td wa kp la bf oo bo pw ow tr)) := by
                  refine Ef.in (md := mX3_isOtherThanRow) (L := [some (.ref (49 + 2 * a2k))]) rfl (Nat.le_of_ble_eq_true rfl) rfl ?_
                  refine E_aload_n at_X3_isOtherThanRow_0 rfl ?_
                  refine E_getfield (v := .int (nI xq2)) at_X3_isOtherThanRow_1 (w_shv (j := a2k) (by omega) u22 u23) rfl (by decide) rfl ?_
                  refine E_if (t := 20) (b := false) at_X3_isOtherThanRow_4 rfl ((cn_lt (nI_toInt (by omega)) (by decide : (0 : Int32).toInt = 0)).trans (decide_eq_false (by omega))) ?_
                  refine E_aload_n at_X3_isOtherThanRow_7 rfl ?_
                  refine E_getfield (v := .int (nI xq2)) at_X3_isOtherThanRow_8 (w_shv (j := a2k) (by omega) u22 u23) rfl (by decide) rfl ?_
                  refine E_bipush (x := nI 100) at_X3_isOtherThanRow_11 (by decide) ?_
                  refine E_ic (t := 20) (b := false) at_X3_isOtherThanRow_13 rfl ((cn_ge (nI_toInt (by omega)) (nI_toInt (by omega))).trans (decide_eq_false (by omega))) ?_
                  refine E_iconst (x := nI 1) at_X3_isOtherThanRow_16 (by decide) ?_
                  refine E_goto (t := 21) at_X3_isOtherThanRow_17 rfl ?_
                  exact E_iret at_X3_isOtherThanRow_21 rfl
                refine E_callV (v := some (.int (nI 1))) (As := [.ref (49 + 2 * a2k)]) (r0 := []) (cs2 := (ww im lf s d k ls rf rz ra rn rq lt m1 m2 m3 m4 bd fc hd sz el s g fm hm so si sh ce ca td wa kp la bf oo bo pw ow tr)) at_X5_copy_46 rfl rfl (Nat.le_of_ble_eq_true rfl) rfl (ab_rvOf (w_shv (j := a2k) (by omega) u22 u23) rfl) e2 (by decide) rfl ?_
                refine E_if (t := 62) (b := true) at_X5_copy_49 rfl (by decide) ?_
                refine E_aload_n at_X5_copy_62 rfl ?_
                refine E_iconst (x := nI 2) at_X5_copy_63 (by decide) ?_
                refine E_callV (v := some (.int (-2))) (As := [.ref 0, .int (nI 2)]) (r0 := []) (cs2 := (ww im lf s d k ls rf rz ra rn rq lt m1 m2 m3 m4 bd (fc.set 2 ((fc.getD 2 0) + (nI 1))) hd sz el s g fm hm so si sh ce ca td wa kp la bf oo bo pw ow tr)) at_X5_copy_64 rfl rfl (Nat.le_of_ble_eq_true rfl) rfl (ab_rvOf w0 rfl) (L55_X5_refuse (by omega)) (by decide) w_lens ?_
                exact E_iret at_X5_copy_67 rfl
              · show Ev ab_Z0 2 137 [.ref 65, .int (nI a1k), .int (nI a2k), .int a3, .int a4, .int a5] (ww im lf s d k ls rf rz ra rn rq lt m1 m2 m3 m4 bd (fc.set 2 ((fc.getD 2 0) + (nI 1))) hd sz el s g fm hm so si sh ce ca td wa kp la bf oo bo pw ow tr) (some (.int (-2)), (ww im lf s d k ls rf rz ra rn rq lt m1 m2 m3 m4 bd (fc.set 2 ((fc.getD 2 0) + (nI 1))) hd sz el s g (fm.set 2 ((fm.getD 2 0) + (nI 1))) hm so si sh ce ca td wa kp la bf oo bo pw ow tr))
                refine Ef.in (md := mX6_copy) (L := [some (.ref 65), some (.int (nI a1k)), some (.int (nI a2k)), some (.int a3), some (.int a4), some (.int a5), none]) rfl (Nat.le_of_ble_eq_true rfl) rfl ?_
                refine E_aload_n at_X6_copy_0 rfl ?_
                refine E_iload_n at_X6_copy_1 rfl ?_
                refine E_callV (v := some (.int (nI 1))) (As := [.ref 65, .int (nI a1k)]) (r0 := []) (cs2 := (ww im lf s d k ls rf rz ra rn rq lt m1 m2 m3 m4 bd (fc.set 2 ((fc.getD 2 0) + (nI 1))) hd sz el s g fm hm so si sh ce ca td wa kp la bf oo bo pw ow tr)) at_X6_copy_2 rfl rfl (Nat.le_of_ble_eq_true rfl) rfl (ab_rvOf w65 rfl) (L40_X6_isShelf (by omega) (by omega) (by omega)) (by decide) rfl ?_
                refine E_if (t := 16) (b := false) at_X6_copy_5 rfl (by decide) ?_
                refine E_aload_n at_X6_copy_8 rfl ?_
                refine E_iload_n at_X6_copy_9 rfl ?_
                refine E_callV (v := some (.int (nI 1))) (As := [.ref 65, .int (nI a2k)]) (r0 := []) (cs2 := (ww im lf s d k ls rf rz ra rn rq lt m1 m2 m3 m4 bd (fc.set 2 ((fc.getD 2 0) + (nI 1))) hd sz el s g fm hm so si sh ce ca td wa kp la bf oo bo pw ow tr)) at_X6_copy_10 rfl rfl (Nat.le_of_ble_eq_true rfl) rfl (ab_rvOf w65 rfl) (L40_X6_isShelf (by omega) (by omega) (by omega)) (by decide) rfl ?_
                refine E_if (t := 22) (b := true) at_X6_copy_13 rfl (by decide) ?_
                refine E_aload_n at_X6_copy_22 rfl ?_
                refine E_getfield (v := .ref 76) at_X6_copy_23 w65 rfl (by decide) rfl ?_
                refine E_iload_n at_X6_copy_26 rfl ?_
                refine E_ialN (l := hm) (v := hm.getD a1k 0) at_X6_copy_27 w76 (by omega) (by omega) rfl ?_
                refine E_iconst (x := nI 2) at_X6_copy_28 (by decide) ?_
                refine E_ic (t := 77) (b := false) at_X6_copy_29 rfl ((cn_eq (nI_toInt (by omega)) (nI_toInt (by omega))).trans (decide_eq_false (by omega))) ?_
                refine E_aload_n at_X6_copy_32 rfl ?_
                refine E_getfield (v := .ref 76) at_X6_copy_33 w65 rfl (by decide) rfl ?_
                refine E_iload_n at_X6_copy_36 rfl ?_
                refine E_ialN (l := hm) (v := hm.getD a2k 0) at_X6_copy_37 w76 (by omega) (by omega) rfl ?_
                refine E_iconst (x := nI 2) at_X6_copy_38 (by decide) ?_
                refine E_ic (t := 77) (b := true) at_X6_copy_39 rfl ((cn_eq (nI_toInt (by omega)) (nI_toInt (by omega))).trans (decide_eq_true (by omega))) ?_
                refine E_aload_n at_X6_copy_77 rfl ?_
                refine E_bipush (x := (-2)) at_X6_copy_78 (by decide) ?_
                refine E_callV (v := some (.int (-2))) (As := [.ref 65, .int (-2)]) (r0 := []) (cs2 := (ww im lf s d k ls rf rz ra rn rq lt m1 m2 m3 m4 bd (fc.set 2 ((fc.getD 2 0) + (nI 1))) hd sz el s g (fm.set 2 ((fm.getD 2 0) + (nI 1))) hm so si sh ce ca td wa kp la bf oo bo pw ow tr)) at_X6_copy_80 rfl rfl (Nat.le_of_ble_eq_true rfl) rfl (ab_rvOf w65 rfl) (L56_X6_no (by omega)) (by decide) w_lens ?_
                exact E_iret at_X6_copy_83 rfl
              · exact ⟨I, rfl, hf, iQ, iM, iT, iS, l_el, (lr.1), (lr.2.1), (lr.2.2.1), (by simp only [List.length_set]; exact (lr.2.2.2.1)), (by simp only [List.length_set]; exact (lr.2.2.2.2.1)), (lr.2.2.2.2.2.1), (lr.2.2.2.2.2.2.1), (lr.2.2.2.2.2.2.2.1), (lr.2.2.2.2.2.2.2.2.1), (lr.2.2.2.2.2.2.2.2.2.1), (lr.2.2.2.2.2.2.2.2.2.2.1), (lr.2.2.2.2.2.2.2.2.2.2.2.1), (lr.2.2.2.2.2.2.2.2.2.2.2.2.1), (lr.2.2.2.2.2.2.2.2.2.2.2.2.2.1), (lr.2.2.2.2.2.2.2.2.2.2.2.2.2.2.1), (lr.2.2.2.2.2.2.2.2.2.2.2.2.2.2.2.1), (lr.2.2.2.2.2.2.2.2.2.2.2.2.2.2.2.2.1), (lr.2.2.2.2.2.2.2.2.2.2.2.2.2.2.2.2.2.1), (lr.2.2.2.2.2.2.2.2.2.2.2.2.2.2.2.2.2.2.1), (lr.2.2.2.2.2.2.2.2.2.2.2.2.2.2.2.2.2.2.2.1), (lr.2.2.2.2.2.2.2.2.2.2.2.2.2.2.2.2.2.2.2.2)⟩
            · by_cases f6 : (so.getD a1k 0) = (so.getD a2k 0)
              · rcases ab_int a5 with ⟨a5k, f7, rfl⟩ | f7
                · rcases ab_int a3 with ⟨a3k, f8, rfl⟩ | f8
                  · by_cases f9 : (si.getD a1k 0) < a3k
                    · rcases ab_int a4 with ⟨a4k, f10, rfl⟩ | f10
                      · refine ⟨(-5), (im, lf, s, d, k, ls, rf, rz, ra, rn, rq, lt, m1, m2, m3, m4, bd, (fc.set 5 ((fc.getD 5 0) + (nI 1))), hd, sz, el, s, g, fm, hm, so, si, sh, ce, ca, td, wa, kp, la, bf, oo, bo, pw, ow, tr), (im, lf, s, d, k, ls, rf, rz, ra, rn, rq, lt, m1, m2, m3, m4, bd, (fc.set 5 ((fc.getD 5 0) + (nI 1))), hd, sz, el, s, g, (fm.set 5 ((fm.getD 5 0) + (nI 1))), hm, so, si, sh, ce, ca, td, wa, kp, la, bf, oo, bo, pw, ow, tr), ?_, ?_, ?_⟩
                        · show Ev ab_Z0 3 78 [.ref 0, .int (nI a1k), .int (nI a2k), .int (nI a3k), .int (nI a4k), .int (nI a5k)] (ww im lf s d k ls rf rz ra rn rq lt m1 m2 m3 m4 bd fc hd sz el s g fm hm so si sh ce ca td wa kp la bf oo bo pw ow tr) (some (.int (-5)), (ww im lf s d k ls rf rz ra rn rq lt m1 m2 m3 m4 bd (fc.set 5 ((fc.getD 5 0) + (nI 1))) hd sz el s g fm hm so si sh ce ca td wa kp la bf oo bo pw ow tr))
                          refine Ef.in (md := mX5_copy) (L := [some (.ref 0), some (.int (nI a1k)), some (.int (nI a2k)), some (.int (nI a3k)), some (.int (nI a4k)), some (.int (nI a5k)), none, none]) rfl (Nat.le_of_ble_eq_true rfl) rfl ?_
                          refine E_iload_n at_X5_copy_0 rfl ?_
                          refine E_callS (v := some (.int (nI 1))) (As := [.int (nI a1k)]) (r0 := []) (cs2 := (ww im lf s d k ls rf rz ra rn rq lt m1 m2 m3 m4 bd fc hd sz el s g fm hm so si sh ce ca td wa kp la bf oo bo pw ow tr)) at_X5_copy_1 rfl rfl (Nat.le_of_ble_eq_true rfl) rfl (L39_X5_isShelf (by omega) (by omega) (by omega)) (by decide) rfl ?_
                          refine E_if (t := 14) (b := false) at_X5_copy_4 rfl (by decide) ?_
                          refine E_iload_n at_X5_copy_7 rfl ?_
                          refine E_callS (v := some (.int (nI 1))) (As := [.int (nI a2k)]) (r0 := []) (cs2 := (ww im lf s d k ls rf rz ra rn rq lt m1 m2 m3 m4 bd fc hd sz el s g fm hm so si sh ce ca td wa kp la bf oo bo pw ow tr)) at_X5_copy_8 rfl rfl (Nat.le_of_ble_eq_true rfl) rfl (L39_X5_isShelf (by omega) (by omega) (by omega)) (by decide) rfl ?_
                          refine E_if (t := 20) (b := true) at_X5_copy_11 rfl (by decide) ?_
                          refine E_aload_n at_X5_copy_20 rfl ?_
                          refine E_getfield (v := .ref 31) at_X5_copy_21 w0 rfl (by decide) rfl ?_
                          refine E_iload_n at_X5_copy_24 rfl ?_
                          refine E_aalN (b := 49 + 2 * a1k) at_X5_copy_25 w31 (by omega) (w_shs (by omega)) ?_
                          refine E_astore (L2 := [some (.ref 0), some (.int (nI a1k)), some (.int (nI a2k)), some (.int (nI a3k)), some (.int (nI a4k)), some (.int (nI a5k)), some (.ref (49 + 2 * a1k)), none]) at_X5_copy_26 rfl ?_
                          refine E_aload_n at_X5_copy_28 rfl ?_
                          refine E_getfield (v := .ref 31) at_X5_copy_29 w0 rfl (by decide) rfl ?_
                          refine E_iload_n at_X5_copy_32 rfl ?_
                          refine E_aalN (b := 49 + 2 * a2k) at_X5_copy_33 w31 (by omega) (w_shs (by omega)) ?_
                          refine E_astore (L2 := [some (.ref 0), some (.int (nI a1k)), some (.int (nI a2k)), some (.int (nI a3k)), some (.int (nI a4k)), some (.int (nI a5k)), some (.ref (49 + 2 * a1k)), some (.ref (49 + 2 * a2k))]) at_X5_copy_34 rfl ?_
                          refine E_aload at_X5_copy_36 rfl ?_
                          have e1 : Ev ab_Z0 1 33 [.ref (49 + 2 * a1k)] (ww im lf s d k ls rf rz ra rn rq lt m1 m2 m3 m4 bd fc hd sz el s g fm hm so si sh ce ca td wa kp la bf oo bo pw ow tr) (some (.int (nI 0)), (ww im lf s d k ls rf rz ra rn rq lt m1 m2 m3 m4 bd fc hd sz el s g fm hm so si sh ce ca td wa kp la bf oo bo pw ow tr)) := by
                            refine Ef.in (md := mX3_isOtherThanRow) (L := [some (.ref (49 + 2 * a1k))]) rfl (Nat.le_of_ble_eq_true rfl) rfl ?_
                            refine E_aload_n at_X3_isOtherThanRow_0 rfl ?_
                            refine E_getfield (v := .int (nI (100 + so.getD a1k 0))) at_X3_isOtherThanRow_1 (w_shv (j := a1k) (by omega) u1 u2) rfl (by decide) rfl ?_
                            refine E_if (t := 20) (b := false) at_X3_isOtherThanRow_4 rfl ((cn_lt (nI_toInt (by omega)) (by decide : (0 : Int32).toInt = 0)).trans (decide_eq_false (by omega))) ?_
                            refine E_aload_n at_X3_isOtherThanRow_7 rfl ?_
                            refine E_getfield (v := .int (nI (100 + so.getD a1k 0))) at_X3_isOtherThanRow_8 (w_shv (j := a1k) (by omega) u1 u2) rfl (by decide) rfl ?_
                            refine E_bipush (x := nI 100) at_X3_isOtherThanRow_11 (by decide) ?_
                            refine E_ic (t := 20) (b := true) at_X3_isOtherThanRow_13 rfl ((cn_ge (nI_toInt (by omega)) (nI_toInt (by omega))).trans (decide_eq_true (by omega))) ?_
                            refine E_iconst (x := nI 0) at_X3_isOtherThanRow_20 (by decide) ?_
                            exact E_iret at_X3_isOtherThanRow_21 rfl
                          refine E_callV (v := some (.int (nI 0))) (As := [.ref (49 + 2 * a1k)]) (r0 := []) (cs2 := (ww im lf s d k ls rf rz ra rn rq lt m1 m2 m3 m4 bd fc hd sz el s g fm hm so si sh ce ca td wa kp la bf oo bo pw ow tr)) at_X5_copy_38 rfl rfl (Nat.le_of_ble_eq_true rfl) rfl (ab_rvOf (w_shv (j := a1k) (by omega) u1 u2) rfl) e1 (by decide) rfl ?_
                          refine E_if (t := 62) (b := false) at_X5_copy_41 rfl (by decide) ?_
                          refine E_aload at_X5_copy_44 rfl ?_
                          have e2 : Ev ab_Z0 1 33 [.ref (49 + 2 * a2k)] (ww im lf s d k ls rf rz ra rn rq lt m1 m2 m3 m4 bd fc hd sz el s g fm hm so si sh ce ca td wa kp la bf oo bo pw ow tr) (some (.int (nI 0)), (ww im lf s d k ls rf rz ra rn rq lt m1 m2 m3 m4 bd fc hd sz el s g fm hm so si sh ce ca td wa kp la bf oo bo pw ow tr)) := by
                            refine Ef.in (md := mX3_isOtherThanRow) (L := [some (.ref (49 + 2 * a2k))]) rfl (Nat.le_of_ble_eq_true rfl) rfl ?_
                            refine E_aload_n at_X3_isOtherThanRow_0 rfl ?_
                            refine E_getfield (v := .int (nI (100 + so.getD a2k 0))) at_X3_isOtherThanRow_1 (w_shv (j := a2k) (by omega) u21 u22) rfl (by decide) rfl ?_
                            refine E_if (t := 20) (b := false) at_X3_isOtherThanRow_4 rfl ((cn_lt (nI_toInt (by omega)) (by decide : (0 : Int32).toInt = 0)).trans (decide_eq_false (by omega))) ?_
                            refine E_aload_n at_X3_isOtherThanRow_7 rfl ?_
                            refine E_getfield (v := .int (nI (100 + so.getD a2k 0))) at_X3_isOtherThanRow_8 (w_shv (j := a2k) (by omega) u21 u22) rfl (by decide) rfl ?_
                            refine E_bipush (x := nI 100) at_X3_isOtherThanRow_11 (by decide) ?_
                            refine E_ic (t := 20) (b := true) at_X3_isOtherThanRow_13 rfl ((cn_ge (nI_toInt (by omega)) (nI_toInt (by omega))).trans (decide_eq_true (by omega))) ?_
                            refine E_iconst (x := nI 0) at_X3_isOtherThanRow_20 (by decide) ?_
                            exact E_iret at_X3_isOtherThanRow_21 rfl
                          refine E_callV (v := some (.int (nI 0))) (As := [.ref (49 + 2 * a2k)]) (r0 := []) (cs2 := (ww im lf s d k ls rf rz ra rn rq lt m1 m2 m3 m4 bd fc hd sz el s g fm hm so si sh ce ca td wa kp la bf oo bo pw ow tr)) at_X5_copy_46 rfl rfl (Nat.le_of_ble_eq_true rfl) rfl (ab_rvOf (w_shv (j := a2k) (by omega) u21 u22) rfl) e2 (by decide) rfl ?_
                          refine E_if (t := 62) (b := false) at_X5_copy_49 rfl (by decide) ?_
                          refine E_aload at_X5_copy_52 rfl ?_
                          refine E_aload at_X5_copy_54 rfl ?_
                          have e5 : Ev ab_Z0 2 34 [.ref (49 + 2 * a1k), .ref (49 + 2 * a2k)] (ww im lf s d k ls rf rz ra rn rq lt m1 m2 m3 m4 bd fc hd sz el s g fm hm so si sh ce ca td wa kp la bf oo bo pw ow tr) (some (.int (nI 0)), (ww im lf s d k ls rf rz ra rn rq lt m1 m2 m3 m4 bd fc hd sz el s g fm hm so si sh ce ca td wa kp la bf oo bo pw ow tr)) := by
                            refine Ef.in (md := mX3_isOfOtherSort) (L := [some (.ref (49 + 2 * a1k)), some (.ref (49 + 2 * a2k))]) rfl (Nat.le_of_ble_eq_true rfl) rfl ?_
                            refine E_aload_n at_X3_isOfOtherSort_0 rfl ?_
                            have e3 : Ev ab_Z0 1 32 [.ref (49 + 2 * a1k)] (ww im lf s d k ls rf rz ra rn rq lt m1 m2 m3 m4 bd fc hd sz el s g fm hm so si sh ce ca td wa kp la bf oo bo pw ow tr) (some (.int (nI 0)), (ww im lf s d k ls rf rz ra rn rq lt m1 m2 m3 m4 bd fc hd sz el s g fm hm so si sh ce ca td wa kp la bf oo bo pw ow tr)) := by
                              refine Ef.in (md := mX3_isEmpty) (L := [some (.ref (49 + 2 * a1k))]) rfl (Nat.le_of_ble_eq_true rfl) rfl ?_
                              refine E_aload_n at_X3_isEmpty_0 rfl ?_
                              refine E_getfield (v := .int (nI (100 + so.getD a1k 0))) at_X3_isEmpty_1 (w_shv (j := a1k) (by omega) u1 u2) rfl (by decide) rfl ?_
                              refine E_iconst (x := (-1)) at_X3_isEmpty_4 (by decide) ?_
                              refine E_ic (t := 12) (b := true) at_X3_isEmpty_5 rfl ((cn_ne (nI_toInt (by omega)) (by decide : (-1 : Int32).toInt = -1)).trans (decide_eq_true (by omega))) ?_
                              refine E_iconst (x := nI 0) at_X3_isEmpty_12 (by decide) ?_
                              exact E_iret at_X3_isEmpty_13 rfl
                            refine E_callV (v := some (.int (nI 0))) (As := [.ref (49 + 2 * a1k)]) (r0 := []) (cs2 := (ww im lf s d k ls rf rz ra rn rq lt m1 m2 m3 m4 bd fc hd sz el s g fm hm so si sh ce ca td wa kp la bf oo bo pw ow tr)) at_X3_isOfOtherSort_1 rfl rfl (Nat.le_of_ble_eq_true rfl) rfl (ab_rvOf (w_shv (j := a1k) (by omega) u1 u2) rfl) e3 (by decide) rfl ?_
                            refine E_if (t := 29) (b := false) at_X3_isOfOtherSort_4 rfl (by decide) ?_
                            refine E_aload_n at_X3_isOfOtherSort_7 rfl ?_
                            have e4 : Ev ab_Z0 1 32 [.ref (49 + 2 * a2k)] (ww im lf s d k ls rf rz ra rn rq lt m1 m2 m3 m4 bd fc hd sz el s g fm hm so si sh ce ca td wa kp la bf oo bo pw ow tr) (some (.int (nI 0)), (ww im lf s d k ls rf rz ra rn rq lt m1 m2 m3 m4 bd fc hd sz el s g fm hm so si sh ce ca td wa kp la bf oo bo pw ow tr)) := by
                              refine Ef.in (md := mX3_isEmpty) (L := [some (.ref (49 + 2 * a2k))]) rfl (Nat.le_of_ble_eq_true rfl) rfl ?_
                              refine E_aload_n at_X3_isEmpty_0 rfl ?_
                              refine E_getfield (v := .int (nI (100 + so.getD a2k 0))) at_X3_isEmpty_1 (w_shv (j := a2k) (by omega) u21 u22) rfl (by decide) rfl ?_
                              refine E_iconst (x := (-1)) at_X3_isEmpty_4 (by decide) ?_
                              refine E_ic (t := 12) (b := true) at_X3_isEmpty_5 rfl ((cn_ne (nI_toInt (by omega)) (by decide : (-1 : Int32).toInt = -1)).trans (decide_eq_true (by omega))) ?_
                              refine E_iconst (x := nI 0) at_X3_isEmpty_12 (by decide) ?_
                              exact E_iret at_X3_isEmpty_13 rfl
                            refine E_callV (v := some (.int (nI 0))) (As := [.ref (49 + 2 * a2k)]) (r0 := []) (cs2 := (ww im lf s d k ls rf rz ra rn rq lt m1 m2 m3 m4 bd fc hd sz el s g fm hm so si sh ce ca td wa kp la bf oo bo pw ow tr)) at_X3_isOfOtherSort_8 rfl rfl (Nat.le_of_ble_eq_true rfl) rfl (ab_rvOf (w_shv (j := a2k) (by omega) u21 u22) rfl) e4 (by decide) rfl ?_
                            refine E_if (t := 29) (b := false) at_X3_isOfOtherSort_11 rfl (by decide) ?_
                            refine E_aload_n at_X3_isOfOtherSort_14 rfl ?_
                            refine E_getfield (v := .int (nI (100 + so.getD a1k 0))) at_X3_isOfOtherSort_15 (w_shv (j := a1k) (by omega) u1 u2) rfl (by decide) rfl ?_
                            refine E_aload_n at_X3_isOfOtherSort_18 rfl ?_
                            refine E_getfield (v := .int (nI (100 + so.getD a2k 0))) at_X3_isOfOtherSort_19 (w_shv (j := a2k) (by omega) u21 u22) rfl (by decide) rfl ?_
                            refine E_ic (t := 29) (b := true) at_X3_isOfOtherSort_22 rfl ((cn_eq (nI_toInt (by omega)) (nI_toInt (by omega))).trans (decide_eq_true (by omega))) ?_
                            refine E_iconst (x := nI 0) at_X3_isOfOtherSort_29 (by decide) ?_
                            exact E_iret at_X3_isOfOtherSort_30 rfl
                          refine E_callV (v := some (.int (nI 0))) (As := [.ref (49 + 2 * a1k), .ref (49 + 2 * a2k)]) (r0 := []) (cs2 := (ww im lf s d k ls rf rz ra rn rq lt m1 m2 m3 m4 bd fc hd sz el s g fm hm so si sh ce ca td wa kp la bf oo bo pw ow tr)) at_X5_copy_56 rfl rfl (Nat.le_of_ble_eq_true rfl) rfl (ab_rvOf (w_shv (j := a1k) (by omega) u1 u2) rfl) e5 (by decide) rfl ?_
                          refine E_if (t := 68) (b := true) at_X5_copy_59 rfl (by decide) ?_
                          refine E_aload at_X5_copy_68 rfl ?_
                          have e6 : Ev ab_Z0 1 32 [.ref (49 + 2 * a1k)] (ww im lf s d k ls rf rz ra rn rq lt m1 m2 m3 m4 bd fc hd sz el s g fm hm so si sh ce ca td wa kp la bf oo bo pw ow tr) (some (.int (nI 0)), (ww im lf s d k ls rf rz ra rn rq lt m1 m2 m3 m4 bd fc hd sz el s g fm hm so si sh ce ca td wa kp la bf oo bo pw ow tr)) := by
                            refine Ef.in (md := mX3_isEmpty) (L := [some (.ref (49 + 2 * a1k))]) rfl (Nat.le_of_ble_eq_true rfl) rfl ?_
                            refine E_aload_n at_X3_isEmpty_0 rfl ?_
                            refine E_getfield (v := .int (nI (100 + so.getD a1k 0))) at_X3_isEmpty_1 (w_shv (j := a1k) (by omega) u1 u2) rfl (by decide) rfl ?_
                            refine E_iconst (x := (-1)) at_X3_isEmpty_4 (by decide) ?_
                            refine E_ic (t := 12) (b := true) at_X3_isEmpty_5 rfl ((cn_ne (nI_toInt (by omega)) (by decide : (-1 : Int32).toInt = -1)).trans (decide_eq_true (by omega))) ?_
                            refine E_iconst (x := nI 0) at_X3_isEmpty_12 (by decide) ?_
                            exact E_iret at_X3_isEmpty_13 rfl
                          refine E_callV (v := some (.int (nI 0))) (As := [.ref (49 + 2 * a1k)]) (r0 := []) (cs2 := (ww im lf s d k ls rf rz ra rn rq lt m1 m2 m3 m4 bd fc hd sz el s g fm hm so si sh ce ca td wa kp la bf oo bo pw ow tr)) at_X5_copy_70 rfl rfl (Nat.le_of_ble_eq_true rfl) rfl (ab_rvOf (w_shv (j := a1k) (by omega) u1 u2) rfl) e6 (by decide) rfl ?_
                          refine E_if (t := 84) (b := false) at_X5_copy_73 rfl (by decide) ?_
                          refine E_aload at_X5_copy_76 rfl ?_
                          have e7 : Ev ab_Z0 1 32 [.ref (49 + 2 * a2k)] (ww im lf s d k ls rf rz ra rn rq lt m1 m2 m3 m4 bd fc hd sz el s g fm hm so si sh ce ca td wa kp la bf oo bo pw ow tr) (some (.int (nI 0)), (ww im lf s d k ls rf rz ra rn rq lt m1 m2 m3 m4 bd fc hd sz el s g fm hm so si sh ce ca td wa kp la bf oo bo pw ow tr)) := by
                            refine Ef.in (md := mX3_isEmpty) (L := [some (.ref (49 + 2 * a2k))]) rfl (Nat.le_of_ble_eq_true rfl) rfl ?_
                            refine E_aload_n at_X3_isEmpty_0 rfl ?_
                            refine E_getfield (v := .int (nI (100 + so.getD a2k 0))) at_X3_isEmpty_1 (w_shv (j := a2k) (by omega) u21 u22) rfl (by decide) rfl ?_
                            refine E_iconst (x := (-1)) at_X3_isEmpty_4 (by decide) ?_
                            refine E_ic (t := 12) (b := true) at_X3_isEmpty_5 rfl ((cn_ne (nI_toInt (by omega)) (by decide : (-1 : Int32).toInt = -1)).trans (decide_eq_true (by omega))) ?_
                            refine E_iconst (x := nI 0) at_X3_isEmpty_12 (by decide) ?_
                            exact E_iret at_X3_isEmpty_13 rfl
                          refine E_callV (v := some (.int (nI 0))) (As := [.ref (49 + 2 * a2k)]) (r0 := []) (cs2 := (ww im lf s d k ls rf rz ra rn rq lt m1 m2 m3 m4 bd fc hd sz el s g fm hm so si sh ce ca td wa kp la bf oo bo pw ow tr)) at_X5_copy_78 rfl rfl (Nat.le_of_ble_eq_true rfl) rfl (ab_rvOf (w_shv (j := a2k) (by omega) u21 u22) rfl) e7 (by decide) rfl ?_
                          refine E_if (t := 90) (b := true) at_X5_copy_81 rfl (by decide) ?_
                          refine E_iload at_X5_copy_90 rfl ?_
                          refine E_if (t := 101) (b := true) at_X5_copy_92 rfl ((cn_ge (nI_toInt (by omega)) (by decide : (0 : Int32).toInt = 0)).trans (decide_eq_true (by omega))) ?_
                          refine E_aload at_X5_copy_101 rfl ?_
                          refine E_iload_n at_X5_copy_103 rfl ?_
                          refine E_iload at_X5_copy_104 rfl ?_
                          have e8 : Ev ab_Z0 1 36 [.ref (49 + 2 * a1k), .int (nI a3k), .int (nI a5k)] (ww im lf s d k ls rf rz ra rn rq lt m1 m2 m3 m4 bd fc hd sz el s g fm hm so si sh ce ca td wa kp la bf oo bo pw ow tr) (some (.int (nI 0)), (ww im lf s d k ls rf rz ra rn rq lt m1 m2 m3 m4 bd fc hd sz el s g fm hm so si sh ce ca td wa kp la bf oo bo pw ow tr)) := by
                            refine Ef.in (md := mX3_hasStretch) (L := [some (.ref (49 + 2 * a1k)), some (.int (nI a3k)), some (.int (nI a5k))]) rfl (Nat.le_of_ble_eq_true rfl) rfl ?_
                            refine E_iload_n at_X3_hasStretch_0 rfl ?_
                            refine E_if (t := 30) (b := false) at_X3_hasStretch_1 rfl ((cn_lt (nI_toInt (by omega)) (by decide : (0 : Int32).toInt = 0)).trans (decide_eq_false (by omega))) ?_
                            refine E_iload_n at_X3_hasStretch_4 rfl ?_
                            refine E_aload_n at_X3_hasStretch_5 rfl ?_
                            refine E_getfield (v := .int (nI (si.getD a1k 0))) at_X3_hasStretch_6 (w_shv (j := a1k) (by omega) u1 u2) rfl (by decide) rfl ?_
                            refine E_ic (t := 30) (b := true) at_X3_hasStretch_9 rfl ((cn_gt (nI_toInt (by omega)) (nI_toInt (by omega))).trans (decide_eq_true (by omega))) ?_
                            refine E_iconst (x := nI 0) at_X3_hasStretch_30 (by decide) ?_
                            exact E_iret at_X3_hasStretch_31 rfl
                          refine E_callV (v := some (.int (nI 0))) (As := [.ref (49 + 2 * a1k), .int (nI a3k), .int (nI a5k)]) (r0 := []) (cs2 := (ww im lf s d k ls rf rz ra rn rq lt m1 m2 m3 m4 bd fc hd sz el s g fm hm so si sh ce ca td wa kp la bf oo bo pw ow tr)) at_X5_copy_106 rfl rfl (Nat.le_of_ble_eq_true rfl) rfl (ab_rvOf (w_shv (j := a1k) (by omega) u1 u2) rfl) e8 (by decide) rfl ?_
                          refine E_if (t := 124) (b := true) at_X5_copy_109 rfl (by decide) ?_
                          refine E_aload_n at_X5_copy_124 rfl ?_
                          refine E_iconst (x := nI 5) at_X5_copy_125 (by decide) ?_
                          refine E_callV (v := some (.int (-5))) (As := [.ref 0, .int (nI 5)]) (r0 := []) (cs2 := (ww im lf s d k ls rf rz ra rn rq lt m1 m2 m3 m4 bd (fc.set 5 ((fc.getD 5 0) + (nI 1))) hd sz el s g fm hm so si sh ce ca td wa kp la bf oo bo pw ow tr)) at_X5_copy_126 rfl rfl (Nat.le_of_ble_eq_true rfl) rfl (ab_rvOf w0 rfl) (L18_X5_refuse (by omega)) (by decide) w_lens ?_
                          exact E_iret at_X5_copy_129 rfl
                        · show Ev ab_Z0 2 137 [.ref 65, .int (nI a1k), .int (nI a2k), .int (nI a3k), .int (nI a4k), .int (nI a5k)] (ww im lf s d k ls rf rz ra rn rq lt m1 m2 m3 m4 bd (fc.set 5 ((fc.getD 5 0) + (nI 1))) hd sz el s g fm hm so si sh ce ca td wa kp la bf oo bo pw ow tr) (some (.int (-5)), (ww im lf s d k ls rf rz ra rn rq lt m1 m2 m3 m4 bd (fc.set 5 ((fc.getD 5 0) + (nI 1))) hd sz el s g (fm.set 5 ((fm.getD 5 0) + (nI 1))) hm so si sh ce ca td wa kp la bf oo bo pw ow tr))
                          refine Ef.in (md := mX6_copy) (L := [some (.ref 65), some (.int (nI a1k)), some (.int (nI a2k)), some (.int (nI a3k)), some (.int (nI a4k)), some (.int (nI a5k)), none]) rfl (Nat.le_of_ble_eq_true rfl) rfl ?_
                          refine E_aload_n at_X6_copy_0 rfl ?_
                          refine E_iload_n at_X6_copy_1 rfl ?_
                          refine E_callV (v := some (.int (nI 1))) (As := [.ref 65, .int (nI a1k)]) (r0 := []) (cs2 := (ww im lf s d k ls rf rz ra rn rq lt m1 m2 m3 m4 bd (fc.set 5 ((fc.getD 5 0) + (nI 1))) hd sz el s g fm hm so si sh ce ca td wa kp la bf oo bo pw ow tr)) at_X6_copy_2 rfl rfl (Nat.le_of_ble_eq_true rfl) rfl (ab_rvOf w65 rfl) (L40_X6_isShelf (by omega) (by omega) (by omega)) (by decide) rfl ?_
                          refine E_if (t := 16) (b := false) at_X6_copy_5 rfl (by decide) ?_
                          refine E_aload_n at_X6_copy_8 rfl ?_
                          refine E_iload_n at_X6_copy_9 rfl ?_
                          refine E_callV (v := some (.int (nI 1))) (As := [.ref 65, .int (nI a2k)]) (r0 := []) (cs2 := (ww im lf s d k ls rf rz ra rn rq lt m1 m2 m3 m4 bd (fc.set 5 ((fc.getD 5 0) + (nI 1))) hd sz el s g fm hm so si sh ce ca td wa kp la bf oo bo pw ow tr)) at_X6_copy_10 rfl rfl (Nat.le_of_ble_eq_true rfl) rfl (ab_rvOf w65 rfl) (L40_X6_isShelf (by omega) (by omega) (by omega)) (by decide) rfl ?_
                          refine E_if (t := 22) (b := true) at_X6_copy_13 rfl (by decide) ?_
                          refine E_aload_n at_X6_copy_22 rfl ?_
                          refine E_getfield (v := .ref 76) at_X6_copy_23 w65 rfl (by decide) rfl ?_
                          refine E_iload_n at_X6_copy_26 rfl ?_
                          refine E_ialN (l := hm) (v := hm.getD a1k 0) at_X6_copy_27 w76 (by omega) (by omega) rfl ?_
                          refine E_iconst (x := nI 2) at_X6_copy_28 (by decide) ?_
                          refine E_ic (t := 77) (b := false) at_X6_copy_29 rfl ((cn_eq (nI_toInt (by omega)) (nI_toInt (by omega))).trans (decide_eq_false (by omega))) ?_
                          refine E_aload_n at_X6_copy_32 rfl ?_
                          refine E_getfield (v := .ref 76) at_X6_copy_33 w65 rfl (by decide) rfl ?_
                          refine E_iload_n at_X6_copy_36 rfl ?_
                          refine E_ialN (l := hm) (v := hm.getD a2k 0) at_X6_copy_37 w76 (by omega) (by omega) rfl ?_
                          refine E_iconst (x := nI 2) at_X6_copy_38 (by decide) ?_
                          refine E_ic (t := 77) (b := false) at_X6_copy_39 rfl ((cn_eq (nI_toInt (by omega)) (nI_toInt (by omega))).trans (decide_eq_false (by omega))) ?_
                          refine E_aload_n at_X6_copy_42 rfl ?_
                          refine E_getfield (v := .ref 76) at_X6_copy_43 w65 rfl (by decide) rfl ?_
                          refine E_iload_n at_X6_copy_46 rfl ?_
                          refine E_ialN (l := hm) (v := hm.getD a1k 0) at_X6_copy_47 w76 (by omega) (by omega) rfl ?_
                          refine E_iconst (x := nI 1) at_X6_copy_48 (by decide) ?_
                          refine E_ic (t := 84) (b := false) at_X6_copy_49 rfl ((cn_ne (nI_toInt (by omega)) (nI_toInt (by omega))).trans (decide_eq_false (by omega))) ?_
                          refine E_aload_n at_X6_copy_52 rfl ?_
                          refine E_getfield (v := .ref 76) at_X6_copy_53 w65 rfl (by decide) rfl ?_
                          refine E_iload_n at_X6_copy_56 rfl ?_
                          refine E_ialN (l := hm) (v := hm.getD a2k 0) at_X6_copy_57 w76 (by omega) (by omega) rfl ?_
                          refine E_iconst (x := nI 1) at_X6_copy_58 (by decide) ?_
                          refine E_ic (t := 84) (b := false) at_X6_copy_59 rfl ((cn_ne (nI_toInt (by omega)) (nI_toInt (by omega))).trans (decide_eq_false (by omega))) ?_
                          refine E_aload_n at_X6_copy_62 rfl ?_
                          refine E_getfield (v := .ref 77) at_X6_copy_63 w65 rfl (by decide) rfl ?_
                          refine E_iload_n at_X6_copy_66 rfl ?_
                          refine E_ialN (l := so) (v := so.getD a1k 0) at_X6_copy_67 w77 (by omega) (by omega) rfl ?_
                          refine E_aload_n at_X6_copy_68 rfl ?_
                          refine E_getfield (v := .ref 77) at_X6_copy_69 w65 rfl (by decide) rfl ?_
                          refine E_iload_n at_X6_copy_72 rfl ?_
                          refine E_ialN (l := so) (v := so.getD a2k 0) at_X6_copy_73 w77 (by omega) (by omega) rfl ?_
                          refine E_ic (t := 84) (b := true) at_X6_copy_74 rfl ((cn_eq (nI_toInt (by omega)) (nI_toInt (by omega))).trans (decide_eq_true (by omega))) ?_
                          refine E_aload_n at_X6_copy_84 rfl ?_
                          refine E_getfield (v := .ref 76) at_X6_copy_85 w65 rfl (by decide) rfl ?_
                          refine E_iload_n at_X6_copy_88 rfl ?_
                          refine E_ialN (l := hm) (v := hm.getD a1k 0) at_X6_copy_89 w76 (by omega) (by omega) rfl ?_
                          refine E_if (t := 102) (b := false) at_X6_copy_90 rfl ((cn_eq (nI_toInt (by omega)) (by decide : (0 : Int32).toInt = 0)).trans (decide_eq_false (by omega))) ?_
                          refine E_aload_n at_X6_copy_93 rfl ?_
                          refine E_getfield (v := .ref 76) at_X6_copy_94 w65 rfl (by decide) rfl ?_
                          refine E_iload_n at_X6_copy_97 rfl ?_
                          refine E_ialN (l := hm) (v := hm.getD a2k 0) at_X6_copy_98 w76 (by omega) (by omega) rfl ?_
                          refine E_if (t := 109) (b := true) at_X6_copy_99 rfl ((cn_ne (nI_toInt (by omega)) (by decide : (0 : Int32).toInt = 0)).trans (decide_eq_true (by omega))) ?_
                          refine E_iload at_X6_copy_109 rfl ?_
                          refine E_if (t := 121) (b := true) at_X6_copy_111 rfl ((cn_ge (nI_toInt (by omega)) (by decide : (0 : Int32).toInt = 0)).trans (decide_eq_true (by omega))) ?_
                          refine E_iload_n at_X6_copy_121 rfl ?_
                          refine E_if (t := 157) (b := false) at_X6_copy_122 rfl ((cn_lt (nI_toInt (by omega)) (by decide : (0 : Int32).toInt = 0)).trans (decide_eq_false (by omega))) ?_
                          refine E_iload at_X6_copy_125 rfl ?_
                          refine E_if (t := 157) (b := false) at_X6_copy_127 rfl ((cn_lt (nI_toInt (by omega)) (by decide : (0 : Int32).toInt = 0)).trans (decide_eq_false (by omega))) ?_
                          refine E_iload_n at_X6_copy_130 rfl ?_
                          refine E_aload_n at_X6_copy_131 rfl ?_
                          refine E_getfield (v := .ref 78) at_X6_copy_132 w65 rfl (by decide) rfl ?_
                          refine E_iload_n at_X6_copy_135 rfl ?_
                          refine E_ialN (l := si) (v := si.getD a1k 0) at_X6_copy_136 w78 (by omega) (by omega) rfl ?_
                          refine E_iload at_X6_copy_137 rfl ?_
                          refine E_isub (z := nI (si.getD a1k 0) - nI a5k) at_X6_copy_139 rfl ?_
                          refine E_ic (t := 157) (b := true) at_X6_copy_140 rfl ((cn_gt (nI_toInt (by omega)) (ab_subI (by omega) (by omega))).trans (decide_eq_true (by omega))) ?_
                          refine E_aload_n at_X6_copy_157 rfl ?_
                          refine E_bipush (x := (-5)) at_X6_copy_158 (by decide) ?_
                          refine E_callV (v := some (.int (-5))) (As := [.ref 65, .int (-5)]) (r0 := []) (cs2 := (ww im lf s d k ls rf rz ra rn rq lt m1 m2 m3 m4 bd (fc.set 5 ((fc.getD 5 0) + (nI 1))) hd sz el s g (fm.set 5 ((fm.getD 5 0) + (nI 1))) hm so si sh ce ca td wa kp la bf oo bo pw ow tr)) at_X6_copy_160 rfl rfl (Nat.le_of_ble_eq_true rfl) rfl (ab_rvOf w65 rfl) (L19_X6_no (by omega)) (by decide) w_lens ?_
                          exact E_iret at_X6_copy_163 rfl
                        · exact ⟨I, rfl, hf, iQ, iM, iT, iS, l_el, (lr.1), (lr.2.1), (lr.2.2.1), (by simp only [List.length_set]; exact (lr.2.2.2.1)), (by simp only [List.length_set]; exact (lr.2.2.2.2.1)), (lr.2.2.2.2.2.1), (lr.2.2.2.2.2.2.1), (lr.2.2.2.2.2.2.2.1), (lr.2.2.2.2.2.2.2.2.1), (lr.2.2.2.2.2.2.2.2.2.1), (lr.2.2.2.2.2.2.2.2.2.2.1), (lr.2.2.2.2.2.2.2.2.2.2.2.1), (lr.2.2.2.2.2.2.2.2.2.2.2.2.1), (lr.2.2.2.2.2.2.2.2.2.2.2.2.2.1), (lr.2.2.2.2.2.2.2.2.2.2.2.2.2.2.1), (lr.2.2.2.2.2.2.2.2.2.2.2.2.2.2.2.1), (lr.2.2.2.2.2.2.2.2.2.2.2.2.2.2.2.2.1), (lr.2.2.2.2.2.2.2.2.2.2.2.2.2.2.2.2.2.1), (lr.2.2.2.2.2.2.2.2.2.2.2.2.2.2.2.2.2.2.1), (lr.2.2.2.2.2.2.2.2.2.2.2.2.2.2.2.2.2.2.2.1), (lr.2.2.2.2.2.2.2.2.2.2.2.2.2.2.2.2.2.2.2.2)⟩
                      · refine ⟨(-5), (im, lf, s, d, k, ls, rf, rz, ra, rn, rq, lt, m1, m2, m3, m4, bd, (fc.set 5 ((fc.getD 5 0) + (nI 1))), hd, sz, el, s, g, fm, hm, so, si, sh, ce, ca, td, wa, kp, la, bf, oo, bo, pw, ow, tr), (im, lf, s, d, k, ls, rf, rz, ra, rn, rq, lt, m1, m2, m3, m4, bd, (fc.set 5 ((fc.getD 5 0) + (nI 1))), hd, sz, el, s, g, (fm.set 5 ((fm.getD 5 0) + (nI 1))), hm, so, si, sh, ce, ca, td, wa, kp, la, bf, oo, bo, pw, ow, tr), ?_, ?_, ?_⟩
                        · show Ev ab_Z0 3 78 [.ref 0, .int (nI a1k), .int (nI a2k), .int (nI a3k), .int a4, .int (nI a5k)] (ww im lf s d k ls rf rz ra rn rq lt m1 m2 m3 m4 bd fc hd sz el s g fm hm so si sh ce ca td wa kp la bf oo bo pw ow tr) (some (.int (-5)), (ww im lf s d k ls rf rz ra rn rq lt m1 m2 m3 m4 bd (fc.set 5 ((fc.getD 5 0) + (nI 1))) hd sz el s g fm hm so si sh ce ca td wa kp la bf oo bo pw ow tr))
                          refine Ef.in (md := mX5_copy) (L := [some (.ref 0), some (.int (nI a1k)), some (.int (nI a2k)), some (.int (nI a3k)), some (.int a4), some (.int (nI a5k)), none, none]) rfl (Nat.le_of_ble_eq_true rfl) rfl ?_
                          refine E_iload_n at_X5_copy_0 rfl ?_
                          refine E_callS (v := some (.int (nI 1))) (As := [.int (nI a1k)]) (r0 := []) (cs2 := (ww im lf s d k ls rf rz ra rn rq lt m1 m2 m3 m4 bd fc hd sz el s g fm hm so si sh ce ca td wa kp la bf oo bo pw ow tr)) at_X5_copy_1 rfl rfl (Nat.le_of_ble_eq_true rfl) rfl (L39_X5_isShelf (by omega) (by omega) (by omega)) (by decide) rfl ?_
                          refine E_if (t := 14) (b := false) at_X5_copy_4 rfl (by decide) ?_
                          refine E_iload_n at_X5_copy_7 rfl ?_
                          refine E_callS (v := some (.int (nI 1))) (As := [.int (nI a2k)]) (r0 := []) (cs2 := (ww im lf s d k ls rf rz ra rn rq lt m1 m2 m3 m4 bd fc hd sz el s g fm hm so si sh ce ca td wa kp la bf oo bo pw ow tr)) at_X5_copy_8 rfl rfl (Nat.le_of_ble_eq_true rfl) rfl (L39_X5_isShelf (by omega) (by omega) (by omega)) (by decide) rfl ?_
                          refine E_if (t := 20) (b := true) at_X5_copy_11 rfl (by decide) ?_
                          refine E_aload_n at_X5_copy_20 rfl ?_
                          refine E_getfield (v := .ref 31) at_X5_copy_21 w0 rfl (by decide) rfl ?_
                          refine E_iload_n at_X5_copy_24 rfl ?_
                          refine E_aalN (b := 49 + 2 * a1k) at_X5_copy_25 w31 (by omega) (w_shs (by omega)) ?_
                          refine E_astore (L2 := [some (.ref 0), some (.int (nI a1k)), some (.int (nI a2k)), some (.int (nI a3k)), some (.int a4), some (.int (nI a5k)), some (.ref (49 + 2 * a1k)), none]) at_X5_copy_26 rfl ?_
                          refine E_aload_n at_X5_copy_28 rfl ?_
                          refine E_getfield (v := .ref 31) at_X5_copy_29 w0 rfl (by decide) rfl ?_
                          refine E_iload_n at_X5_copy_32 rfl ?_
                          refine E_aalN (b := 49 + 2 * a2k) at_X5_copy_33 w31 (by omega) (w_shs (by omega)) ?_
                          refine E_astore (L2 := [some (.ref 0), some (.int (nI a1k)), some (.int (nI a2k)), some (.int (nI a3k)), some (.int a4), some (.int (nI a5k)), some (.ref (49 + 2 * a1k)), some (.ref (49 + 2 * a2k))]) at_X5_copy_34 rfl ?_
                          refine E_aload at_X5_copy_36 rfl ?_
                          have e1 : Ev ab_Z0 1 33 [.ref (49 + 2 * a1k)] (ww im lf s d k ls rf rz ra rn rq lt m1 m2 m3 m4 bd fc hd sz el s g fm hm so si sh ce ca td wa kp la bf oo bo pw ow tr) (some (.int (nI 0)), (ww im lf s d k ls rf rz ra rn rq lt m1 m2 m3 m4 bd fc hd sz el s g fm hm so si sh ce ca td wa kp la bf oo bo pw ow tr)) := by
                            refine Ef.in (md := mX3_isOtherThanRow) (L := [some (.ref (49 + 2 * a1k))]) rfl (Nat.le_of_ble_eq_true rfl) rfl ?_
                            refine E_aload_n at_X3_isOtherThanRow_0 rfl ?_
                            refine E_getfield (v := .int (nI (100 + so.getD a1k 0))) at_X3_isOtherThanRow_1 (w_shv (j := a1k) (by omega) u1 u2) rfl (by decide) rfl ?_
                            refine E_if (t := 20) (b := false) at_X3_isOtherThanRow_4 rfl ((cn_lt (nI_toInt (by omega)) (by decide : (0 : Int32).toInt = 0)).trans (decide_eq_false (by omega))) ?_
                            refine E_aload_n at_X3_isOtherThanRow_7 rfl ?_
                            refine E_getfield (v := .int (nI (100 + so.getD a1k 0))) at_X3_isOtherThanRow_8 (w_shv (j := a1k) (by omega) u1 u2) rfl (by decide) rfl ?_
                            refine E_bipush (x := nI 100) at_X3_isOtherThanRow_11 (by decide) ?_
                            refine E_ic (t := 20) (b := true) at_X3_isOtherThanRow_13 rfl ((cn_ge (nI_toInt (by omega)) (nI_toInt (by omega))).trans (decide_eq_true (by omega))) ?_
                            refine E_iconst (x := nI 0) at_X3_isOtherThanRow_20 (by decide) ?_
                            exact E_iret at_X3_isOtherThanRow_21 rfl
                          refine E_callV (v := some (.int (nI 0))) (As := [.ref (49 + 2 * a1k)]) (r0 := []) (cs2 := (ww im lf s d k ls rf rz ra rn rq lt m1 m2 m3 m4 bd fc hd sz el s g fm hm so si sh ce ca td wa kp la bf oo bo pw ow tr)) at_X5_copy_38 rfl rfl (Nat.le_of_ble_eq_true rfl) rfl (ab_rvOf (w_shv (j := a1k) (by omega) u1 u2) rfl) e1 (by decide) rfl ?_
                          refine E_if (t := 62) (b := false) at_X5_copy_41 rfl (by decide) ?_
                          refine E_aload at_X5_copy_44 rfl ?_
                          have e2 : Ev ab_Z0 1 33 [.ref (49 + 2 * a2k)] (ww im lf s d k ls rf rz ra rn rq lt m1 m2 m3 m4 bd fc hd sz el s g fm hm so si sh ce ca td wa kp la bf oo bo pw ow tr) (some (.int (nI 0)), (ww im lf s d k ls rf rz ra rn rq lt m1 m2 m3 m4 bd fc hd sz el s g fm hm so si sh ce ca td wa kp la bf oo bo pw ow tr)) := by
                            refine Ef.in (md := mX3_isOtherThanRow) (L := [some (.ref (49 + 2 * a2k))]) rfl (Nat.le_of_ble_eq_true rfl) rfl ?_
                            refine E_aload_n at_X3_isOtherThanRow_0 rfl ?_
                            refine E_getfield (v := .int (nI (100 + so.getD a2k 0))) at_X3_isOtherThanRow_1 (w_shv (j := a2k) (by omega) u21 u22) rfl (by decide) rfl ?_
                            refine E_if (t := 20) (b := false) at_X3_isOtherThanRow_4 rfl ((cn_lt (nI_toInt (by omega)) (by decide : (0 : Int32).toInt = 0)).trans (decide_eq_false (by omega))) ?_
                            refine E_aload_n at_X3_isOtherThanRow_7 rfl ?_
                            refine E_getfield (v := .int (nI (100 + so.getD a2k 0))) at_X3_isOtherThanRow_8 (w_shv (j := a2k) (by omega) u21 u22) rfl (by decide) rfl ?_
                            refine E_bipush (x := nI 100) at_X3_isOtherThanRow_11 (by decide) ?_
                            refine E_ic (t := 20) (b := true) at_X3_isOtherThanRow_13 rfl ((cn_ge (nI_toInt (by omega)) (nI_toInt (by omega))).trans (decide_eq_true (by omega))) ?_
                            refine E_iconst (x := nI 0) at_X3_isOtherThanRow_20 (by decide) ?_
                            exact E_iret at_X3_isOtherThanRow_21 rfl
                          refine E_callV (v := some (.int (nI 0))) (As := [.ref (49 + 2 * a2k)]) (r0 := []) (cs2 := (ww im lf s d k ls rf rz ra rn rq lt m1 m2 m3 m4 bd fc hd sz el s g fm hm so si sh ce ca td wa kp la bf oo bo pw ow tr)) at_X5_copy_46 rfl rfl (Nat.le_of_ble_eq_true rfl) rfl (ab_rvOf (w_shv (j := a2k) (by omega) u21 u22) rfl) e2 (by decide) rfl ?_
                          refine E_if (t := 62) (b := false) at_X5_copy_49 rfl (by decide) ?_
                          refine E_aload at_X5_copy_52 rfl ?_
                          refine E_aload at_X5_copy_54 rfl ?_
                          have e5 : Ev ab_Z0 2 34 [.ref (49 + 2 * a1k), .ref (49 + 2 * a2k)] (ww im lf s d k ls rf rz ra rn rq lt m1 m2 m3 m4 bd fc hd sz el s g fm hm so si sh ce ca td wa kp la bf oo bo pw ow tr) (some (.int (nI 0)), (ww im lf s d k ls rf rz ra rn rq lt m1 m2 m3 m4 bd fc hd sz el s g fm hm so si sh ce ca td wa kp la bf oo bo pw ow tr)) := by
                            refine Ef.in (md := mX3_isOfOtherSort) (L := [some (.ref (49 + 2 * a1k)), some (.ref (49 + 2 * a2k))]) rfl (Nat.le_of_ble_eq_true rfl) rfl ?_
                            refine E_aload_n at_X3_isOfOtherSort_0 rfl ?_
                            have e3 : Ev ab_Z0 1 32 [.ref (49 + 2 * a1k)] (ww im lf s d k ls rf rz ra rn rq lt m1 m2 m3 m4 bd fc hd sz el s g fm hm so si sh ce ca td wa kp la bf oo bo pw ow tr) (some (.int (nI 0)), (ww im lf s d k ls rf rz ra rn rq lt m1 m2 m3 m4 bd fc hd sz el s g fm hm so si sh ce ca td wa kp la bf oo bo pw ow tr)) := by
                              refine Ef.in (md := mX3_isEmpty) (L := [some (.ref (49 + 2 * a1k))]) rfl (Nat.le_of_ble_eq_true rfl) rfl ?_
                              refine E_aload_n at_X3_isEmpty_0 rfl ?_
                              refine E_getfield (v := .int (nI (100 + so.getD a1k 0))) at_X3_isEmpty_1 (w_shv (j := a1k) (by omega) u1 u2) rfl (by decide) rfl ?_
                              refine E_iconst (x := (-1)) at_X3_isEmpty_4 (by decide) ?_
                              refine E_ic (t := 12) (b := true) at_X3_isEmpty_5 rfl ((cn_ne (nI_toInt (by omega)) (by decide : (-1 : Int32).toInt = -1)).trans (decide_eq_true (by omega))) ?_
                              refine E_iconst (x := nI 0) at_X3_isEmpty_12 (by decide) ?_
                              exact E_iret at_X3_isEmpty_13 rfl
                            refine E_callV (v := some (.int (nI 0))) (As := [.ref (49 + 2 * a1k)]) (r0 := []) (cs2 := (ww im lf s d k ls rf rz ra rn rq lt m1 m2 m3 m4 bd fc hd sz el s g fm hm so si sh ce ca td wa kp la bf oo bo pw ow tr)) at_X3_isOfOtherSort_1 rfl rfl (Nat.le_of_ble_eq_true rfl) rfl (ab_rvOf (w_shv (j := a1k) (by omega) u1 u2) rfl) e3 (by decide) rfl ?_
                            refine E_if (t := 29) (b := false) at_X3_isOfOtherSort_4 rfl (by decide) ?_
                            refine E_aload_n at_X3_isOfOtherSort_7 rfl ?_
                            have e4 : Ev ab_Z0 1 32 [.ref (49 + 2 * a2k)] (ww im lf s d k ls rf rz ra rn rq lt m1 m2 m3 m4 bd fc hd sz el s g fm hm so si sh ce ca td wa kp la bf oo bo pw ow tr) (some (.int (nI 0)), (ww im lf s d k ls rf rz ra rn rq lt m1 m2 m3 m4 bd fc hd sz el s g fm hm so si sh ce ca td wa kp la bf oo bo pw ow tr)) := by
                              refine Ef.in (md := mX3_isEmpty) (L := [some (.ref (49 + 2 * a2k))]) rfl (Nat.le_of_ble_eq_true rfl) rfl ?_
                              refine E_aload_n at_X3_isEmpty_0 rfl ?_
                              refine E_getfield (v := .int (nI (100 + so.getD a2k 0))) at_X3_isEmpty_1 (w_shv (j := a2k) (by omega) u21 u22) rfl (by decide) rfl ?_
                              refine E_iconst (x := (-1)) at_X3_isEmpty_4 (by decide) ?_
                              refine E_ic (t := 12) (b := true) at_X3_isEmpty_5 rfl ((cn_ne (nI_toInt (by omega)) (by decide : (-1 : Int32).toInt = -1)).trans (decide_eq_true (by omega))) ?_
                              refine E_iconst (x := nI 0) at_X3_isEmpty_12 (by decide) ?_
                              exact E_iret at_X3_isEmpty_13 rfl
                            refine E_callV (v := some (.int (nI 0))) (As := [.ref (49 + 2 * a2k)]) (r0 := []) (cs2 := (ww im lf s d k ls rf rz ra rn rq lt m1 m2 m3 m4 bd fc hd sz el s g fm hm so si sh ce ca td wa kp la bf oo bo pw ow tr)) at_X3_isOfOtherSort_8 rfl rfl (Nat.le_of_ble_eq_true rfl) rfl (ab_rvOf (w_shv (j := a2k) (by omega) u21 u22) rfl) e4 (by decide) rfl ?_
                            refine E_if (t := 29) (b := false) at_X3_isOfOtherSort_11 rfl (by decide) ?_
                            refine E_aload_n at_X3_isOfOtherSort_14 rfl ?_
                            refine E_getfield (v := .int (nI (100 + so.getD a1k 0))) at_X3_isOfOtherSort_15 (w_shv (j := a1k) (by omega) u1 u2) rfl (by decide) rfl ?_
                            refine E_aload_n at_X3_isOfOtherSort_18 rfl ?_
                            refine E_getfield (v := .int (nI (100 + so.getD a2k 0))) at_X3_isOfOtherSort_19 (w_shv (j := a2k) (by omega) u21 u22) rfl (by decide) rfl ?_
                            refine E_ic (t := 29) (b := true) at_X3_isOfOtherSort_22 rfl ((cn_eq (nI_toInt (by omega)) (nI_toInt (by omega))).trans (decide_eq_true (by omega))) ?_
                            refine E_iconst (x := nI 0) at_X3_isOfOtherSort_29 (by decide) ?_
                            exact E_iret at_X3_isOfOtherSort_30 rfl
                          refine E_callV (v := some (.int (nI 0))) (As := [.ref (49 + 2 * a1k), .ref (49 + 2 * a2k)]) (r0 := []) (cs2 := (ww im lf s d k ls rf rz ra rn rq lt m1 m2 m3 m4 bd fc hd sz el s g fm hm so si sh ce ca td wa kp la bf oo bo pw ow tr)) at_X5_copy_56 rfl rfl (Nat.le_of_ble_eq_true rfl) rfl (ab_rvOf (w_shv (j := a1k) (by omega) u1 u2) rfl) e5 (by decide) rfl ?_
                          refine E_if (t := 68) (b := true) at_X5_copy_59 rfl (by decide) ?_
                          refine E_aload at_X5_copy_68 rfl ?_
                          have e6 : Ev ab_Z0 1 32 [.ref (49 + 2 * a1k)] (ww im lf s d k ls rf rz ra rn rq lt m1 m2 m3 m4 bd fc hd sz el s g fm hm so si sh ce ca td wa kp la bf oo bo pw ow tr) (some (.int (nI 0)), (ww im lf s d k ls rf rz ra rn rq lt m1 m2 m3 m4 bd fc hd sz el s g fm hm so si sh ce ca td wa kp la bf oo bo pw ow tr)) := by
                            refine Ef.in (md := mX3_isEmpty) (L := [some (.ref (49 + 2 * a1k))]) rfl (Nat.le_of_ble_eq_true rfl) rfl ?_
                            refine E_aload_n at_X3_isEmpty_0 rfl ?_
                            refine E_getfield (v := .int (nI (100 + so.getD a1k 0))) at_X3_isEmpty_1 (w_shv (j := a1k) (by omega) u1 u2) rfl (by decide) rfl ?_
                            refine E_iconst (x := (-1)) at_X3_isEmpty_4 (by decide) ?_
                            refine E_ic (t := 12) (b := true) at_X3_isEmpty_5 rfl ((cn_ne (nI_toInt (by omega)) (by decide : (-1 : Int32).toInt = -1)).trans (decide_eq_true (by omega))) ?_
                            refine E_iconst (x := nI 0) at_X3_isEmpty_12 (by decide) ?_
                            exact E_iret at_X3_isEmpty_13 rfl
                          refine E_callV (v := some (.int (nI 0))) (As := [.ref (49 + 2 * a1k)]) (r0 := []) (cs2 := (ww im lf s d k ls rf rz ra rn rq lt m1 m2 m3 m4 bd fc hd sz el s g fm hm so si sh ce ca td wa kp la bf oo bo pw ow tr)) at_X5_copy_70 rfl rfl (Nat.le_of_ble_eq_true rfl) rfl (ab_rvOf (w_shv (j := a1k) (by omega) u1 u2) rfl) e6 (by decide) rfl ?_
                          refine E_if (t := 84) (b := false) at_X5_copy_73 rfl (by decide) ?_
                          refine E_aload at_X5_copy_76 rfl ?_
                          have e7 : Ev ab_Z0 1 32 [.ref (49 + 2 * a2k)] (ww im lf s d k ls rf rz ra rn rq lt m1 m2 m3 m4 bd fc hd sz el s g fm hm so si sh ce ca td wa kp la bf oo bo pw ow tr) (some (.int (nI 0)), (ww im lf s d k ls rf rz ra rn rq lt m1 m2 m3 m4 bd fc hd sz el s g fm hm so si sh ce ca td wa kp la bf oo bo pw ow tr)) := by
                            refine Ef.in (md := mX3_isEmpty) (L := [some (.ref (49 + 2 * a2k))]) rfl (Nat.le_of_ble_eq_true rfl) rfl ?_
                            refine E_aload_n at_X3_isEmpty_0 rfl ?_
                            refine E_getfield (v := .int (nI (100 + so.getD a2k 0))) at_X3_isEmpty_1 (w_shv (j := a2k) (by omega) u21 u22) rfl (by decide) rfl ?_
                            refine E_iconst (x := (-1)) at_X3_isEmpty_4 (by decide) ?_
                            refine E_ic (t := 12) (b := true) at_X3_isEmpty_5 rfl ((cn_ne (nI_toInt (by omega)) (by decide : (-1 : Int32).toInt = -1)).trans (decide_eq_true (by omega))) ?_
                            refine E_iconst (x := nI 0) at_X3_isEmpty_12 (by decide) ?_
                            exact E_iret at_X3_isEmpty_13 rfl
                          refine E_callV (v := some (.int (nI 0))) (As := [.ref (49 + 2 * a2k)]) (r0 := []) (cs2 := (ww im lf s d k ls rf rz ra rn rq lt m1 m2 m3 m4 bd fc hd sz el s g fm hm so si sh ce ca td wa kp la bf oo bo pw ow tr)) at_X5_copy_78 rfl rfl (Nat.le_of_ble_eq_true rfl) rfl (ab_rvOf (w_shv (j := a2k) (by omega) u21 u22) rfl) e7 (by decide) rfl ?_
                          refine E_if (t := 90) (b := true) at_X5_copy_81 rfl (by decide) ?_
                          refine E_iload at_X5_copy_90 rfl ?_
                          refine E_if (t := 101) (b := true) at_X5_copy_92 rfl ((cn_ge (nI_toInt (by omega)) (by decide : (0 : Int32).toInt = 0)).trans (decide_eq_true (by omega))) ?_
                          refine E_aload at_X5_copy_101 rfl ?_
                          refine E_iload_n at_X5_copy_103 rfl ?_
                          refine E_iload at_X5_copy_104 rfl ?_
                          have e8 : Ev ab_Z0 1 36 [.ref (49 + 2 * a1k), .int (nI a3k), .int (nI a5k)] (ww im lf s d k ls rf rz ra rn rq lt m1 m2 m3 m4 bd fc hd sz el s g fm hm so si sh ce ca td wa kp la bf oo bo pw ow tr) (some (.int (nI 0)), (ww im lf s d k ls rf rz ra rn rq lt m1 m2 m3 m4 bd fc hd sz el s g fm hm so si sh ce ca td wa kp la bf oo bo pw ow tr)) := by
                            refine Ef.in (md := mX3_hasStretch) (L := [some (.ref (49 + 2 * a1k)), some (.int (nI a3k)), some (.int (nI a5k))]) rfl (Nat.le_of_ble_eq_true rfl) rfl ?_
                            refine E_iload_n at_X3_hasStretch_0 rfl ?_
                            refine E_if (t := 30) (b := false) at_X3_hasStretch_1 rfl ((cn_lt (nI_toInt (by omega)) (by decide : (0 : Int32).toInt = 0)).trans (decide_eq_false (by omega))) ?_
                            refine E_iload_n at_X3_hasStretch_4 rfl ?_
                            refine E_aload_n at_X3_hasStretch_5 rfl ?_
                            refine E_getfield (v := .int (nI (si.getD a1k 0))) at_X3_hasStretch_6 (w_shv (j := a1k) (by omega) u1 u2) rfl (by decide) rfl ?_
                            refine E_ic (t := 30) (b := true) at_X3_hasStretch_9 rfl ((cn_gt (nI_toInt (by omega)) (nI_toInt (by omega))).trans (decide_eq_true (by omega))) ?_
                            refine E_iconst (x := nI 0) at_X3_hasStretch_30 (by decide) ?_
                            exact E_iret at_X3_hasStretch_31 rfl
                          refine E_callV (v := some (.int (nI 0))) (As := [.ref (49 + 2 * a1k), .int (nI a3k), .int (nI a5k)]) (r0 := []) (cs2 := (ww im lf s d k ls rf rz ra rn rq lt m1 m2 m3 m4 bd fc hd sz el s g fm hm so si sh ce ca td wa kp la bf oo bo pw ow tr)) at_X5_copy_106 rfl rfl (Nat.le_of_ble_eq_true rfl) rfl (ab_rvOf (w_shv (j := a1k) (by omega) u1 u2) rfl) e8 (by decide) rfl ?_
                          refine E_if (t := 124) (b := true) at_X5_copy_109 rfl (by decide) ?_
                          refine E_aload_n at_X5_copy_124 rfl ?_
                          refine E_iconst (x := nI 5) at_X5_copy_125 (by decide) ?_
                          refine E_callV (v := some (.int (-5))) (As := [.ref 0, .int (nI 5)]) (r0 := []) (cs2 := (ww im lf s d k ls rf rz ra rn rq lt m1 m2 m3 m4 bd (fc.set 5 ((fc.getD 5 0) + (nI 1))) hd sz el s g fm hm so si sh ce ca td wa kp la bf oo bo pw ow tr)) at_X5_copy_126 rfl rfl (Nat.le_of_ble_eq_true rfl) rfl (ab_rvOf w0 rfl) (L18_X5_refuse (by omega)) (by decide) w_lens ?_
                          exact E_iret at_X5_copy_129 rfl
                        · show Ev ab_Z0 2 137 [.ref 65, .int (nI a1k), .int (nI a2k), .int (nI a3k), .int a4, .int (nI a5k)] (ww im lf s d k ls rf rz ra rn rq lt m1 m2 m3 m4 bd (fc.set 5 ((fc.getD 5 0) + (nI 1))) hd sz el s g fm hm so si sh ce ca td wa kp la bf oo bo pw ow tr) (some (.int (-5)), (ww im lf s d k ls rf rz ra rn rq lt m1 m2 m3 m4 bd (fc.set 5 ((fc.getD 5 0) + (nI 1))) hd sz el s g (fm.set 5 ((fm.getD 5 0) + (nI 1))) hm so si sh ce ca td wa kp la bf oo bo pw ow tr))
                          refine Ef.in (md := mX6_copy) (L := [some (.ref 65), some (.int (nI a1k)), some (.int (nI a2k)), some (.int (nI a3k)), some (.int a4), some (.int (nI a5k)), none]) rfl (Nat.le_of_ble_eq_true rfl) rfl ?_
                          refine E_aload_n at_X6_copy_0 rfl ?_
                          refine E_iload_n at_X6_copy_1 rfl ?_
                          refine E_callV (v := some (.int (nI 1))) (As := [.ref 65, .int (nI a1k)]) (r0 := []) (cs2 := (ww im lf s d k ls rf rz ra rn rq lt m1 m2 m3 m4 bd (fc.set 5 ((fc.getD 5 0) + (nI 1))) hd sz el s g fm hm so si sh ce ca td wa kp la bf oo bo pw ow tr)) at_X6_copy_2 rfl rfl (Nat.le_of_ble_eq_true rfl) rfl (ab_rvOf w65 rfl) (L40_X6_isShelf (by omega) (by omega) (by omega)) (by decide) rfl ?_
                          refine E_if (t := 16) (b := false) at_X6_copy_5 rfl (by decide) ?_
                          refine E_aload_n at_X6_copy_8 rfl ?_
                          refine E_iload_n at_X6_copy_9 rfl ?_
                          refine E_callV (v := some (.int (nI 1))) (As := [.ref 65, .int (nI a2k)]) (r0 := []) (cs2 := (ww im lf s d k ls rf rz ra rn rq lt m1 m2 m3 m4 bd (fc.set 5 ((fc.getD 5 0) + (nI 1))) hd sz el s g fm hm so si sh ce ca td wa kp la bf oo bo pw ow tr)) at_X6_copy_10 rfl rfl (Nat.le_of_ble_eq_true rfl) rfl (ab_rvOf w65 rfl) (L40_X6_isShelf (by omega) (by omega) (by omega)) (by decide) rfl ?_
                          refine E_if (t := 22) (b := true) at_X6_copy_13 rfl (by decide) ?_
                          refine E_aload_n at_X6_copy_22 rfl ?_
                          refine E_getfield (v := .ref 76) at_X6_copy_23 w65 rfl (by decide) rfl ?_
                          refine E_iload_n at_X6_copy_26 rfl ?_
                          refine E_ialN (l := hm) (v := hm.getD a1k 0) at_X6_copy_27 w76 (by omega) (by omega) rfl ?_
                          refine E_iconst (x := nI 2) at_X6_copy_28 (by decide) ?_
                          refine E_ic (t := 77) (b := false) at_X6_copy_29 rfl ((cn_eq (nI_toInt (by omega)) (nI_toInt (by omega))).trans (decide_eq_false (by omega))) ?_
                          refine E_aload_n at_X6_copy_32 rfl ?_
                          refine E_getfield (v := .ref 76) at_X6_copy_33 w65 rfl (by decide) rfl ?_
                          refine E_iload_n at_X6_copy_36 rfl ?_
                          refine E_ialN (l := hm) (v := hm.getD a2k 0) at_X6_copy_37 w76 (by omega) (by omega) rfl ?_
                          refine E_iconst (x := nI 2) at_X6_copy_38 (by decide) ?_
                          refine E_ic (t := 77) (b := false) at_X6_copy_39 rfl ((cn_eq (nI_toInt (by omega)) (nI_toInt (by omega))).trans (decide_eq_false (by omega))) ?_
                          refine E_aload_n at_X6_copy_42 rfl ?_
                          refine E_getfield (v := .ref 76) at_X6_copy_43 w65 rfl (by decide) rfl ?_
                          refine E_iload_n at_X6_copy_46 rfl ?_
                          refine E_ialN (l := hm) (v := hm.getD a1k 0) at_X6_copy_47 w76 (by omega) (by omega) rfl ?_
                          refine E_iconst (x := nI 1) at_X6_copy_48 (by decide) ?_
                          refine E_ic (t := 84) (b := false) at_X6_copy_49 rfl ((cn_ne (nI_toInt (by omega)) (nI_toInt (by omega))).trans (decide_eq_false (by omega))) ?_
                          refine E_aload_n at_X6_copy_52 rfl ?_
                          refine E_getfield (v := .ref 76) at_X6_copy_53 w65 rfl (by decide) rfl ?_
                          refine E_iload_n at_X6_copy_56 rfl ?_
                          refine E_ialN (l := hm) (v := hm.getD a2k 0) at_X6_copy_57 w76 (by omega) (by omega) rfl ?_
                          refine E_iconst (x := nI 1) at_X6_copy_58 (by decide) ?_
                          refine E_ic (t := 84) (b := false) at_X6_copy_59 rfl ((cn_ne (nI_toInt (by omega)) (nI_toInt (by omega))).trans (decide_eq_false (by omega))) ?_
                          refine E_aload_n at_X6_copy_62 rfl ?_
                          refine E_getfield (v := .ref 77) at_X6_copy_63 w65 rfl (by decide) rfl ?_
                          refine E_iload_n at_X6_copy_66 rfl ?_
                          refine E_ialN (l := so) (v := so.getD a1k 0) at_X6_copy_67 w77 (by omega) (by omega) rfl ?_
                          refine E_aload_n at_X6_copy_68 rfl ?_
                          refine E_getfield (v := .ref 77) at_X6_copy_69 w65 rfl (by decide) rfl ?_
                          refine E_iload_n at_X6_copy_72 rfl ?_
                          refine E_ialN (l := so) (v := so.getD a2k 0) at_X6_copy_73 w77 (by omega) (by omega) rfl ?_
                          refine E_ic (t := 84) (b := true) at_X6_copy_74 rfl ((cn_eq (nI_toInt (by omega)) (nI_toInt (by omega))).trans (decide_eq_true (by omega))) ?_
                          refine E_aload_n at_X6_copy_84 rfl ?_
                          refine E_getfield (v := .ref 76) at_X6_copy_85 w65 rfl (by decide) rfl ?_
                          refine E_iload_n at_X6_copy_88 rfl ?_
                          refine E_ialN (l := hm) (v := hm.getD a1k 0) at_X6_copy_89 w76 (by omega) (by omega) rfl ?_
                          refine E_if (t := 102) (b := false) at_X6_copy_90 rfl ((cn_eq (nI_toInt (by omega)) (by decide : (0 : Int32).toInt = 0)).trans (decide_eq_false (by omega))) ?_
                          refine E_aload_n at_X6_copy_93 rfl ?_
                          refine E_getfield (v := .ref 76) at_X6_copy_94 w65 rfl (by decide) rfl ?_
                          refine E_iload_n at_X6_copy_97 rfl ?_
                          refine E_ialN (l := hm) (v := hm.getD a2k 0) at_X6_copy_98 w76 (by omega) (by omega) rfl ?_
                          refine E_if (t := 109) (b := true) at_X6_copy_99 rfl ((cn_ne (nI_toInt (by omega)) (by decide : (0 : Int32).toInt = 0)).trans (decide_eq_true (by omega))) ?_
                          refine E_iload at_X6_copy_109 rfl ?_
                          refine E_if (t := 121) (b := true) at_X6_copy_111 rfl ((cn_ge (nI_toInt (by omega)) (by decide : (0 : Int32).toInt = 0)).trans (decide_eq_true (by omega))) ?_
                          refine E_iload_n at_X6_copy_121 rfl ?_
                          refine E_if (t := 157) (b := false) at_X6_copy_122 rfl ((cn_lt (nI_toInt (by omega)) (by decide : (0 : Int32).toInt = 0)).trans (decide_eq_false (by omega))) ?_
                          refine E_iload at_X6_copy_125 rfl ?_
                          refine E_if (t := 157) (b := true) at_X6_copy_127 rfl ((cn_lt rfl (by decide : (0 : Int32).toInt = 0)).trans (decide_eq_true (by omega))) ?_
                          refine E_aload_n at_X6_copy_157 rfl ?_
                          refine E_bipush (x := (-5)) at_X6_copy_158 (by decide) ?_
                          refine E_callV (v := some (.int (-5))) (As := [.ref 65, .int (-5)]) (r0 := []) (cs2 := (ww im lf s d k ls rf rz ra rn rq lt m1 m2 m3 m4 bd (fc.set 5 ((fc.getD 5 0) + (nI 1))) hd sz el s g (fm.set 5 ((fm.getD 5 0) + (nI 1))) hm so si sh ce ca td wa kp la bf oo bo pw ow tr)) at_X6_copy_160 rfl rfl (Nat.le_of_ble_eq_true rfl) rfl (ab_rvOf w65 rfl) (L19_X6_no (by omega)) (by decide) w_lens ?_
                          exact E_iret at_X6_copy_163 rfl
                        · exact ⟨I, rfl, hf, iQ, iM, iT, iS, l_el, (lr.1), (lr.2.1), (lr.2.2.1), (by simp only [List.length_set]; exact (lr.2.2.2.1)), (by simp only [List.length_set]; exact (lr.2.2.2.2.1)), (lr.2.2.2.2.2.1), (lr.2.2.2.2.2.2.1), (lr.2.2.2.2.2.2.2.1), (lr.2.2.2.2.2.2.2.2.1), (lr.2.2.2.2.2.2.2.2.2.1), (lr.2.2.2.2.2.2.2.2.2.2.1), (lr.2.2.2.2.2.2.2.2.2.2.2.1), (lr.2.2.2.2.2.2.2.2.2.2.2.2.1), (lr.2.2.2.2.2.2.2.2.2.2.2.2.2.1), (lr.2.2.2.2.2.2.2.2.2.2.2.2.2.2.1), (lr.2.2.2.2.2.2.2.2.2.2.2.2.2.2.2.1), (lr.2.2.2.2.2.2.2.2.2.2.2.2.2.2.2.2.1), (lr.2.2.2.2.2.2.2.2.2.2.2.2.2.2.2.2.2.1), (lr.2.2.2.2.2.2.2.2.2.2.2.2.2.2.2.2.2.2.1), (lr.2.2.2.2.2.2.2.2.2.2.2.2.2.2.2.2.2.2.2.1), (lr.2.2.2.2.2.2.2.2.2.2.2.2.2.2.2.2.2.2.2.2)⟩
                    · by_cases f10 : (si.getD a1k 0) < a5k + a3k
                      · rcases ab_int a4 with ⟨a4k, f11, rfl⟩ | f11
                        · refine ⟨(-5), (im, lf, s, d, k, ls, rf, rz, ra, rn, rq, lt, m1, m2, m3, m4, bd, (fc.set 5 ((fc.getD 5 0) + (nI 1))), hd, sz, el, s, g, fm, hm, so, si, sh, ce, ca, td, wa, kp, la, bf, oo, bo, pw, ow, tr), (im, lf, s, d, k, ls, rf, rz, ra, rn, rq, lt, m1, m2, m3, m4, bd, (fc.set 5 ((fc.getD 5 0) + (nI 1))), hd, sz, el, s, g, (fm.set 5 ((fm.getD 5 0) + (nI 1))), hm, so, si, sh, ce, ca, td, wa, kp, la, bf, oo, bo, pw, ow, tr), ?_, ?_, ?_⟩
                          · show Ev ab_Z0 3 78 [.ref 0, .int (nI a1k), .int (nI a2k), .int (nI a3k), .int (nI a4k), .int (nI a5k)] (ww im lf s d k ls rf rz ra rn rq lt m1 m2 m3 m4 bd fc hd sz el s g fm hm so si sh ce ca td wa kp la bf oo bo pw ow tr) (some (.int (-5)), (ww im lf s d k ls rf rz ra rn rq lt m1 m2 m3 m4 bd (fc.set 5 ((fc.getD 5 0) + (nI 1))) hd sz el s g fm hm so si sh ce ca td wa kp la bf oo bo pw ow tr))
                            refine Ef.in (md := mX5_copy) (L := [some (.ref 0), some (.int (nI a1k)), some (.int (nI a2k)), some (.int (nI a3k)), some (.int (nI a4k)), some (.int (nI a5k)), none, none]) rfl (Nat.le_of_ble_eq_true rfl) rfl ?_
                            refine E_iload_n at_X5_copy_0 rfl ?_
                            refine E_callS (v := some (.int (nI 1))) (As := [.int (nI a1k)]) (r0 := []) (cs2 := (ww im lf s d k ls rf rz ra rn rq lt m1 m2 m3 m4 bd fc hd sz el s g fm hm so si sh ce ca td wa kp la bf oo bo pw ow tr)) at_X5_copy_1 rfl rfl (Nat.le_of_ble_eq_true rfl) rfl (L39_X5_isShelf (by omega) (by omega) (by omega)) (by decide) rfl ?_
                            refine E_if (t := 14) (b := false) at_X5_copy_4 rfl (by decide) ?_
                            refine E_iload_n at_X5_copy_7 rfl ?_
                            refine E_callS (v := some (.int (nI 1))) (As := [.int (nI a2k)]) (r0 := []) (cs2 := (ww im lf s d k ls rf rz ra rn rq lt m1 m2 m3 m4 bd fc hd sz el s g fm hm so si sh ce ca td wa kp la bf oo bo pw ow tr)) at_X5_copy_8 rfl rfl (Nat.le_of_ble_eq_true rfl) rfl (L39_X5_isShelf (by omega) (by omega) (by omega)) (by decide) rfl ?_
                            refine E_if (t := 20) (b := true) at_X5_copy_11 rfl (by decide) ?_
                            refine E_aload_n at_X5_copy_20 rfl ?_
                            refine E_getfield (v := .ref 31) at_X5_copy_21 w0 rfl (by decide) rfl ?_
                            refine E_iload_n at_X5_copy_24 rfl ?_
                            refine E_aalN (b := 49 + 2 * a1k) at_X5_copy_25 w31 (by omega) (w_shs (by omega)) ?_
                            refine E_astore (L2 := [some (.ref 0), some (.int (nI a1k)), some (.int (nI a2k)), some (.int (nI a3k)), some (.int (nI a4k)), some (.int (nI a5k)), some (.ref (49 + 2 * a1k)), none]) at_X5_copy_26 rfl ?_
                            refine E_aload_n at_X5_copy_28 rfl ?_
                            refine E_getfield (v := .ref 31) at_X5_copy_29 w0 rfl (by decide) rfl ?_
                            refine E_iload_n at_X5_copy_32 rfl ?_
                            refine E_aalN (b := 49 + 2 * a2k) at_X5_copy_33 w31 (by omega) (w_shs (by omega)) ?_
                            refine E_astore (L2 := [some (.ref 0), some (.int (nI a1k)), some (.int (nI a2k)), some (.int (nI a3k)), some (.int (nI a4k)), some (.int (nI a5k)), some (.ref (49 + 2 * a1k)), some (.ref (49 + 2 * a2k))]) at_X5_copy_34 rfl ?_
                            refine E_aload at_X5_copy_36 rfl ?_
                            have e1 : Ev ab_Z0 1 33 [.ref (49 + 2 * a1k)] (ww im lf s d k ls rf rz ra rn rq lt m1 m2 m3 m4 bd fc hd sz el s g fm hm so si sh ce ca td wa kp la bf oo bo pw ow tr) (some (.int (nI 0)), (ww im lf s d k ls rf rz ra rn rq lt m1 m2 m3 m4 bd fc hd sz el s g fm hm so si sh ce ca td wa kp la bf oo bo pw ow tr)) := by
                              refine Ef.in (md := mX3_isOtherThanRow) (L := [some (.ref (49 + 2 * a1k))]) rfl (Nat.le_of_ble_eq_true rfl) rfl ?_
                              refine E_aload_n at_X3_isOtherThanRow_0 rfl ?_
                              refine E_getfield (v := .int (nI (100 + so.getD a1k 0))) at_X3_isOtherThanRow_1 (w_shv (j := a1k) (by omega) u1 u2) rfl (by decide) rfl ?_
                              refine E_if (t := 20) (b := false) at_X3_isOtherThanRow_4 rfl ((cn_lt (nI_toInt (by omega)) (by decide : (0 : Int32).toInt = 0)).trans (decide_eq_false (by omega))) ?_
                              refine E_aload_n at_X3_isOtherThanRow_7 rfl ?_
                              refine E_getfield (v := .int (nI (100 + so.getD a1k 0))) at_X3_isOtherThanRow_8 (w_shv (j := a1k) (by omega) u1 u2) rfl (by decide) rfl ?_
                              refine E_bipush (x := nI 100) at_X3_isOtherThanRow_11 (by decide) ?_
                              refine E_ic (t := 20) (b := true) at_X3_isOtherThanRow_13 rfl ((cn_ge (nI_toInt (by omega)) (nI_toInt (by omega))).trans (decide_eq_true (by omega))) ?_
                              refine E_iconst (x := nI 0) at_X3_isOtherThanRow_20 (by decide) ?_
                              exact E_iret at_X3_isOtherThanRow_21 rfl
                            refine E_callV (v := some (.int (nI 0))) (As := [.ref (49 + 2 * a1k)]) (r0 := []) (cs2 := (ww im lf s d k ls rf rz ra rn rq lt m1 m2 m3 m4 bd fc hd sz el s g fm hm so si sh ce ca td wa kp la bf oo bo pw ow tr)) at_X5_copy_38 rfl rfl (Nat.le_of_ble_eq_true rfl) rfl (ab_rvOf (w_shv (j := a1k) (by omega) u1 u2) rfl) e1 (by decide) rfl ?_
                            refine E_if (t := 62) (b := false) at_X5_copy_41 rfl (by decide) ?_
                            refine E_aload at_X5_copy_44 rfl ?_
                            have e2 : Ev ab_Z0 1 33 [.ref (49 + 2 * a2k)] (ww im lf s d k ls rf rz ra rn rq lt m1 m2 m3 m4 bd fc hd sz el s g fm hm so si sh ce ca td wa kp la bf oo bo pw ow tr) (some (.int (nI 0)), (ww im lf s d k ls rf rz ra rn rq lt m1 m2 m3 m4 bd fc hd sz el s g fm hm so si sh ce ca td wa kp la bf oo bo pw ow tr)) := by
                              refine Ef.in (md := mX3_isOtherThanRow) (L := [some (.ref (49 + 2 * a2k))]) rfl (Nat.le_of_ble_eq_true rfl) rfl ?_
                              refine E_aload_n at_X3_isOtherThanRow_0 rfl ?_
                              refine E_getfield (v := .int (nI (100 + so.getD a2k 0))) at_X3_isOtherThanRow_1 (w_shv (j := a2k) (by omega) u21 u22) rfl (by decide) rfl ?_
                              refine E_if (t := 20) (b := false) at_X3_isOtherThanRow_4 rfl ((cn_lt (nI_toInt (by omega)) (by decide : (0 : Int32).toInt = 0)).trans (decide_eq_false (by omega))) ?_
                              refine E_aload_n at_X3_isOtherThanRow_7 rfl ?_
                              refine E_getfield (v := .int (nI (100 + so.getD a2k 0))) at_X3_isOtherThanRow_8 (w_shv (j := a2k) (by omega) u21 u22) rfl (by decide) rfl ?_
                              refine E_bipush (x := nI 100) at_X3_isOtherThanRow_11 (by decide) ?_
                              refine E_ic (t := 20) (b := true) at_X3_isOtherThanRow_13 rfl ((cn_ge (nI_toInt (by omega)) (nI_toInt (by omega))).trans (decide_eq_true (by omega))) ?_
                              refine E_iconst (x := nI 0) at_X3_isOtherThanRow_20 (by decide) ?_
                              exact E_iret at_X3_isOtherThanRow_21 rfl
                            refine E_callV (v := some (.int (nI 0))) (As := [.ref (49 + 2 * a2k)]) (r0 := []) (cs2 := (ww im lf s d k ls rf rz ra rn rq lt m1 m2 m3 m4 bd fc hd sz el s g fm hm so si sh ce ca td wa kp la bf oo bo pw ow tr)) at_X5_copy_46 rfl rfl (Nat.le_of_ble_eq_true rfl) rfl (ab_rvOf (w_shv (j := a2k) (by omega) u21 u22) rfl) e2 (by decide) rfl ?_
                            refine E_if (t := 62) (b := false) at_X5_copy_49 rfl (by decide) ?_
                            refine E_aload at_X5_copy_52 rfl ?_
                            refine E_aload at_X5_copy_54 rfl ?_
                            have e5 : Ev ab_Z0 2 34 [.ref (49 + 2 * a1k), .ref (49 + 2 * a2k)] (ww im lf s d k ls rf rz ra rn rq lt m1 m2 m3 m4 bd fc hd sz el s g fm hm so si sh ce ca td wa kp la bf oo bo pw ow tr) (some (.int (nI 0)), (ww im lf s d k ls rf rz ra rn rq lt m1 m2 m3 m4 bd fc hd sz el s g fm hm so si sh ce ca td wa kp la bf oo bo pw ow tr)) := by
                              refine Ef.in (md := mX3_isOfOtherSort) (L := [some (.ref (49 + 2 * a1k)), some (.ref (49 + 2 * a2k))]) rfl (Nat.le_of_ble_eq_true rfl) rfl ?_
                              refine E_aload_n at_X3_isOfOtherSort_0 rfl ?_
                              have e3 : Ev ab_Z0 1 32 [.ref (49 + 2 * a1k)] (ww im lf s d k ls rf rz ra rn rq lt m1 m2 m3 m4 bd fc hd sz el s g fm hm so si sh ce ca td wa kp la bf oo bo pw ow tr) (some (.int (nI 0)), (ww im lf s d k ls rf rz ra rn rq lt m1 m2 m3 m4 bd fc hd sz el s g fm hm so si sh ce ca td wa kp la bf oo bo pw ow tr)) := by
                                refine Ef.in (md := mX3_isEmpty) (L := [some (.ref (49 + 2 * a1k))]) rfl (Nat.le_of_ble_eq_true rfl) rfl ?_
                                refine E_aload_n at_X3_isEmpty_0 rfl ?_
                                refine E_getfield (v := .int (nI (100 + so.getD a1k 0))) at_X3_isEmpty_1 (w_shv (j := a1k) (by omega) u1 u2) rfl (by decide) rfl ?_
                                refine E_iconst (x := (-1)) at_X3_isEmpty_4 (by decide) ?_
                                refine E_ic (t := 12) (b := true) at_X3_isEmpty_5 rfl ((cn_ne (nI_toInt (by omega)) (by decide : (-1 : Int32).toInt = -1)).trans (decide_eq_true (by omega))) ?_
                                refine E_iconst (x := nI 0) at_X3_isEmpty_12 (by decide) ?_
                                exact E_iret at_X3_isEmpty_13 rfl
                              refine E_callV (v := some (.int (nI 0))) (As := [.ref (49 + 2 * a1k)]) (r0 := []) (cs2 := (ww im lf s d k ls rf rz ra rn rq lt m1 m2 m3 m4 bd fc hd sz el s g fm hm so si sh ce ca td wa kp la bf oo bo pw ow tr)) at_X3_isOfOtherSort_1 rfl rfl (Nat.le_of_ble_eq_true rfl) rfl (ab_rvOf (w_shv (j := a1k) (by omega) u1 u2) rfl) e3 (by decide) rfl ?_
                              refine E_if (t := 29) (b := false) at_X3_isOfOtherSort_4 rfl (by decide) ?_
                              refine E_aload_n at_X3_isOfOtherSort_7 rfl ?_
                              have e4 : Ev ab_Z0 1 32 [.ref (49 + 2 * a2k)] (ww im lf s d k ls rf rz ra rn rq lt m1 m2 m3 m4 bd fc hd sz el s g fm hm so si sh ce ca td wa kp la bf oo bo pw ow tr) (some (.int (nI 0)), (ww im lf s d k ls rf rz ra rn rq lt m1 m2 m3 m4 bd fc hd sz el s g fm hm so si sh ce ca td wa kp la bf oo bo pw ow tr)) := by
                                refine Ef.in (md := mX3_isEmpty) (L := [some (.ref (49 + 2 * a2k))]) rfl (Nat.le_of_ble_eq_true rfl) rfl ?_
                                refine E_aload_n at_X3_isEmpty_0 rfl ?_
                                refine E_getfield (v := .int (nI (100 + so.getD a2k 0))) at_X3_isEmpty_1 (w_shv (j := a2k) (by omega) u21 u22) rfl (by decide) rfl ?_
                                refine E_iconst (x := (-1)) at_X3_isEmpty_4 (by decide) ?_
                                refine E_ic (t := 12) (b := true) at_X3_isEmpty_5 rfl ((cn_ne (nI_toInt (by omega)) (by decide : (-1 : Int32).toInt = -1)).trans (decide_eq_true (by omega))) ?_
                                refine E_iconst (x := nI 0) at_X3_isEmpty_12 (by decide) ?_
                                exact E_iret at_X3_isEmpty_13 rfl
                              refine E_callV (v := some (.int (nI 0))) (As := [.ref (49 + 2 * a2k)]) (r0 := []) (cs2 := (ww im lf s d k ls rf rz ra rn rq lt m1 m2 m3 m4 bd fc hd sz el s g fm hm so si sh ce ca td wa kp la bf oo bo pw ow tr)) at_X3_isOfOtherSort_8 rfl rfl (Nat.le_of_ble_eq_true rfl) rfl (ab_rvOf (w_shv (j := a2k) (by omega) u21 u22) rfl) e4 (by decide) rfl ?_
                              refine E_if (t := 29) (b := false) at_X3_isOfOtherSort_11 rfl (by decide) ?_
                              refine E_aload_n at_X3_isOfOtherSort_14 rfl ?_
                              refine E_getfield (v := .int (nI (100 + so.getD a1k 0))) at_X3_isOfOtherSort_15 (w_shv (j := a1k) (by omega) u1 u2) rfl (by decide) rfl ?_
                              refine E_aload_n at_X3_isOfOtherSort_18 rfl ?_
                              refine E_getfield (v := .int (nI (100 + so.getD a2k 0))) at_X3_isOfOtherSort_19 (w_shv (j := a2k) (by omega) u21 u22) rfl (by decide) rfl ?_
                              refine E_ic (t := 29) (b := true) at_X3_isOfOtherSort_22 rfl ((cn_eq (nI_toInt (by omega)) (nI_toInt (by omega))).trans (decide_eq_true (by omega))) ?_
                              refine E_iconst (x := nI 0) at_X3_isOfOtherSort_29 (by decide) ?_
                              exact E_iret at_X3_isOfOtherSort_30 rfl
                            refine E_callV (v := some (.int (nI 0))) (As := [.ref (49 + 2 * a1k), .ref (49 + 2 * a2k)]) (r0 := []) (cs2 := (ww im lf s d k ls rf rz ra rn rq lt m1 m2 m3 m4 bd fc hd sz el s g fm hm so si sh ce ca td wa kp la bf oo bo pw ow tr)) at_X5_copy_56 rfl rfl (Nat.le_of_ble_eq_true rfl) rfl (ab_rvOf (w_shv (j := a1k) (by omega) u1 u2) rfl) e5 (by decide) rfl ?_
                            refine E_if (t := 68) (b := true) at_X5_copy_59 rfl (by decide) ?_
                            refine E_aload at_X5_copy_68 rfl ?_
                            have e6 : Ev ab_Z0 1 32 [.ref (49 + 2 * a1k)] (ww im lf s d k ls rf rz ra rn rq lt m1 m2 m3 m4 bd fc hd sz el s g fm hm so si sh ce ca td wa kp la bf oo bo pw ow tr) (some (.int (nI 0)), (ww im lf s d k ls rf rz ra rn rq lt m1 m2 m3 m4 bd fc hd sz el s g fm hm so si sh ce ca td wa kp la bf oo bo pw ow tr)) := by
                              refine Ef.in (md := mX3_isEmpty) (L := [some (.ref (49 + 2 * a1k))]) rfl (Nat.le_of_ble_eq_true rfl) rfl ?_
                              refine E_aload_n at_X3_isEmpty_0 rfl ?_
                              refine E_getfield (v := .int (nI (100 + so.getD a1k 0))) at_X3_isEmpty_1 (w_shv (j := a1k) (by omega) u1 u2) rfl (by decide) rfl ?_
                              refine E_iconst (x := (-1)) at_X3_isEmpty_4 (by decide) ?_
                              refine E_ic (t := 12) (b := true) at_X3_isEmpty_5 rfl ((cn_ne (nI_toInt (by omega)) (by decide : (-1 : Int32).toInt = -1)).trans (decide_eq_true (by omega))) ?_
                              refine E_iconst (x := nI 0) at_X3_isEmpty_12 (by decide) ?_
                              exact E_iret at_X3_isEmpty_13 rfl
                            refine E_callV (v := some (.int (nI 0))) (As := [.ref (49 + 2 * a1k)]) (r0 := []) (cs2 := (ww im lf s d k ls rf rz ra rn rq lt m1 m2 m3 m4 bd fc hd sz el s g fm hm so si sh ce ca td wa kp la bf oo bo pw ow tr)) at_X5_copy_70 rfl rfl (Nat.le_of_ble_eq_true rfl) rfl (ab_rvOf (w_shv (j := a1k) (by omega) u1 u2) rfl) e6 (by decide) rfl ?_
                            refine E_if (t := 84) (b := false) at_X5_copy_73 rfl (by decide) ?_
                            refine E_aload at_X5_copy_76 rfl ?_
                            have e7 : Ev ab_Z0 1 32 [.ref (49 + 2 * a2k)] (ww im lf s d k ls rf rz ra rn rq lt m1 m2 m3 m4 bd fc hd sz el s g fm hm so si sh ce ca td wa kp la bf oo bo pw ow tr) (some (.int (nI 0)), (ww im lf s d k ls rf rz ra rn rq lt m1 m2 m3 m4 bd fc hd sz el s g fm hm so si sh ce ca td wa kp la bf oo bo pw ow tr)) := by
                              refine Ef.in (md := mX3_isEmpty) (L := [some (.ref (49 + 2 * a2k))]) rfl (Nat.le_of_ble_eq_true rfl) rfl ?_
                              refine E_aload_n at_X3_isEmpty_0 rfl ?_
                              refine E_getfield (v := .int (nI (100 + so.getD a2k 0))) at_X3_isEmpty_1 (w_shv (j := a2k) (by omega) u21 u22) rfl (by decide) rfl ?_
                              refine E_iconst (x := (-1)) at_X3_isEmpty_4 (by decide) ?_
                              refine E_ic (t := 12) (b := true) at_X3_isEmpty_5 rfl ((cn_ne (nI_toInt (by omega)) (by decide : (-1 : Int32).toInt = -1)).trans (decide_eq_true (by omega))) ?_
                              refine E_iconst (x := nI 0) at_X3_isEmpty_12 (by decide) ?_
                              exact E_iret at_X3_isEmpty_13 rfl
                            refine E_callV (v := some (.int (nI 0))) (As := [.ref (49 + 2 * a2k)]) (r0 := []) (cs2 := (ww im lf s d k ls rf rz ra rn rq lt m1 m2 m3 m4 bd fc hd sz el s g fm hm so si sh ce ca td wa kp la bf oo bo pw ow tr)) at_X5_copy_78 rfl rfl (Nat.le_of_ble_eq_true rfl) rfl (ab_rvOf (w_shv (j := a2k) (by omega) u21 u22) rfl) e7 (by decide) rfl ?_
                            refine E_if (t := 90) (b := true) at_X5_copy_81 rfl (by decide) ?_
                            refine E_iload at_X5_copy_90 rfl ?_
                            refine E_if (t := 101) (b := true) at_X5_copy_92 rfl ((cn_ge (nI_toInt (by omega)) (by decide : (0 : Int32).toInt = 0)).trans (decide_eq_true (by omega))) ?_
                            refine E_aload at_X5_copy_101 rfl ?_
                            refine E_iload_n at_X5_copy_103 rfl ?_
                            refine E_iload at_X5_copy_104 rfl ?_
                            have e8 : Ev ab_Z0 1 36 [.ref (49 + 2 * a1k), .int (nI a3k), .int (nI a5k)] (ww im lf s d k ls rf rz ra rn rq lt m1 m2 m3 m4 bd fc hd sz el s g fm hm so si sh ce ca td wa kp la bf oo bo pw ow tr) (some (.int (nI 0)), (ww im lf s d k ls rf rz ra rn rq lt m1 m2 m3 m4 bd fc hd sz el s g fm hm so si sh ce ca td wa kp la bf oo bo pw ow tr)) := by
                              refine Ef.in (md := mX3_hasStretch) (L := [some (.ref (49 + 2 * a1k)), some (.int (nI a3k)), some (.int (nI a5k))]) rfl (Nat.le_of_ble_eq_true rfl) rfl ?_
                              refine E_iload_n at_X3_hasStretch_0 rfl ?_
                              refine E_if (t := 30) (b := false) at_X3_hasStretch_1 rfl ((cn_lt (nI_toInt (by omega)) (by decide : (0 : Int32).toInt = 0)).trans (decide_eq_false (by omega))) ?_
                              refine E_iload_n at_X3_hasStretch_4 rfl ?_
                              refine E_aload_n at_X3_hasStretch_5 rfl ?_
                              refine E_getfield (v := .int (nI (si.getD a1k 0))) at_X3_hasStretch_6 (w_shv (j := a1k) (by omega) u1 u2) rfl (by decide) rfl ?_
                              refine E_ic (t := 30) (b := false) at_X3_hasStretch_9 rfl ((cn_gt (nI_toInt (by omega)) (nI_toInt (by omega))).trans (decide_eq_false (by omega))) ?_
                              refine E_iload_n at_X3_hasStretch_12 rfl ?_
                              refine E_if (t := 30) (b := false) at_X3_hasStretch_13 rfl ((cn_lt (nI_toInt (by omega)) (by decide : (0 : Int32).toInt = 0)).trans (decide_eq_false (by omega))) ?_
                              refine E_iload_n at_X3_hasStretch_16 rfl ?_
                              refine E_aload_n at_X3_hasStretch_17 rfl ?_
                              refine E_getfield (v := .int (nI (si.getD a1k 0))) at_X3_hasStretch_18 (w_shv (j := a1k) (by omega) u1 u2) rfl (by decide) rfl ?_
                              refine E_iload_n at_X3_hasStretch_21 rfl ?_
                              refine E_isub (z := nI ((si.getD a1k 0) - a3k)) at_X3_hasStretch_22 (pk_sub (by omega)) ?_
                              refine E_ic (t := 30) (b := true) at_X3_hasStretch_23 rfl ((cn_gt (nI_toInt (by omega)) (nI_toInt (by omega))).trans (decide_eq_true (by omega))) ?_
                              refine E_iconst (x := nI 0) at_X3_hasStretch_30 (by decide) ?_
                              exact E_iret at_X3_hasStretch_31 rfl
                            refine E_callV (v := some (.int (nI 0))) (As := [.ref (49 + 2 * a1k), .int (nI a3k), .int (nI a5k)]) (r0 := []) (cs2 := (ww im lf s d k ls rf rz ra rn rq lt m1 m2 m3 m4 bd fc hd sz el s g fm hm so si sh ce ca td wa kp la bf oo bo pw ow tr)) at_X5_copy_106 rfl rfl (Nat.le_of_ble_eq_true rfl) rfl (ab_rvOf (w_shv (j := a1k) (by omega) u1 u2) rfl) e8 (by decide) rfl ?_
                            refine E_if (t := 124) (b := true) at_X5_copy_109 rfl (by decide) ?_
                            refine E_aload_n at_X5_copy_124 rfl ?_
                            refine E_iconst (x := nI 5) at_X5_copy_125 (by decide) ?_
                            refine E_callV (v := some (.int (-5))) (As := [.ref 0, .int (nI 5)]) (r0 := []) (cs2 := (ww im lf s d k ls rf rz ra rn rq lt m1 m2 m3 m4 bd (fc.set 5 ((fc.getD 5 0) + (nI 1))) hd sz el s g fm hm so si sh ce ca td wa kp la bf oo bo pw ow tr)) at_X5_copy_126 rfl rfl (Nat.le_of_ble_eq_true rfl) rfl (ab_rvOf w0 rfl) (L18_X5_refuse (by omega)) (by decide) w_lens ?_
                            exact E_iret at_X5_copy_129 rfl
                          · show Ev ab_Z0 2 137 [.ref 65, .int (nI a1k), .int (nI a2k), .int (nI a3k), .int (nI a4k), .int (nI a5k)] (ww im lf s d k ls rf rz ra rn rq lt m1 m2 m3 m4 bd (fc.set 5 ((fc.getD 5 0) + (nI 1))) hd sz el s g fm hm so si sh ce ca td wa kp la bf oo bo pw ow tr) (some (.int (-5)), (ww im lf s d k ls rf rz ra rn rq lt m1 m2 m3 m4 bd (fc.set 5 ((fc.getD 5 0) + (nI 1))) hd sz el s g (fm.set 5 ((fm.getD 5 0) + (nI 1))) hm so si sh ce ca td wa kp la bf oo bo pw ow tr))
                            refine Ef.in (md := mX6_copy) (L := [some (.ref 65), some (.int (nI a1k)), some (.int (nI a2k)), some (.int (nI a3k)), some (.int (nI a4k)), some (.int (nI a5k)), none]) rfl (Nat.le_of_ble_eq_true rfl) rfl ?_
                            refine E_aload_n at_X6_copy_0 rfl ?_
                            refine E_iload_n at_X6_copy_1 rfl ?_
                            refine E_callV (v := some (.int (nI 1))) (As := [.ref 65, .int (nI a1k)]) (r0 := []) (cs2 := (ww im lf s d k ls rf rz ra rn rq lt m1 m2 m3 m4 bd (fc.set 5 ((fc.getD 5 0) + (nI 1))) hd sz el s g fm hm so si sh ce ca td wa kp la bf oo bo pw ow tr)) at_X6_copy_2 rfl rfl (Nat.le_of_ble_eq_true rfl) rfl (ab_rvOf w65 rfl) (L40_X6_isShelf (by omega) (by omega) (by omega)) (by decide) rfl ?_
                            refine E_if (t := 16) (b := false) at_X6_copy_5 rfl (by decide) ?_
                            refine E_aload_n at_X6_copy_8 rfl ?_
                            refine E_iload_n at_X6_copy_9 rfl ?_
                            refine E_callV (v := some (.int (nI 1))) (As := [.ref 65, .int (nI a2k)]) (r0 := []) (cs2 := (ww im lf s d k ls rf rz ra rn rq lt m1 m2 m3 m4 bd (fc.set 5 ((fc.getD 5 0) + (nI 1))) hd sz el s g fm hm so si sh ce ca td wa kp la bf oo bo pw ow tr)) at_X6_copy_10 rfl rfl (Nat.le_of_ble_eq_true rfl) rfl (ab_rvOf w65 rfl) (L40_X6_isShelf (by omega) (by omega) (by omega)) (by decide) rfl ?_
                            refine E_if (t := 22) (b := true) at_X6_copy_13 rfl (by decide) ?_
                            refine E_aload_n at_X6_copy_22 rfl ?_
                            refine E_getfield (v := .ref 76) at_X6_copy_23 w65 rfl (by decide) rfl ?_
                            refine E_iload_n at_X6_copy_26 rfl ?_
                            refine E_ialN (l := hm) (v := hm.getD a1k 0) at_X6_copy_27 w76 (by omega) (by omega) rfl ?_
                            refine E_iconst (x := nI 2) at_X6_copy_28 (by decide) ?_
                            refine E_ic (t := 77) (b := false) at_X6_copy_29 rfl ((cn_eq (nI_toInt (by omega)) (nI_toInt (by omega))).trans (decide_eq_false (by omega))) ?_
                            refine E_aload_n at_X6_copy_32 rfl ?_
                            refine E_getfield (v := .ref 76) at_X6_copy_33 w65 rfl (by decide) rfl ?_
                            refine E_iload_n at_X6_copy_36 rfl ?_
                            refine E_ialN (l := hm) (v := hm.getD a2k 0) at_X6_copy_37 w76 (by omega) (by omega) rfl ?_
                            refine E_iconst (x := nI 2) at_X6_copy_38 (by decide) ?_
                            refine E_ic (t := 77) (b := false) at_X6_copy_39 rfl ((cn_eq (nI_toInt (by omega)) (nI_toInt (by omega))).trans (decide_eq_false (by omega))) ?_
                            refine E_aload_n at_X6_copy_42 rfl ?_
                            refine E_getfield (v := .ref 76) at_X6_copy_43 w65 rfl (by decide) rfl ?_
                            refine E_iload_n at_X6_copy_46 rfl ?_
                            refine E_ialN (l := hm) (v := hm.getD a1k 0) at_X6_copy_47 w76 (by omega) (by omega) rfl ?_
                            refine E_iconst (x := nI 1) at_X6_copy_48 (by decide) ?_
                            refine E_ic (t := 84) (b := false) at_X6_copy_49 rfl ((cn_ne (nI_toInt (by omega)) (nI_toInt (by omega))).trans (decide_eq_false (by omega))) ?_
                            refine E_aload_n at_X6_copy_52 rfl ?_
                            refine E_getfield (v := .ref 76) at_X6_copy_53 w65 rfl (by decide) rfl ?_
                            refine E_iload_n at_X6_copy_56 rfl ?_
                            refine E_ialN (l := hm) (v := hm.getD a2k 0) at_X6_copy_57 w76 (by omega) (by omega) rfl ?_
                            refine E_iconst (x := nI 1) at_X6_copy_58 (by decide) ?_
                            refine E_ic (t := 84) (b := false) at_X6_copy_59 rfl ((cn_ne (nI_toInt (by omega)) (nI_toInt (by omega))).trans (decide_eq_false (by omega))) ?_
                            refine E_aload_n at_X6_copy_62 rfl ?_
                            refine E_getfield (v := .ref 77) at_X6_copy_63 w65 rfl (by decide) rfl ?_
                            refine E_iload_n at_X6_copy_66 rfl ?_
                            refine E_ialN (l := so) (v := so.getD a1k 0) at_X6_copy_67 w77 (by omega) (by omega) rfl ?_
                            refine E_aload_n at_X6_copy_68 rfl ?_
                            refine E_getfield (v := .ref 77) at_X6_copy_69 w65 rfl (by decide) rfl ?_
                            refine E_iload_n at_X6_copy_72 rfl ?_
                            refine E_ialN (l := so) (v := so.getD a2k 0) at_X6_copy_73 w77 (by omega) (by omega) rfl ?_
                            refine E_ic (t := 84) (b := true) at_X6_copy_74 rfl ((cn_eq (nI_toInt (by omega)) (nI_toInt (by omega))).trans (decide_eq_true (by omega))) ?_
                            refine E_aload_n at_X6_copy_84 rfl ?_
                            refine E_getfield (v := .ref 76) at_X6_copy_85 w65 rfl (by decide) rfl ?_
                            refine E_iload_n at_X6_copy_88 rfl ?_
                            refine E_ialN (l := hm) (v := hm.getD a1k 0) at_X6_copy_89 w76 (by omega) (by omega) rfl ?_
                            refine E_if (t := 102) (b := false) at_X6_copy_90 rfl ((cn_eq (nI_toInt (by omega)) (by decide : (0 : Int32).toInt = 0)).trans (decide_eq_false (by omega))) ?_
                            refine E_aload_n at_X6_copy_93 rfl ?_
                            refine E_getfield (v := .ref 76) at_X6_copy_94 w65 rfl (by decide) rfl ?_
                            refine E_iload_n at_X6_copy_97 rfl ?_
                            refine E_ialN (l := hm) (v := hm.getD a2k 0) at_X6_copy_98 w76 (by omega) (by omega) rfl ?_
                            refine E_if (t := 109) (b := true) at_X6_copy_99 rfl ((cn_ne (nI_toInt (by omega)) (by decide : (0 : Int32).toInt = 0)).trans (decide_eq_true (by omega))) ?_
                            refine E_iload at_X6_copy_109 rfl ?_
                            refine E_if (t := 121) (b := true) at_X6_copy_111 rfl ((cn_ge (nI_toInt (by omega)) (by decide : (0 : Int32).toInt = 0)).trans (decide_eq_true (by omega))) ?_
                            refine E_iload_n at_X6_copy_121 rfl ?_
                            refine E_if (t := 157) (b := false) at_X6_copy_122 rfl ((cn_lt (nI_toInt (by omega)) (by decide : (0 : Int32).toInt = 0)).trans (decide_eq_false (by omega))) ?_
                            refine E_iload at_X6_copy_125 rfl ?_
                            refine E_if (t := 157) (b := false) at_X6_copy_127 rfl ((cn_lt (nI_toInt (by omega)) (by decide : (0 : Int32).toInt = 0)).trans (decide_eq_false (by omega))) ?_
                            refine E_iload_n at_X6_copy_130 rfl ?_
                            refine E_aload_n at_X6_copy_131 rfl ?_
                            refine E_getfield (v := .ref 78) at_X6_copy_132 w65 rfl (by decide) rfl ?_
                            refine E_iload_n at_X6_copy_135 rfl ?_
                            refine E_ialN (l := si) (v := si.getD a1k 0) at_X6_copy_136 w78 (by omega) (by omega) rfl ?_
                            refine E_iload at_X6_copy_137 rfl ?_
                            refine E_isub (z := nI (si.getD a1k 0) - nI a5k) at_X6_copy_139 rfl ?_
                            refine E_ic (t := 157) (b := true) at_X6_copy_140 rfl ((cn_gt (nI_toInt (by omega)) (ab_subI (by omega) (by omega))).trans (decide_eq_true (by omega))) ?_
                            refine E_aload_n at_X6_copy_157 rfl ?_
                            refine E_bipush (x := (-5)) at_X6_copy_158 (by decide) ?_
                            refine E_callV (v := some (.int (-5))) (As := [.ref 65, .int (-5)]) (r0 := []) (cs2 := (ww im lf s d k ls rf rz ra rn rq lt m1 m2 m3 m4 bd (fc.set 5 ((fc.getD 5 0) + (nI 1))) hd sz el s g (fm.set 5 ((fm.getD 5 0) + (nI 1))) hm so si sh ce ca td wa kp la bf oo bo pw ow tr)) at_X6_copy_160 rfl rfl (Nat.le_of_ble_eq_true rfl) rfl (ab_rvOf w65 rfl) (L19_X6_no (by omega)) (by decide) w_lens ?_
                            exact E_iret at_X6_copy_163 rfl
                          · exact ⟨I, rfl, hf, iQ, iM, iT, iS, l_el, (lr.1), (lr.2.1), (lr.2.2.1), (by simp only [List.length_set]; exact (lr.2.2.2.1)), (by simp only [List.length_set]; exact (lr.2.2.2.2.1)), (lr.2.2.2.2.2.1), (lr.2.2.2.2.2.2.1), (lr.2.2.2.2.2.2.2.1), (lr.2.2.2.2.2.2.2.2.1), (lr.2.2.2.2.2.2.2.2.2.1), (lr.2.2.2.2.2.2.2.2.2.2.1), (lr.2.2.2.2.2.2.2.2.2.2.2.1), (lr.2.2.2.2.2.2.2.2.2.2.2.2.1), (lr.2.2.2.2.2.2.2.2.2.2.2.2.2.1), (lr.2.2.2.2.2.2.2.2.2.2.2.2.2.2.1), (lr.2.2.2.2.2.2.2.2.2.2.2.2.2.2.2.1), (lr.2.2.2.2.2.2.2.2.2.2.2.2.2.2.2.2.1), (lr.2.2.2.2.2.2.2.2.2.2.2.2.2.2.2.2.2.1), (lr.2.2.2.2.2.2.2.2.2.2.2.2.2.2.2.2.2.2.1), (lr.2.2.2.2.2.2.2.2.2.2.2.2.2.2.2.2.2.2.2.1), (lr.2.2.2.2.2.2.2.2.2.2.2.2.2.2.2.2.2.2.2.2)⟩
                        · refine ⟨(-5), (im, lf, s, d, k, ls, rf, rz, ra, rn, rq, lt, m1, m2, m3, m4, bd, (fc.set 5 ((fc.getD 5 0) + (nI 1))), hd, sz, el, s, g, fm, hm, so, si, sh, ce, ca, td, wa, kp, la, bf, oo, bo, pw, ow, tr), (im, lf, s, d, k, ls, rf, rz, ra, rn, rq, lt, m1, m2, m3, m4, bd, (fc.set 5 ((fc.getD 5 0) + (nI 1))), hd, sz, el, s, g, (fm.set 5 ((fm.getD 5 0) + (nI 1))), hm, so, si, sh, ce, ca, td, wa, kp, la, bf, oo, bo, pw, ow, tr), ?_, ?_, ?_⟩
                          · show Ev ab_Z0 3 78 [.ref 0, .int (nI a1k), .int (nI a2k), .int (nI a3k), .int a4, .int (nI a5k)] (ww im lf s d k ls rf rz ra rn rq lt m1 m2 m3 m4 bd fc hd sz el s g fm hm so si sh ce ca td wa kp la bf oo bo pw ow tr) (some (.int (-5)), (ww im lf s d k ls rf rz ra rn rq lt m1 m2 m3 m4 bd (fc.set 5 ((fc.getD 5 0) + (nI 1))) hd sz el s g fm hm so si sh ce ca td wa kp la bf oo bo pw ow tr))
                            refine Ef.in (md := mX5_copy) (L := [some (.ref 0), some (.int (nI a1k)), some (.int (nI a2k)), some (.int (nI a3k)), some (.int a4), some (.int (nI a5k)), none, none]) rfl (Nat.le_of_ble_eq_true rfl) rfl ?_
                            refine E_iload_n at_X5_copy_0 rfl ?_
                            refine E_callS (v := some (.int (nI 1))) (As := [.int (nI a1k)]) (r0 := []) (cs2 := (ww im lf s d k ls rf rz ra rn rq lt m1 m2 m3 m4 bd fc hd sz el s g fm hm so si sh ce ca td wa kp la bf oo bo pw ow tr)) at_X5_copy_1 rfl rfl (Nat.le_of_ble_eq_true rfl) rfl (L39_X5_isShelf (by omega) (by omega) (by omega)) (by decide) rfl ?_
                            refine E_if (t := 14) (b := false) at_X5_copy_4 rfl (by decide) ?_
                            refine E_iload_n at_X5_copy_7 rfl ?_
                            refine E_callS (v := some (.int (nI 1))) (As := [.int (nI a2k)]) (r0 := []) (cs2 := (ww im lf s d k ls rf rz ra rn rq lt m1 m2 m3 m4 bd fc hd sz el s g fm hm so si sh ce ca td wa kp la bf oo bo pw ow tr)) at_X5_copy_8 rfl rfl (Nat.le_of_ble_eq_true rfl) rfl (L39_X5_isShelf (by omega) (by omega) (by omega)) (by decide) rfl ?_
                            refine E_if (t := 20) (b := true) at_X5_copy_11 rfl (by decide) ?_
                            refine E_aload_n at_X5_copy_20 rfl ?_
                            refine E_getfield (v := .ref 31) at_X5_copy_21 w0 rfl (by decide) rfl ?_
                            refine E_iload_n at_X5_copy_24 rfl ?_
                            refine E_aalN (b := 49 + 2 * a1k) at_X5_copy_25 w31 (by omega) (w_shs (by omega)) ?_
                            refine E_astore (L2 := [some (.ref 0), some (.int (nI a1k)), some (.int (nI a2k)), some (.int (nI a3k)), some (.int a4), some (.int (nI a5k)), some (.ref (49 + 2 * a1k)), none]) at_X5_copy_26 rfl ?_
                            refine E_aload_n at_X5_copy_28 rfl ?_
                            refine E_getfield (v := .ref 31) at_X5_copy_29 w0 rfl (by decide) rfl ?_
                            refine E_iload_n at_X5_copy_32 rfl ?_
                            refine E_aalN (b := 49 + 2 * a2k) at_X5_copy_33 w31 (by omega) (w_shs (by omega)) ?_
                            refine E_astore (L2 := [some (.ref 0), some (.int (nI a1k)), some (.int (nI a2k)), some (.int (nI a3k)), some (.int a4), some (.int (nI a5k)), some (.ref (49 + 2 * a1k)), some (.ref (49 + 2 * a2k))]) at_X5_copy_34 rfl ?_
                            refine E_aload at_X5_copy_36 rfl ?_
                            have e1 : Ev ab_Z0 1 33 [.ref (49 + 2 * a1k)] (ww im lf s d k ls rf rz ra rn rq lt m1 m2 m3 m4 bd fc hd sz el s g fm hm so si sh ce ca td wa kp la bf oo bo pw ow tr) (some (.int (nI 0)), (ww im lf s d k ls rf rz ra rn rq lt m1 m2 m3 m4 bd fc hd sz el s g fm hm so si sh ce ca td wa kp la bf oo bo pw ow tr)) := by
                              refine Ef.in (md := mX3_isOtherThanRow) (L := [some (.ref (49 + 2 * a1k))]) rfl (Nat.le_of_ble_eq_true rfl) rfl ?_
                              refine E_aload_n at_X3_isOtherThanRow_0 rfl ?_
                              refine E_getfield (v := .int (nI (100 + so.getD a1k 0))) at_X3_isOtherThanRow_1 (w_shv (j := a1k) (by omega) u1 u2) rfl (by decide) rfl ?_
                              refine E_if (t := 20) (b := false) at_X3_isOtherThanRow_4 rfl ((cn_lt (nI_toInt (by omega)) (by decide : (0 : Int32).toInt = 0)).trans (decide_eq_false (by omega))) ?_
                              refine E_aload_n at_X3_isOtherThanRow_7 rfl ?_
                              refine E_getfield (v := .int (nI (100 + so.getD a1k 0))) at_X3_isOtherThanRow_8 (w_shv (j := a1k) (by omega) u1 u2) rfl (by decide) rfl ?_
                              refine E_bipush (x := nI 100) at_X3_isOtherThanRow_11 (by decide) ?_
                              refine E_ic (t := 20) (b := true) at_X3_isOtherThanRow_13 rfl ((cn_ge (nI_toInt (by omega)) (nI_toInt (by omega))).trans (decide_eq_true (by omega))) ?_
                              refine E_iconst (x := nI 0) at_X3_isOtherThanRow_20 (by decide) ?_
                              exact E_iret at_X3_isOtherThanRow_21 rfl
                            refine E_callV (v := some (.int (nI 0))) (As := [.ref (49 + 2 * a1k)]) (r0 := []) (cs2 := (ww im lf s d k ls rf rz ra rn rq lt m1 m2 m3 m4 bd fc hd sz el s g fm hm so si sh ce ca td wa kp la bf oo bo pw ow tr)) at_X5_copy_38 rfl rfl (Nat.le_of_ble_eq_true rfl) rfl (ab_rvOf (w_shv (j := a1k) (by omega) u1 u2) rfl) e1 (by decide) rfl ?_
                            refine E_if (t := 62) (b := false) at_X5_copy_41 rfl (by decide) ?_
                            refine E_aload at_X5_copy_44 rfl ?_
                            have e2 : Ev ab_Z0 1 33 [.ref (49 + 2 * a2k)] (ww im lf s d k ls rf rz ra rn rq lt m1 m2 m3 m4 bd fc hd sz el s g fm hm so si sh ce ca td wa kp la bf oo bo pw ow tr) (some (.int (nI 0)), (ww im lf s d k ls rf rz ra rn rq lt m1 m2 m3 m4 bd fc hd sz el s g fm hm so si sh ce ca td wa kp la bf oo bo pw ow tr)) := by
                              refine Ef.in (md := mX3_isOtherThanRow) (L := [some (.ref (49 + 2 * a2k))]) rfl (Nat.le_of_ble_eq_true rfl) rfl ?_
                              refine E_aload_n at_X3_isOtherThanRow_0 rfl ?_
                              refine E_getfield (v := .int (nI (100 + so.getD a2k 0))) at_X3_isOtherThanRow_1 (w_shv (j := a2k) (by omega) u21 u22) rfl (by decide) rfl ?_
                              refine E_if (t := 20) (b := false) at_X3_isOtherThanRow_4 rfl ((cn_lt (nI_toInt (by omega)) (by decide : (0 : Int32).toInt = 0)).trans (decide_eq_false (by omega))) ?_
                              refine E_aload_n at_X3_isOtherThanRow_7 rfl ?_
                              refine E_getfield (v := .int (nI (100 + so.getD a2k 0))) at_X3_isOtherThanRow_8 (w_shv (j := a2k) (by omega) u21 u22) rfl (by decide) rfl ?_
                              refine E_bipush (x := nI 100) at_X3_isOtherThanRow_11 (by decide) ?_
                              refine E_ic (t := 20) (b := true) at_X3_isOtherThanRow_13 rfl ((cn_ge (nI_toInt (by omega)) (nI_toInt (by omega))).trans (decide_eq_true (by omega))) ?_
                              refine E_iconst (x := nI 0) at_X3_isOtherThanRow_20 (by decide) ?_
                              exact E_iret at_X3_isOtherThanRow_21 rfl
                            refine E_callV (v := some (.int (nI 0))) (As := [.ref (49 + 2 * a2k)]) (r0 := []) (cs2 := (ww im lf s d k ls rf rz ra rn rq lt m1 m2 m3 m4 bd fc hd sz el s g fm hm so si sh ce ca td wa kp la bf oo bo pw ow tr)) at_X5_copy_46 rfl rfl (Nat.le_of_ble_eq_true rfl) rfl (ab_rvOf (w_shv (j := a2k) (by omega) u21 u22) rfl) e2 (by decide) rfl ?_
                            refine E_if (t := 62) (b := false) at_X5_copy_49 rfl (by decide) ?_
                            refine E_aload at_X5_copy_52 rfl ?_
                            refine E_aload at_X5_copy_54 rfl ?_
                            have e5 : Ev ab_Z0 2 34 [.ref (49 + 2 * a1k), .ref (49 + 2 * a2k)] (ww im lf s d k ls rf rz ra rn rq lt m1 m2 m3 m4 bd fc hd sz el s g fm hm so si sh ce ca td wa kp la bf oo bo pw ow tr) (some (.int (nI 0)), (ww im lf s d k ls rf rz ra rn rq lt m1 m2 m3 m4 bd fc hd sz el s g fm hm so si sh ce ca td wa kp la bf oo bo pw ow tr)) := by
                              refine Ef.in (md := mX3_isOfOtherSort) (L := [some (.ref (49 + 2 * a1k)), some (.ref (49 + 2 * a2k))]) rfl (Nat.le_of_ble_eq_true rfl) rfl ?_
                              refine E_aload_n at_X3_isOfOtherSort_0 rfl ?_
                              have e3 : Ev ab_Z0 1 32 [.ref (49 + 2 * a1k)] (ww im lf s d k ls rf rz ra rn rq lt m1 m2 m3 m4 bd fc hd sz el s g fm hm so si sh ce ca td wa kp la bf oo bo pw ow tr) (some (.int (nI 0)), (ww im lf s d k ls rf rz ra rn rq lt m1 m2 m3 m4 bd fc hd sz el s g fm hm so si sh ce ca td wa kp la bf oo bo pw ow tr)) := by
                                refine Ef.in (md := mX3_isEmpty) (L := [some (.ref (49 + 2 * a1k))]) rfl (Nat.le_of_ble_eq_true rfl) rfl ?_
                                refine E_aload_n at_X3_isEmpty_0 rfl ?_
                                refine E_getfield (v := .int (nI (100 + so.getD a1k 0))) at_X3_isEmpty_1 (w_shv (j := a1k) (by omega) u1 u2) rfl (by decide) rfl ?_
                                refine E_iconst (x := (-1)) at_X3_isEmpty_4 (by decide) ?_
                                refine E_ic (t := 12) (b := true) at_X3_isEmpty_5 rfl ((cn_ne (nI_toInt (by omega)) (by decide : (-1 : Int32).toInt = -1)).trans (decide_eq_true (by omega))) ?_
                                refine E_iconst (x := nI 0) at_X3_isEmpty_12 (by decide) ?_
                                exact E_iret at_X3_isEmpty_13 rfl
                              refine E_callV (v := some (.int (nI 0))) (As := [.ref (49 + 2 * a1k)]) (r0 := []) (cs2 := (ww im lf s d k ls rf rz ra rn rq lt m1 m2 m3 m4 bd fc hd sz el s g fm hm so si sh ce ca td wa kp la bf oo bo pw ow tr)) at_X3_isOfOtherSort_1 rfl rfl (Nat.le_of_ble_eq_true rfl) rfl (ab_rvOf (w_shv (j := a1k) (by omega) u1 u2) rfl) e3 (by decide) rfl ?_
                              refine E_if (t := 29) (b := false) at_X3_isOfOtherSort_4 rfl (by decide) ?_
                              refine E_aload_n at_X3_isOfOtherSort_7 rfl ?_
                              have e4 : Ev ab_Z0 1 32 [.ref (49 + 2 * a2k)] (ww im lf s d k ls rf rz ra rn rq lt m1 m2 m3 m4 bd fc hd sz el s g fm hm so si sh ce ca td wa kp la bf oo bo pw ow tr) (some (.int (nI 0)), (ww im lf s d k ls rf rz ra rn rq lt m1 m2 m3 m4 bd fc hd sz el s g fm hm so si sh ce ca td wa kp la bf oo bo pw ow tr)) := by
                                refine Ef.in (md := mX3_isEmpty) (L := [some (.ref (49 + 2 * a2k))]) rfl (Nat.le_of_ble_eq_true rfl) rfl ?_
                                refine E_aload_n at_X3_isEmpty_0 rfl ?_
                                refine E_getfield (v := .int (nI (100 + so.getD a2k 0))) at_X3_isEmpty_1 (w_shv (j := a2k) (by omega) u21 u22) rfl (by decide) rfl ?_
                                refine E_iconst (x := (-1)) at_X3_isEmpty_4 (by decide) ?_
                                refine E_ic (t := 12) (b := true) at_X3_isEmpty_5 rfl ((cn_ne (nI_toInt (by omega)) (by decide : (-1 : Int32).toInt = -1)).trans (decide_eq_true (by omega))) ?_
                                refine E_iconst (x := nI 0) at_X3_isEmpty_12 (by decide) ?_
                                exact E_iret at_X3_isEmpty_13 rfl
                              refine E_callV (v := some (.int (nI 0))) (As := [.ref (49 + 2 * a2k)]) (r0 := []) (cs2 := (ww im lf s d k ls rf rz ra rn rq lt m1 m2 m3 m4 bd fc hd sz el s g fm hm so si sh ce ca td wa kp la bf oo bo pw ow tr)) at_X3_isOfOtherSort_8 rfl rfl (Nat.le_of_ble_eq_true rfl) rfl (ab_rvOf (w_shv (j := a2k) (by omega) u21 u22) rfl) e4 (by decide) rfl ?_
                              refine E_if (t := 29) (b := false) at_X3_isOfOtherSort_11 rfl (by decide) ?_
                              refine E_aload_n at_X3_isOfOtherSort_14 rfl ?_
                              refine E_getfield (v := .int (nI (100 + so.getD a1k 0))) at_X3_isOfOtherSort_15 (w_shv (j := a1k) (by omega) u1 u2) rfl (by decide) rfl ?_
                              refine E_aload_n at_X3_isOfOtherSort_18 rfl ?_
                              refine E_getfield (v := .int (nI (100 + so.getD a2k 0))) at_X3_isOfOtherSort_19 (w_shv (j := a2k) (by omega) u21 u22) rfl (by decide) rfl ?_
                              refine E_ic (t := 29) (b := true) at_X3_isOfOtherSort_22 rfl ((cn_eq (nI_toInt (by omega)) (nI_toInt (by omega))).trans (decide_eq_true (by omega))) ?_
                              refine E_iconst (x := nI 0) at_X3_isOfOtherSort_29 (by decide) ?_
                              exact E_iret at_X3_isOfOtherSort_30 rfl
                            refine E_callV (v := some (.int (nI 0))) (As := [.ref (49 + 2 * a1k), .ref (49 + 2 * a2k)]) (r0 := []) (cs2 := (ww im lf s d k ls rf rz ra rn rq lt m1 m2 m3 m4 bd fc hd sz el s g fm hm so si sh ce ca td wa kp la bf oo bo pw ow tr)) at_X5_copy_56 rfl rfl (Nat.le_of_ble_eq_true rfl) rfl (ab_rvOf (w_shv (j := a1k) (by omega) u1 u2) rfl) e5 (by decide) rfl ?_
                            refine E_if (t := 68) (b := true) at_X5_copy_59 rfl (by decide) ?_
                            refine E_aload at_X5_copy_68 rfl ?_
                            have e6 : Ev ab_Z0 1 32 [.ref (49 + 2 * a1k)] (ww im lf s d k ls rf rz ra rn rq lt m1 m2 m3 m4 bd fc hd sz el s g fm hm so si sh ce ca td wa kp la bf oo bo pw ow tr) (some (.int (nI 0)), (ww im lf s d k ls rf rz ra rn rq lt m1 m2 m3 m4 bd fc hd sz el s g fm hm so si sh ce ca td wa kp la bf oo bo pw ow tr)) := by
                              refine Ef.in (md := mX3_isEmpty) (L := [some (.ref (49 + 2 * a1k))]) rfl (Nat.le_of_ble_eq_true rfl) rfl ?_
                              refine E_aload_n at_X3_isEmpty_0 rfl ?_
                              refine E_getfield (v := .int (nI (100 + so.getD a1k 0))) at_X3_isEmpty_1 (w_shv (j := a1k) (by omega) u1 u2) rfl (by decide) rfl ?_
                              refine E_iconst (x := (-1)) at_X3_isEmpty_4 (by decide) ?_
                              refine E_ic (t := 12) (b := true) at_X3_isEmpty_5 rfl ((cn_ne (nI_toInt (by omega)) (by decide : (-1 : Int32).toInt = -1)).trans (decide_eq_true (by omega))) ?_
                              refine E_iconst (x := nI 0) at_X3_isEmpty_12 (by decide) ?_
                              exact E_iret at_X3_isEmpty_13 rfl
                            refine E_callV (v := some (.int (nI 0))) (As := [.ref (49 + 2 * a1k)]) (r0 := []) (cs2 := (ww im lf s d k ls rf rz ra rn rq lt m1 m2 m3 m4 bd fc hd sz el s g fm hm so si sh ce ca td wa kp la bf oo bo pw ow tr)) at_X5_copy_70 rfl rfl (Nat.le_of_ble_eq_true rfl) rfl (ab_rvOf (w_shv (j := a1k) (by omega) u1 u2) rfl) e6 (by decide) rfl ?_
                            refine E_if (t := 84) (b := false) at_X5_copy_73 rfl (by decide) ?_
                            refine E_aload at_X5_copy_76 rfl ?_
                            have e7 : Ev ab_Z0 1 32 [.ref (49 + 2 * a2k)] (ww im lf s d k ls rf rz ra rn rq lt m1 m2 m3 m4 bd fc hd sz el s g fm hm so si sh ce ca td wa kp la bf oo bo pw ow tr) (some (.int (nI 0)), (ww im lf s d k ls rf rz ra rn rq lt m1 m2 m3 m4 bd fc hd sz el s g fm hm so si sh ce ca td wa kp la bf oo bo pw ow tr)) := by
                              refine Ef.in (md := mX3_isEmpty) (L := [some (.ref (49 + 2 * a2k))]) rfl (Nat.le_of_ble_eq_true rfl) rfl ?_
                              refine E_aload_n at_X3_isEmpty_0 rfl ?_
                              refine E_getfield (v := .int (nI (100 + so.getD a2k 0))) at_X3_isEmpty_1 (w_shv (j := a2k) (by omega) u21 u22) rfl (by decide) rfl ?_
                              refine E_iconst (x := (-1)) at_X3_isEmpty_4 (by decide) ?_
                              refine E_ic (t := 12) (b := true) at_X3_isEmpty_5 rfl ((cn_ne (nI_toInt (by omega)) (by decide : (-1 : Int32).toInt = -1)).trans (decide_eq_true (by omega))) ?_
                              refine E_iconst (x := nI 0) at_X3_isEmpty_12 (by decide) ?_
                              exact E_iret at_X3_isEmpty_13 rfl
                            refine E_callV (v := some (.int (nI 0))) (As := [.ref (49 + 2 * a2k)]) (r0 := []) (cs2 := (ww im lf s d k ls rf rz ra rn rq lt m1 m2 m3 m4 bd fc hd sz el s g fm hm so si sh ce ca td wa kp la bf oo bo pw ow tr)) at_X5_copy_78 rfl rfl (Nat.le_of_ble_eq_true rfl) rfl (ab_rvOf (w_shv (j := a2k) (by omega) u21 u22) rfl) e7 (by decide) rfl ?_
                            refine E_if (t := 90) (b := true) at_X5_copy_81 rfl (by decide) ?_
                            refine E_iload at_X5_copy_90 rfl ?_
                            refine E_if (t := 101) (b := true) at_X5_copy_92 rfl ((cn_ge (nI_toInt (by omega)) (by decide : (0 : Int32).toInt = 0)).trans (decide_eq_true (by omega))) ?_
                            refine E_aload at_X5_copy_101 rfl ?_
                            refine E_iload_n at_X5_copy_103 rfl ?_
                            refine E_iload at_X5_copy_104 rfl ?_
                            have e8 : Ev ab_Z0 1 36 [.ref (49 + 2 * a1k), .int (nI a3k), .int (nI a5k)] (ww im lf s d k ls rf rz ra rn rq lt m1 m2 m3 m4 bd fc hd sz el s g fm hm so si sh ce ca td wa kp la bf oo bo pw ow tr) (some (.int (nI 0)), (ww im lf s d k ls rf rz ra rn rq lt m1 m2 m3 m4 bd fc hd sz el s g fm hm so si sh ce ca td wa kp la bf oo bo pw ow tr)) := by
                              refine Ef.in (md := mX3_hasStretch) (L := [some (.ref (49 + 2 * a1k)), some (.int (nI a3k)), some (.int (nI a5k))]) rfl (Nat.le_of_ble_eq_true rfl) rfl ?_
                              refine E_iload_n at_X3_hasStretch_0 rfl ?_
                              refine E_if (t := 30) (b := false) at_X3_hasStretch_1 rfl ((cn_lt (nI_toInt (by omega)) (by decide : (0 : Int32).toInt = 0)).trans (decide_eq_false (by omega))) ?_
                              refine E_iload_n at_X3_hasStretch_4 rfl ?_
                              refine E_aload_n at_X3_hasStretch_5 rfl ?_
                              refine E_getfield (v := .int (nI (si.getD a1k 0))) at_X3_hasStretch_6 (w_shv (j := a1k) (by omega) u1 u2) rfl (by decide) rfl ?_
                              refine E_ic (t := 30) (b := false) at_X3_hasStretch_9 rfl ((cn_gt (nI_toInt (by omega)) (nI_toInt (by omega))).trans (decide_eq_false (by omega))) ?_
                              refine E_iload_n at_X3_hasStretch_12 rfl ?_
                              refine E_if (t := 30) (b := false) at_X3_hasStretch_13 rfl ((cn_lt (nI_toInt (by omega)) (by decide : (0 : Int32).toInt = 0)).trans (decide_eq_false (by omega))) ?_
                              refine E_iload_n at_X3_hasStretch_16 rfl ?_
                              refine E_aload_n at_X3_hasStretch_17 rfl ?_
                              refine E_getfield (v := .int (nI (si.getD a1k 0))) at_X3_hasStretch_18 (w_shv (j := a1k) (by omega) u1 u2) rfl (by decide) rfl ?_
                              refine E_iload_n at_X3_hasStretch_21 rfl ?_
                              refine E_isub (z := nI ((si.getD a1k 0) - a3k)) at_X3_hasStretch_22 (pk_sub (by omega)) ?_
                              refine E_ic (t := 30) (b := true) at_X3_hasStretch_23 rfl ((cn_gt (nI_toInt (by omega)) (nI_toInt (by omega))).trans (decide_eq_true (by omega))) ?_
                              refine E_iconst (x := nI 0) at_X3_hasStretch_30 (by decide) ?_
                              exact E_iret at_X3_hasStretch_31 rfl
                            refine E_callV (v := some (.int (nI 0))) (As := [.ref (49 + 2 * a1k), .int (nI a3k), .int (nI a5k)]) (r0 := []) (cs2 := (ww im lf s d k ls rf rz ra rn rq lt m1 m2 m3 m4 bd fc hd sz el s g fm hm so si sh ce ca td wa kp la bf oo bo pw ow tr)) at_X5_copy_106 rfl rfl (Nat.le_of_ble_eq_true rfl) rfl (ab_rvOf (w_shv (j := a1k) (by omega) u1 u2) rfl) e8 (by decide) rfl ?_
                            refine E_if (t := 124) (b := true) at_X5_copy_109 rfl (by decide) ?_
                            refine E_aload_n at_X5_copy_124 rfl ?_
                            refine E_iconst (x := nI 5) at_X5_copy_125 (by decide) ?_
                            refine E_callV (v := some (.int (-5))) (As := [.ref 0, .int (nI 5)]) (r0 := []) (cs2 := (ww im lf s d k ls rf rz ra rn rq lt m1 m2 m3 m4 bd (fc.set 5 ((fc.getD 5 0) + (nI 1))) hd sz el s g fm hm so si sh ce ca td wa kp la bf oo bo pw ow tr)) at_X5_copy_126 rfl rfl (Nat.le_of_ble_eq_true rfl) rfl (ab_rvOf w0 rfl) (L18_X5_refuse (by omega)) (by decide) w_lens ?_
                            exact E_iret at_X5_copy_129 rfl
                          · show Ev ab_Z0 2 137 [.ref 65, .int (nI a1k), .int (nI a2k), .int (nI a3k), .int a4, .int (nI a5k)] (ww im lf s d k ls rf rz ra rn rq lt m1 m2 m3 m4 bd (fc.set 5 ((fc.getD 5 0) + (nI 1))) hd sz el s g fm hm so si sh ce ca td wa kp la bf oo bo pw ow tr) (some (.int (-5)), (ww im lf s d k ls rf rz ra rn rq lt m1 m2 m3 m4 bd (fc.set 5 ((fc.getD 5 0) + (nI 1))) hd sz el s g (fm.set 5 ((fm.getD 5 0) + (nI 1))) hm so si sh ce ca td wa kp la bf oo bo pw ow tr))
                            refine Ef.in (md := mX6_copy) (L := [some (.ref 65), some (.int (nI a1k)), some (.int (nI a2k)), some (.int (nI a3k)), some (.int a4), some (.int (nI a5k)), none]) rfl (Nat.le_of_ble_eq_true rfl) rfl ?_
                            refine E_aload_n at_X6_copy_0 rfl ?_
                            refine E_iload_n at_X6_copy_1 rfl ?_
                            refine E_callV (v := some (.int (nI 1))) (As := [.ref 65, .int (nI a1k)]) (r0 := []) (cs2 := (ww im lf s d k ls rf rz ra rn rq lt m1 m2 m3 m4 bd (fc.set 5 ((fc.getD 5 0) + (nI 1))) hd sz el s g fm hm so si sh ce ca td wa kp la bf oo bo pw ow tr)) at_X6_copy_2 rfl rfl (Nat.le_of_ble_eq_true rfl) rfl (ab_rvOf w65 rfl) (L40_X6_isShelf (by omega) (by omega) (by omega)) (by decide) rfl ?_
                            refine E_if (t := 16) (b := false) at_X6_copy_5 rfl (by decide) ?_
                            refine E_aload_n at_X6_copy_8 rfl ?_
                            refine E_iload_n at_X6_copy_9 rfl ?_
                            refine E_callV (v := some (.int (nI 1))) (As := [.ref 65, .int (nI a2k)]) (r0 := []) (cs2 := (ww im lf s d k ls rf rz ra rn rq lt m1 m2 m3 m4 bd (fc.set 5 ((fc.getD 5 0) + (nI 1))) hd sz el s g fm hm so si sh ce ca td wa kp la bf oo bo pw ow tr)) at_X6_copy_10 rfl rfl (Nat.le_of_ble_eq_true rfl) rfl (ab_rvOf w65 rfl) (L40_X6_isShelf (by omega) (by omega) (by omega)) (by decide) rfl ?_
                            refine E_if (t := 22) (b := true) at_X6_copy_13 rfl (by decide) ?_
                            refine E_aload_n at_X6_copy_22 rfl ?_
                            refine E_getfield (v := .ref 76) at_X6_copy_23 w65 rfl (by decide) rfl ?_
                            refine E_iload_n at_X6_copy_26 rfl ?_
                            refine E_ialN (l := hm) (v := hm.getD a1k 0) at_X6_copy_27 w76 (by omega) (by omega) rfl ?_
                            refine E_iconst (x := nI 2) at_X6_copy_28 (by decide) ?_
                            refine E_ic (t := 77) (b := false) at_X6_copy_29 rfl ((cn_eq (nI_toInt (by omega)) (nI_toInt (by omega))).trans (decide_eq_false (by omega))) ?_
                            refine E_aload_n at_X6_copy_32 rfl ?_
                            refine E_getfield (v := .ref 76) at_X6_copy_33 w65 rfl (by decide) rfl ?_
                            refine E_iload_n at_X6_copy_36 rfl ?_
                            refine E_ialN (l := hm) (v := hm.getD a2k 0) at_X6_copy_37 w76 (by omega) (by omega) rfl ?_
                            refine E_iconst (x := nI 2) at_X6_copy_38 (by decide) ?_
                            refine E_ic (t := 77) (b := false) at_X6_copy_39 rfl ((cn_eq (nI_toInt (by omega)) (nI_toInt (by omega))).trans (decide_eq_false (by omega))) ?_
                            refine E_aload_n at_X6_copy_42 rfl ?_
                            refine E_getfield (v := .ref 76) at_X6_copy_43 w65 rfl (by decide) rfl ?_
                            refine E_iload_n at_X6_copy_46 rfl ?_
                            refine E_ialN (l := hm) (v := hm.getD a1k 0) at_X6_copy_47 w76 (by omega) (by omega) rfl ?_
                            refine E_iconst (x := nI 1) at_X6_copy_48 (by decide) ?_
                            refine E_ic (t := 84) (b := false) at_X6_copy_49 rfl ((cn_ne (nI_toInt (by omega)) (nI_toInt (by omega))).trans (decide_eq_false (by omega))) ?_
                            refine E_aload_n at_X6_copy_52 rfl ?_
                            refine E_getfield (v := .ref 76) at_X6_copy_53 w65 rfl (by decide) rfl ?_
                            refine E_iload_n at_X6_copy_56 rfl ?_
                            refine E_ialN (l := hm) (v := hm.getD a2k 0) at_X6_copy_57 w76 (by omega) (by omega) rfl ?_
                            refine E_iconst (x := nI 1) at_X6_copy_58 (by decide) ?_
                            refine E_ic (t := 84) (b := false) at_X6_copy_59 rfl ((cn_ne (nI_toInt (by omega)) (nI_toInt (by omega))).trans (decide_eq_false (by omega))) ?_
                            refine E_aload_n at_X6_copy_62 rfl ?_
                            refine E_getfield (v := .ref 77) at_X6_copy_63 w65 rfl (by decide) rfl ?_
                            refine E_iload_n at_X6_copy_66 rfl ?_
                            refine E_ialN (l := so) (v := so.getD a1k 0) at_X6_copy_67 w77 (by omega) (by omega) rfl ?_
                            refine E_aload_n at_X6_copy_68 rfl ?_
                            refine E_getfield (v := .ref 77) at_X6_copy_69 w65 rfl (by decide) rfl ?_
                            refine E_iload_n at_X6_copy_72 rfl ?_
                            refine E_ialN (l := so) (v := so.getD a2k 0) at_X6_copy_73 w77 (by omega) (by omega) rfl ?_
                            refine E_ic (t := 84) (b := true) at_X6_copy_74 rfl ((cn_eq (nI_toInt (by omega)) (nI_toInt (by omega))).trans (decide_eq_true (by omega))) ?_
                            refine E_aload_n at_X6_copy_84 rfl ?_
                            refine E_getfield (v := .ref 76) at_X6_copy_85 w65 rfl (by decide) rfl ?_
                            refine E_iload_n at_X6_copy_88 rfl ?_
                            refine E_ialN (l := hm) (v := hm.getD a1k 0) at_X6_copy_89 w76 (by omega) (by omega) rfl ?_
                            refine E_if (t := 102) (b := false) at_X6_copy_90 rfl ((cn_eq (nI_toInt (by omega)) (by decide : (0 : Int32).toInt = 0)).trans (decide_eq_false (by omega))) ?_
                            refine E_aload_n at_X6_copy_93 rfl ?_
                            refine E_getfield (v := .ref 76) at_X6_copy_94 w65 rfl (by decide) rfl ?_
                            refine E_iload_n at_X6_copy_97 rfl ?_
                            refine E_ialN (l := hm) (v := hm.getD a2k 0) at_X6_copy_98 w76 (by omega) (by omega) rfl ?_
                            refine E_if (t := 109) (b := true) at_X6_copy_99 rfl ((cn_ne (nI_toInt (by omega)) (by decide : (0 : Int32).toInt = 0)).trans (decide_eq_true (by omega))) ?_
                            refine E_iload at_X6_copy_109 rfl ?_
                            refine E_if (t := 121) (b := true) at_X6_copy_111 rfl ((cn_ge (nI_toInt (by omega)) (by decide : (0 : Int32).toInt = 0)).trans (decide_eq_true (by omega))) ?_
                            refine E_iload_n at_X6_copy_121 rfl ?_
                            refine E_if (t := 157) (b := false) at_X6_copy_122 rfl ((cn_lt (nI_toInt (by omega)) (by decide : (0 : Int32).toInt = 0)).trans (decide_eq_false (by omega))) ?_
                            refine E_iload at_X6_copy_125 rfl ?_
                            refine E_if (t := 157) (b := true) at_X6_copy_127 rfl ((cn_lt rfl (by decide : (0 : Int32).toInt = 0)).trans (decide_eq_true (by omega))) ?_
                            refine E_aload_n at_X6_copy_157 rfl ?_
                            refine E_bipush (x := (-5)) at_X6_copy_158 (by decide) ?_
                            refine E_callV (v := some (.int (-5))) (As := [.ref 65, .int (-5)]) (r0 := []) (cs2 := (ww im lf s d k ls rf rz ra rn rq lt m1 m2 m3 m4 bd (fc.set 5 ((fc.getD 5 0) + (nI 1))) hd sz el s g (fm.set 5 ((fm.getD 5 0) + (nI 1))) hm so si sh ce ca td wa kp la bf oo bo pw ow tr)) at_X6_copy_160 rfl rfl (Nat.le_of_ble_eq_true rfl) rfl (ab_rvOf w65 rfl) (L19_X6_no (by omega)) (by decide) w_lens ?_
                            exact E_iret at_X6_copy_163 rfl
                          · exact ⟨I, rfl, hf, iQ, iM, iT, iS, l_el, (lr.1), (lr.2.1), (lr.2.2.1), (by simp only [List.length_set]; exact (lr.2.2.2.1)), (by simp only [List.length_set]; exact (lr.2.2.2.2.1)), (lr.2.2.2.2.2.1), (lr.2.2.2.2.2.2.1), (lr.2.2.2.2.2.2.2.1), (lr.2.2.2.2.2.2.2.2.1), (lr.2.2.2.2.2.2.2.2.2.1), (lr.2.2.2.2.2.2.2.2.2.2.1), (lr.2.2.2.2.2.2.2.2.2.2.2.1), (lr.2.2.2.2.2.2.2.2.2.2.2.2.1), (lr.2.2.2.2.2.2.2.2.2.2.2.2.2.1), (lr.2.2.2.2.2.2.2.2.2.2.2.2.2.2.1), (lr.2.2.2.2.2.2.2.2.2.2.2.2.2.2.2.1), (lr.2.2.2.2.2.2.2.2.2.2.2.2.2.2.2.2.1), (lr.2.2.2.2.2.2.2.2.2.2.2.2.2.2.2.2.2.1), (lr.2.2.2.2.2.2.2.2.2.2.2.2.2.2.2.2.2.2.1), (lr.2.2.2.2.2.2.2.2.2.2.2.2.2.2.2.2.2.2.2.1), (lr.2.2.2.2.2.2.2.2.2.2.2.2.2.2.2.2.2.2.2.2)⟩
                      · rcases ab_int a4 with ⟨a4k, f11, rfl⟩ | f11
                        · by_cases f12 : (si.getD a2k 0) < a4k
                          · refine ⟨(-5), (im, lf, s, d, k, ls, rf, rz, ra, rn, rq, lt, m1, m2, m3, m4, bd, (fc.set 5 ((fc.getD 5 0) + (nI 1))), hd, sz, el, s, g, fm, hm, so, si, sh, ce, ca, td, wa, kp, la, bf, oo, bo, pw, ow, tr), (im, lf, s, d, k, ls, rf, rz, ra, rn, rq, lt, m1, m2, m3, m4, bd, (fc.set 5 ((fc.getD 5 0) + (nI 1))), hd, sz, el, s, g, (fm.set 5 ((fm.getD 5 0) + (nI 1))), hm, so, si, sh, ce, ca, td, wa, kp, la, bf, oo, bo, pw, ow, tr), ?_, ?_, ?_⟩
                            · show Ev ab_Z0 3 78 [.ref 0, .int (nI a1k), .int (nI a2k), .int (nI a3k), .int (nI a4k), .int (nI a5k)] (ww im lf s d k ls rf rz ra rn rq lt m1 m2 m3 m4 bd fc hd sz el s g fm hm so si sh ce ca td wa kp la bf oo bo pw ow tr) (some (.int (-5)), (ww im lf s d k ls rf rz ra rn rq lt m1 m2 m3 m4 bd (fc.set 5 ((fc.getD 5 0) + (nI 1))) hd sz el s g fm hm so si sh ce ca td wa kp la bf oo bo pw ow tr))
                              refine Ef.in (md := mX5_copy) (L := [some (.ref 0), some (.int (nI a1k)), some (.int (nI a2k)), some (.int (nI a3k)), some (.int (nI a4k)), some (.int (nI a5k)), none, none]) rfl (Nat.le_of_ble_eq_true rfl) rfl ?_
                              refine E_iload_n at_X5_copy_0 rfl ?_
                              refine E_callS (v := some (.int (nI 1))) (As := [.int (nI a1k)]) (r0 := []) (cs2 := (ww im lf s d k ls rf rz ra rn rq lt m1 m2 m3 m4 bd fc hd sz el s g fm hm so si sh ce ca td wa kp la bf oo bo pw ow tr)) at_X5_copy_1 rfl rfl (Nat.le_of_ble_eq_true rfl) rfl (L39_X5_isShelf (by omega) (by omega) (by omega)) (by decide) rfl ?_
                              refine E_if (t := 14) (b := false) at_X5_copy_4 rfl (by decide) ?_
                              refine E_iload_n at_X5_copy_7 rfl ?_
                              refine E_callS (v := some (.int (nI 1))) (As := [.int (nI a2k)]) (r0 := []) (cs2 := (ww im lf s d k ls rf rz ra rn rq lt m1 m2 m3 m4 bd fc hd sz el s g fm hm so si sh ce ca td wa kp la bf oo bo pw ow tr)) at_X5_copy_8 rfl rfl (Nat.le_of_ble_eq_true rfl) rfl (L39_X5_isShelf (by omega) (by omega) (by omega)) (by decide) rfl ?_
                              refine E_if (t := 20) (b := true) at_X5_copy_11 rfl (by decide) ?_
                              refine E_aload_n at_X5_copy_20 rfl ?_
                              refine E_getfield (v := .ref 31) at_X5_copy_21 w0 rfl (by decide) rfl ?_
                              refine E_iload_n at_X5_copy_24 rfl ?_
                              refine E_aalN (b := 49 + 2 * a1k) at_X5_copy_25 w31 (by omega) (w_shs (by omega)) ?_
                              refine E_astore (L2 := [some (.ref 0), some (.int (nI a1k)), some (.int (nI a2k)), some (.int (nI a3k)), some (.int (nI a4k)), some (.int (nI a5k)), some (.ref (49 + 2 * a1k)), none]) at_X5_copy_26 rfl ?_
                              refine E_aload_n at_X5_copy_28 rfl ?_
                              refine E_getfield (v := .ref 31) at_X5_copy_29 w0 rfl (by decide) rfl ?_
                              refine E_iload_n at_X5_copy_32 rfl ?_
                              refine E_aalN (b := 49 + 2 * a2k) at_X5_copy_33 w31 (by omega) (w_shs (by omega)) ?_
                              refine E_astore (L2 := [some (.ref 0), some (.int (nI a1k)), some (.int (nI a2k)), some (.int (nI a3k)), some (.int (nI a4k)), some (.int (nI a5k)), some (.ref (49 + 2 * a1k)), some (.ref (49 + 2 * a2k))]) at_X5_copy_34 rfl ?_
                              refine E_aload at_X5_copy_36 rfl ?_
                              have e1 : Ev ab_Z0 1 33 [.ref (49 + 2 * a1k)] (ww im lf s d k ls rf rz ra rn rq lt m1 m2 m3 m4 bd fc hd sz el s g fm hm so si sh ce ca td wa kp la bf oo bo pw ow tr) (some (.int (nI 0)), (ww im lf s d k ls rf rz ra rn rq lt m1 m2 m3 m4 bd fc hd sz el s g fm hm so si sh ce ca td wa kp la bf oo bo pw ow tr)) := by
                                refine Ef.in (md := mX3_isOtherThanRow) (L := [some (.ref (49 + 2 * a1k))]) rfl (Nat.le_of_ble_eq_true rfl) rfl ?_
                                refine E_aload_n at_X3_isOtherThanRow_0 rfl ?_
                                refine E_getfield (v := .int (nI (100 + so.getD a1k 0))) at_X3_isOtherThanRow_1 (w_shv (j := a1k) (by omega) u1 u2) rfl (by decide) rfl ?_
                                refine E_if (t := 20) (b := false) at_X3_isOtherThanRow_4 rfl ((cn_lt (nI_toInt (by omega)) (by decide : (0 : Int32).toInt = 0)).trans (decide_eq_false (by omega))) ?_
                                refine E_aload_n at_X3_isOtherThanRow_7 rfl ?_
                                refine E_getfield (v := .int (nI (100 + so.getD a1k 0))) at_X3_isOtherThanRow_8 (w_shv (j := a1k) (by omega) u1 u2) rfl (by decide) rfl ?_
                                refine E_bipush (x := nI 100) at_X3_isOtherThanRow_11 (by decide) ?_
                                refine E_ic (t := 20) (b := true) at_X3_isOtherThanRow_13 rfl ((cn_ge (nI_toInt (by omega)) (nI_toInt (by omega))).trans (decide_eq_true (by omega))) ?_
                                refine E_iconst (x := nI 0) at_X3_isOtherThanRow_20 (by decide) ?_
                                exact E_iret at_X3_isOtherThanRow_21 rfl
                              refine E_callV (v := some (.int (nI 0))) (As := [.ref (49 + 2 * a1k)]) (r0 := []) (cs2 := (ww im lf s d k ls rf rz ra rn rq lt m1 m2 m3 m4 bd fc hd sz el s g fm hm so si sh ce ca td wa kp la bf oo bo pw ow tr)) at_X5_copy_38 rfl rfl (Nat.le_of_ble_eq_true rfl) rfl (ab_rvOf (w_shv (j := a1k) (by omega) u1 u2) rfl) e1 (by decide) rfl ?_
                              refine E_if (t := 62) (b := false) at_X5_copy_41 rfl (by decide) ?_
                              refine E_aload at_X5_copy_44 rfl ?_
                              have e2 : Ev ab_Z0 1 33 [.ref (49 + 2 * a2k)] (ww im lf s d k ls rf rz ra rn rq lt m1 m2 m3 m4 bd fc hd sz el s g fm hm so si sh ce ca td wa kp la bf oo bo pw ow tr) (some (.int (nI 0)), (ww im lf s d k ls rf rz ra rn rq lt m1 m2 m3 m4 bd fc hd sz el s g fm hm so si sh ce ca td wa kp la bf oo bo pw ow tr)) := by
                                refine Ef.in (md := mX3_isOtherThanRow) (L := [some (.ref (49 + 2 * a2k))]) rfl (Nat.le_of_ble_eq_true rfl) rfl ?_
                                refine E_aload_n at_X3_isOtherThanRow_0 rfl ?_
                                refine E_getfield (v := .int (nI (100 + so.getD a2k 0))) at_X3_isOtherThanRow_1 (w_shv (j := a2k) (by omega) u21 u22) rfl (by decide) rfl ?_
                                refine E_if (t := 20) (b := false) at_X3_isOtherThanRow_4 rfl ((cn_lt (nI_toInt (by omega)) (by decide : (0 : Int32).toInt = 0)).trans (decide_eq_false (by omega))) ?_
                                refine E_aload_n at_X3_isOtherThanRow_7 rfl ?_
                                refine E_getfield (v := .int (nI (100 + so.getD a2k 0))) at_X3_isOtherThanRow_8 (w_shv (j := a2k) (by omega) u21 u22) rfl (by decide) rfl ?_
                                refine E_bipush (x := nI 100) at_X3_isOtherThanRow_11 (by decide) ?_
                                refine E_ic (t := 20) (b := true) at_X3_isOtherThanRow_13 rfl ((cn_ge (nI_toInt (by omega)) (nI_toInt (by omega))).trans (decide_eq_true (by omega))) ?_
                                refine E_iconst (x := nI 0) at_X3_isOtherThanRow_20 (by decide) ?_
                                exact E_iret at_X3_isOtherThanRow_21 rfl
                              refine E_callV (v := some (.int (nI 0))) (As := [.ref (49 + 2 * a2k)]) (r0 := []) (cs2 := (ww im lf s d k ls rf rz ra rn rq lt m1 m2 m3 m4 bd fc hd sz el s g fm hm so si sh ce ca td wa kp la bf oo bo pw ow tr)) at_X5_copy_46 rfl rfl (Nat.le_of_ble_eq_true rfl) rfl (ab_rvOf (w_shv (j := a2k) (by omega) u21 u22) rfl) e2 (by decide) rfl ?_
                              refine E_if (t := 62) (b := false) at_X5_copy_49 rfl (by decide) ?_
                              refine E_aload at_X5_copy_52 rfl ?_
                              refine E_aload at_X5_copy_54 rfl ?_
                              have e5 : Ev ab_Z0 2 34 [.ref (49 + 2 * a1k), .ref (49 + 2 * a2k)] (ww im lf s d k ls rf rz ra rn rq lt m1 m2 m3 m4 bd fc hd sz el s g fm hm so si sh ce ca td wa kp la bf oo bo pw ow tr) (some (.int (nI 0)), (ww im lf s d k ls rf rz ra rn rq lt m1 m2 m3 m4 bd fc hd sz el s g fm hm so si sh ce ca td wa kp la bf oo bo pw ow tr)) := by
                                refine Ef.in (md := mX3_isOfOtherSort) (L := [some (.ref (49 + 2 * a1k)), some (.ref (49 + 2 * a2k))]) rfl (Nat.le_of_ble_eq_true rfl) rfl ?_
                                refine E_aload_n at_X3_isOfOtherSort_0 rfl ?_
                                have e3 : Ev ab_Z0 1 32 [.ref (49 + 2 * a1k)] (ww im lf s d k ls rf rz ra rn rq lt m1 m2 m3 m4 bd fc hd sz el s g fm hm so si sh ce ca td wa kp la bf oo bo pw ow tr) (some (.int (nI 0)), (ww im lf s d k ls rf rz ra rn rq lt m1 m2 m3 m4 bd fc hd sz el s g fm hm so si sh ce ca td wa kp la bf oo bo pw ow tr)) := by
                                  refine Ef.in (md := mX3_isEmpty) (L := [some (.ref (49 + 2 * a1k))]) rfl (Nat.le_of_ble_eq_true rfl) rfl ?_
                                  refine E_aload_n at_X3_isEmpty_0 rfl ?_
                                  refine E_getfield (v := .int (nI (100 + so.getD a1k 0))) at_X3_isEmpty_1 (w_shv (j := a1k) (by omega) u1 u2) rfl (by decide) rfl ?_
                                  refine E_iconst (x := (-1)) at_X3_isEmpty_4 (by decide) ?_
                                  refine E_ic (t := 12) (b := true) at_X3_isEmpty_5 rfl ((cn_ne (nI_toInt (by omega)) (by decide : (-1 : Int32).toInt = -1)).trans (decide_eq_true (by omega))) ?_
                                  refine E_iconst (x := nI 0) at_X3_isEmpty_12 (by decide) ?_
                                  exact E_iret at_X3_isEmpty_13 rfl
                                refine E_callV (v := some (.int (nI 0))) (As := [.ref (49 + 2 * a1k)]) (r0 := []) (cs2 := (ww im lf s d k ls rf rz ra rn rq lt m1 m2 m3 m4 bd fc hd sz el s g fm hm so si sh ce ca td wa kp la bf oo bo pw ow tr)) at_X3_isOfOtherSort_1 rfl rfl (Nat.le_of_ble_eq_true rfl) rfl (ab_rvOf (w_shv (j := a1k) (by omega) u1 u2) rfl) e3 (by decide) rfl ?_
                                refine E_if (t := 29) (b := false) at_X3_isOfOtherSort_4 rfl (by decide) ?_
                                refine E_aload_n at_X3_isOfOtherSort_7 rfl ?_
                                have e4 : Ev ab_Z0 1 32 [.ref (49 + 2 * a2k)] (ww im lf s d k ls rf rz ra rn rq lt m1 m2 m3 m4 bd fc hd sz el s g fm hm so si sh ce ca td wa kp la bf oo bo pw ow tr) (some (.int (nI 0)), (ww im lf s d k ls rf rz ra rn rq lt m1 m2 m3 m4 bd fc hd sz el s g fm hm so si sh ce ca td wa kp la bf oo bo pw ow tr)) := by
                                  refine Ef.in (md := mX3_isEmpty) (L := [some (.ref (49 + 2 * a2k))]) rfl (Nat.le_of_ble_eq_true rfl) rfl ?_
                                  refine E_aload_n at_X3_isEmpty_0 rfl ?_
                                  refine E_getfield (v := .int (nI (100 + so.getD a2k 0))) at_X3_isEmpty_1 (w_shv (j := a2k) (by omega) u21 u22) rfl (by decide) rfl ?_
                                  refine E_iconst (x := (-1)) at_X3_isEmpty_4 (by decide) ?_
                                  refine E_ic (t := 12) (b := true) at_X3_isEmpty_5 rfl ((cn_ne (nI_toInt (by omega)) (by decide : (-1 : Int32).toInt = -1)).trans (decide_eq_true (by omega))) ?_
                                  refine E_iconst (x := nI 0) at_X3_isEmpty_12 (by decide) ?_
                                  exact E_iret at_X3_isEmpty_13 rfl
                                refine E_callV (v := some (.int (nI 0))) (As := [.ref (49 + 2 * a2k)]) (r0 := []) (cs2 := (ww im lf s d k ls rf rz ra rn rq lt m1 m2 m3 m4 bd fc hd sz el s g fm hm so si sh ce ca td wa kp la bf oo bo pw ow tr)) at_X3_isOfOtherSort_8 rfl rfl (Nat.le_of_ble_eq_true rfl) rfl (ab_rvOf (w_shv (j := a2k) (by omega) u21 u22) rfl) e4 (by decide) rfl ?_
                                refine E_if (t := 29) (b := false) at_X3_isOfOtherSort_11 rfl (by decide) ?_
                                refine E_aload_n at_X3_isOfOtherSort_14 rfl ?_
                                refine E_getfield (v := .int (nI (100 + so.getD a1k 0))) at_X3_isOfOtherSort_15 (w_shv (j := a1k) (by omega) u1 u2) rfl (by decide) rfl ?_
                                refine E_aload_n at_X3_isOfOtherSort_18 rfl ?_
                                refine E_getfield (v := .int (nI (100 + so.getD a2k 0))) at_X3_isOfOtherSort_19 (w_shv (j := a2k) (by omega) u21 u22) rfl (by decide) rfl ?_
                                refine E_ic (t := 29) (b := true) at_X3_isOfOtherSort_22 rfl ((cn_eq (nI_toInt (by omega)) (nI_toInt (by omega))).trans (decide_eq_true (by omega))) ?_
                                refine E_iconst (x := nI 0) at_X3_isOfOtherSort_29 (by decide) ?_
                                exact E_iret at_X3_isOfOtherSort_30 rfl
                              refine E_callV (v := some (.int (nI 0))) (As := [.ref (49 + 2 * a1k), .ref (49 + 2 * a2k)]) (r0 := []) (cs2 := (ww im lf s d k ls rf rz ra rn rq lt m1 m2 m3 m4 bd fc hd sz el s g fm hm so si sh ce ca td wa kp la bf oo bo pw ow tr)) at_X5_copy_56 rfl rfl (Nat.le_of_ble_eq_true rfl) rfl (ab_rvOf (w_shv (j := a1k) (by omega) u1 u2) rfl) e5 (by decide) rfl ?_
                              refine E_if (t := 68) (b := true) at_X5_copy_59 rfl (by decide) ?_
                              refine E_aload at_X5_copy_68 rfl ?_
                              have e6 : Ev ab_Z0 1 32 [.ref (49 + 2 * a1k)] (ww im lf s d k ls rf rz ra rn rq lt m1 m2 m3 m4 bd fc hd sz el s g fm hm so si sh ce ca td wa kp la bf oo bo pw ow tr) (some (.int (nI 0)), (ww im lf s d k ls rf rz ra rn rq lt m1 m2 m3 m4 bd fc hd sz el s g fm hm so si sh ce ca td wa kp la bf oo bo pw ow tr)) := by
                                refine Ef.in (md := mX3_isEmpty) (L := [some (.ref (49 + 2 * a1k))]) rfl (Nat.le_of_ble_eq_true rfl) rfl ?_
                                refine E_aload_n at_X3_isEmpty_0 rfl ?_
                                refine E_getfield (v := .int (nI (100 + so.getD a1k 0))) at_X3_isEmpty_1 (w_shv (j := a1k) (by omega) u1 u2) rfl (by decide) rfl ?_
                                refine E_iconst (x := (-1)) at_X3_isEmpty_4 (by decide) ?_
                                refine E_ic (t := 12) (b := true) at_X3_isEmpty_5 rfl ((cn_ne (nI_toInt (by omega)) (by decide : (-1 : Int32).toInt = -1)).trans (decide_eq_true (by omega))) ?_
                                refine E_iconst (x := nI 0) at_X3_isEmpty_12 (by decide) ?_
                                exact E_iret at_X3_isEmpty_13 rfl
                              refine E_callV (v := some (.int (nI 0))) (As := [.ref (49 + 2 * a1k)]) (r0 := []) (cs2 := (ww im lf s d k ls rf rz ra rn rq lt m1 m2 m3 m4 bd fc hd sz el s g fm hm so si sh ce ca td wa kp la bf oo bo pw ow tr)) at_X5_copy_70 rfl rfl (Nat.le_of_ble_eq_true rfl) rfl (ab_rvOf (w_shv (j := a1k) (by omega) u1 u2) rfl) e6 (by decide) rfl ?_
                              refine E_if (t := 84) (b := false) at_X5_copy_73 rfl (by decide) ?_
                              refine E_aload at_X5_copy_76 rfl ?_
                              have e7 : Ev ab_Z0 1 32 [.ref (49 + 2 * a2k)] (ww im lf s d k ls rf rz ra rn rq lt m1 m2 m3 m4 bd fc hd sz el s g fm hm so si sh ce ca td wa kp la bf oo bo pw ow tr) (some (.int (nI 0)), (ww im lf s d k ls rf rz ra rn rq lt m1 m2 m3 m4 bd fc hd sz el s g fm hm so si sh ce ca td wa kp la bf oo bo pw ow tr)) := by
                                refine Ef.in (md := mX3_isEmpty) (L := [some (.ref (49 + 2 * a2k))]) rfl (Nat.le_of_ble_eq_true rfl) rfl ?_
                                refine E_aload_n at_X3_isEmpty_0 rfl ?_
                                refine E_getfield (v := .int (nI (100 + so.getD a2k 0))) at_X3_isEmpty_1 (w_shv (j := a2k) (by omega) u21 u22) rfl (by decide) rfl ?_
                                refine E_iconst (x := (-1)) at_X3_isEmpty_4 (by decide) ?_
                                refine E_ic (t := 12) (b := true) at_X3_isEmpty_5 rfl ((cn_ne (nI_toInt (by omega)) (by decide : (-1 : Int32).toInt = -1)).trans (decide_eq_true (by omega))) ?_
                                refine E_iconst (x := nI 0) at_X3_isEmpty_12 (by decide) ?_
                                exact E_iret at_X3_isEmpty_13 rfl
                              refine E_callV (v := some (.int (nI 0))) (As := [.ref (49 + 2 * a2k)]) (r0 := []) (cs2 := (ww im lf s d k ls rf rz ra rn rq lt m1 m2 m3 m4 bd fc hd sz el s g fm hm so si sh ce ca td wa kp la bf oo bo pw ow tr)) at_X5_copy_78 rfl rfl (Nat.le_of_ble_eq_true rfl) rfl (ab_rvOf (w_shv (j := a2k) (by omega) u21 u22) rfl) e7 (by decide) rfl ?_
                              refine E_if (t := 90) (b := true) at_X5_copy_81 rfl (by decide) ?_
                              refine E_iload at_X5_copy_90 rfl ?_
                              refine E_if (t := 101) (b := true) at_X5_copy_92 rfl ((cn_ge (nI_toInt (by omega)) (by decide : (0 : Int32).toInt = 0)).trans (decide_eq_true (by omega))) ?_
                              refine E_aload at_X5_copy_101 rfl ?_
                              refine E_iload_n at_X5_copy_103 rfl ?_
                              refine E_iload at_X5_copy_104 rfl ?_
                              have e8 : Ev ab_Z0 1 36 [.ref (49 + 2 * a1k), .int (nI a3k), .int (nI a5k)] (ww im lf s d k ls rf rz ra rn rq lt m1 m2 m3 m4 bd fc hd sz el s g fm hm so si sh ce ca td wa kp la bf oo bo pw ow tr) (some (.int (nI 1)), (ww im lf s d k ls rf rz ra rn rq lt m1 m2 m3 m4 bd fc hd sz el s g fm hm so si sh ce ca td wa kp la bf oo bo pw ow tr)) := by
                                refine Ef.in (md := mX3_hasStretch) (L := [some (.ref (49 + 2 * a1k)), some (.int (nI a3k)), some (.int (nI a5k))]) rfl (Nat.le_of_ble_eq_true rfl) rfl ?_
                                refine E_iload_n at_X3_hasStretch_0 rfl ?_
                                refine E_if (t := 30) (b := false) at_X3_hasStretch_1 rfl ((cn_lt (nI_toInt (by omega)) (by decide : (0 : Int32).toInt = 0)).trans (decide_eq_false (by omega))) ?_
                                refine E_iload_n at_X3_hasStretch_4 rfl ?_
                                refine E_aload_n at_X3_hasStretch_5 rfl ?_
                                refine E_getfield (v := .int (nI (si.getD a1k 0))) at_X3_hasStretch_6 (w_shv (j := a1k) (by omega) u1 u2) rfl (by decide) rfl ?_
                                refine E_ic (t := 30) (b := false) at_X3_hasStretch_9 rfl ((cn_gt (nI_toInt (by omega)) (nI_toInt (by omega))).trans (decide_eq_false (by omega))) ?_
                                refine E_iload_n at_X3_hasStretch_12 rfl ?_
                                refine E_if (t := 30) (b := false) at_X3_hasStretch_13 rfl ((cn_lt (nI_toInt (by omega)) (by decide : (0 : Int32).toInt = 0)).trans (decide_eq_false (by omega))) ?_
                                refine E_iload_n at_X3_hasStretch_16 rfl ?_
                                refine E_aload_n at_X3_hasStretch_17 rfl ?_
                                refine E_getfield (v := .int (nI (si.getD a1k 0))) at_X3_hasStretch_18 (w_shv (j := a1k) (by omega) u1 u2) rfl (by decide) rfl ?_
                                refine E_iload_n at_X3_hasStretch_21 rfl ?_
                                refine E_isub (z := nI ((si.getD a1k 0) - a3k)) at_X3_hasStretch_22 (pk_sub (by omega)) ?_
                                refine E_ic (t := 30) (b := false) at_X3_hasStretch_23 rfl ((cn_gt (nI_toInt (by omega)) (nI_toInt (by omega))).trans (decide_eq_false (by omega))) ?_
                                refine E_iconst (x := nI 1) at_X3_hasStretch_26 (by decide) ?_
                                refine E_goto (t := 31) at_X3_hasStretch_27 rfl ?_
                                exact E_iret at_X3_hasStretch_31 rfl
                              refine E_callV (v := some (.int (nI 1))) (As := [.ref (49 + 2 * a1k), .int (nI a3k), .int (nI a5k)]) (r0 := []) (cs2 := (ww im lf s d k ls rf rz ra rn rq lt m1 m2 m3 m4 bd fc hd sz el s g fm hm so si sh ce ca td wa kp la bf oo bo pw ow tr)) at_X5_copy_106 rfl rfl (Nat.le_of_ble_eq_true rfl) rfl (ab_rvOf (w_shv (j := a1k) (by omega) u1 u2) rfl) e8 (by decide) rfl ?_
                              refine E_if (t := 124) (b := false) at_X5_copy_109 rfl (by decide) ?_
                              refine E_aload at_X5_copy_112 rfl ?_
                              refine E_iload at_X5_copy_114 rfl ?_
                              refine E_iload at_X5_copy_116 rfl ?_
                              have e9 : Ev ab_Z0 1 36 [.ref (49 + 2 * a2k), .int (nI a4k), .int (nI a5k)] (ww im lf s d k ls rf rz ra rn rq lt m1 m2 m3 m4 bd fc hd sz el s g fm hm so si sh ce ca td wa kp la bf oo bo pw ow tr) (some (.int (nI 0)), (ww im lf s d k ls rf rz ra rn rq lt m1 m2 m3 m4 bd fc hd sz el s g fm hm so si sh ce ca td wa kp la bf oo bo pw ow tr)) := by
                                refine Ef.in (md := mX3_hasStretch) (L := [some (.ref (49 + 2 * a2k)), some (.int (nI a4k)), some (.int (nI a5k))]) rfl (Nat.le_of_ble_eq_true rfl) rfl ?_
                                refine E_iload_n at_X3_hasStretch_0 rfl ?_
                                refine E_if (t := 30) (b := false) at_X3_hasStretch_1 rfl ((cn_lt (nI_toInt (by omega)) (by decide : (0 : Int32).toInt = 0)).trans (decide_eq_false (by omega))) ?_
                                refine E_iload_n at_X3_hasStretch_4 rfl ?_
                                refine E_aload_n at_X3_hasStretch_5 rfl ?_
                                refine E_getfield (v := .int (nI (si.getD a2k 0))) at_X3_hasStretch_6 (w_shv (j := a2k) (by omega) u21 u22) rfl (by decide) rfl ?_
                                refine E_ic (t := 30) (b := true) at_X3_hasStretch_9 rfl ((cn_gt (nI_toInt (by omega)) (nI_toInt (by omega))).trans (decide_eq_true (by omega))) ?_
                                refine E_iconst (x := nI 0) at_X3_hasStretch_30 (by decide) ?_
                                exact E_iret at_X3_hasStretch_31 rfl
                              refine E_callV (v := some (.int (nI 0))) (As := [.ref (49 + 2 * a2k), .int (nI a4k), .int (nI a5k)]) (r0 := []) (cs2 := (ww im lf s d k ls rf rz ra rn rq lt m1 m2 m3 m4 bd fc hd sz el s g fm hm so si sh ce ca td wa kp la bf oo bo pw ow tr)) at_X5_copy_118 rfl rfl (Nat.le_of_ble_eq_true rfl) rfl (ab_rvOf (w_shv (j := a2k) (by omega) u21 u22) rfl) e9 (by decide) rfl ?_
                              refine E_if (t := 130) (b := false) at_X5_copy_121 rfl (by decide) ?_
                              refine E_aload_n at_X5_copy_124 rfl ?_
                              refine E_iconst (x := nI 5) at_X5_copy_125 (by decide) ?_
                              refine E_callV (v := some (.int (-5))) (As := [.ref 0, .int (nI 5)]) (r0 := []) (cs2 := (ww im lf s d k ls rf rz ra rn rq lt m1 m2 m3 m4 bd (fc.set 5 ((fc.getD 5 0) + (nI 1))) hd sz el s g fm hm so si sh ce ca td wa kp la bf oo bo pw ow tr)) at_X5_copy_126 rfl rfl (Nat.le_of_ble_eq_true rfl) rfl (ab_rvOf w0 rfl) (L18_X5_refuse (by omega)) (by decide) w_lens ?_
                              exact E_iret at_X5_copy_129 rfl
                            · show Ev ab_Z0 2 137 [.ref 65, .int (nI a1k), .int (nI a2k), .int (nI a3k), .int (nI a4k), .int (nI a5k)] (ww im lf s d k ls rf rz ra rn rq lt m1 m2 m3 m4 bd (fc.set 5 ((fc.getD 5 0) + (nI 1))) hd sz el s g fm hm so si sh ce ca td wa kp la bf oo bo pw ow tr) (some (.int (-5)), (ww im lf s d k ls rf rz ra rn rq lt m1 m2 m3 m4 bd (fc.set 5 ((fc.getD 5 0) + (nI 1))) hd sz el s g (fm.set 5 ((fm.getD 5 0) + (nI 1))) hm so si sh ce ca td wa kp la bf oo bo pw ow tr))
                              refine Ef.in (md := mX6_copy) (L := [some (.ref 65), some (.int (nI a1k)), some (.int (nI a2k)), some (.int (nI a3k)), some (.int (nI a4k)), some (.int (nI a5k)), none]) rfl (Nat.le_of_ble_eq_true rfl) rfl ?_
                              refine E_aload_n at_X6_copy_0 rfl ?_
                              refine E_iload_n at_X6_copy_1 rfl ?_
                              refine E_callV (v := some (.int (nI 1))) (As := [.ref 65, .int (nI a1k)]) (r0 := []) (cs2 := (ww im lf s d k ls rf rz ra rn rq lt m1 m2 m3 m4 bd (fc.set 5 ((fc.getD 5 0) + (nI 1))) hd sz el s g fm hm so si sh ce ca td wa kp la bf oo bo pw ow tr)) at_X6_copy_2 rfl rfl (Nat.le_of_ble_eq_true rfl) rfl (ab_rvOf w65 rfl) (L40_X6_isShelf (by omega) (by omega) (by omega)) (by decide) rfl ?_
                              refine E_if (t := 16) (b := false) at_X6_copy_5 rfl (by decide) ?_
                              refine E_aload_n at_X6_copy_8 rfl ?_
                              refine E_iload_n at_X6_copy_9 rfl ?_
                              refine E_callV (v := some (.int (nI 1))) (As := [.ref 65, .int (nI a2k)]) (r0 := []) (cs2 := (ww im lf s d k ls rf rz ra rn rq lt m1 m2 m3 m4 bd (fc.set 5 ((fc.getD 5 0) + (nI 1))) hd sz el s g fm hm so si sh ce ca td wa kp la bf oo bo pw ow tr)) at_X6_copy_10 rfl rfl (Nat.le_of_ble_eq_true rfl) rfl (ab_rvOf w65 rfl) (L40_X6_isShelf (by omega) (by omega) (by omega)) (by decide) rfl ?_
                              refine E_if (t := 22) (b := true) at_X6_copy_13 rfl (by decide) ?_
                              refine E_aload_n at_X6_copy_22 rfl ?_
                              refine E_getfield (v := .ref 76) at_X6_copy_23 w65 rfl (by decide) rfl ?_
                              refine E_iload_n at_X6_copy_26 rfl ?_
                              refine E_ialN (l := hm) (v := hm.getD a1k 0) at_X6_copy_27 w76 (by omega) (by omega) rfl ?_
                              refine E_iconst (x := nI 2) at_X6_copy_28 (by decide) ?_
                              refine E_ic (t := 77) (b := false) at_X6_copy_29 rfl ((cn_eq (nI_toInt (by omega)) (nI_toInt (by omega))).trans (decide_eq_false (by omega))) ?_
                              refine E_aload_n at_X6_copy_32 rfl ?_
                              refine E_getfield (v := .ref 76) at_X6_copy_33 w65 rfl (by decide) rfl ?_
                              refine E_iload_n at_X6_copy_36 rfl ?_
                              refine E_ialN (l := hm) (v := hm.getD a2k 0) at_X6_copy_37 w76 (by omega) (by omega) rfl ?_
                              refine E_iconst (x := nI 2) at_X6_copy_38 (by decide) ?_
                              refine E_ic (t := 77) (b := false) at_X6_copy_39 rfl ((cn_eq (nI_toInt (by omega)) (nI_toInt (by omega))).trans (decide_eq_false (by omega))) ?_
                              refine E_aload_n at_X6_copy_42 rfl ?_
                              refine E_getfield (v := .ref 76) at_X6_copy_43 w65 rfl (by decide) rfl ?_
                              refine E_iload_n at_X6_copy_46 rfl ?_
                              refine E_ialN (l := hm) (v := hm.getD a1k 0) at_X6_copy_47 w76 (by omega) (by omega) rfl ?_
                              refine E_iconst (x := nI 1) at_X6_copy_48 (by decide) ?_
                              refine E_ic (t := 84) (b := false) at_X6_copy_49 rfl ((cn_ne (nI_toInt (by omega)) (nI_toInt (by omega))).trans (decide_eq_false (by omega))) ?_
                              refine E_aload_n at_X6_copy_52 rfl ?_
                              refine E_getfield (v := .ref 76) at_X6_copy_53 w65 rfl (by decide) rfl ?_
                              refine E_iload_n at_X6_copy_56 rfl ?_
                              refine E_ialN (l := hm) (v := hm.getD a2k 0) at_X6_copy_57 w76 (by omega) (by omega) rfl ?_
                              refine E_iconst (x := nI 1) at_X6_copy_58 (by decide) ?_
                              refine E_ic (t := 84) (b := false) at_X6_copy_59 rfl ((cn_ne (nI_toInt (by omega)) (nI_toInt (by omega))).trans (decide_eq_false (by omega))) ?_
                              refine E_aload_n at_X6_copy_62 rfl ?_
                              refine E_getfield (v := .ref 77) at_X6_copy_63 w65 rfl (by decide) rfl ?_
                              refine E_iload_n at_X6_copy_66 rfl ?_
                              refine E_ialN (l := so) (v := so.getD a1k 0) at_X6_copy_67 w77 (by omega) (by omega) rfl ?_
                              refine E_aload_n at_X6_copy_68 rfl ?_
                              refine E_getfield (v := .ref 77) at_X6_copy_69 w65 rfl (by decide) rfl ?_
                              refine E_iload_n at_X6_copy_72 rfl ?_
                              refine E_ialN (l := so) (v := so.getD a2k 0) at_X6_copy_73 w77 (by omega) (by omega) rfl ?_
                              refine E_ic (t := 84) (b := true) at_X6_copy_74 rfl ((cn_eq (nI_toInt (by omega)) (nI_toInt (by omega))).trans (decide_eq_true (by omega))) ?_
                              refine E_aload_n at_X6_copy_84 rfl ?_
                              refine E_getfield (v := .ref 76) at_X6_copy_85 w65 rfl (by decide) rfl ?_
                              refine E_iload_n at_X6_copy_88 rfl ?_
                              refine E_ialN (l := hm) (v := hm.getD a1k 0) at_X6_copy_89 w76 (by omega) (by omega) rfl ?_
                              refine E_if (t := 102) (b := false) at_X6_copy_90 rfl ((cn_eq (nI_toInt (by omega)) (by decide : (0 : Int32).toInt = 0)).trans (decide_eq_false (by omega))) ?_
                              refine E_aload_n at_X6_copy_93 rfl ?_
                              refine E_getfield (v := .ref 76) at_X6_copy_94 w65 rfl (by decide) rfl ?_
                              refine E_iload_n at_X6_copy_97 rfl ?_
                              refine E_ialN (l := hm) (v := hm.getD a2k 0) at_X6_copy_98 w76 (by omega) (by omega) rfl ?_
                              refine E_if (t := 109) (b := true) at_X6_copy_99 rfl ((cn_ne (nI_toInt (by omega)) (by decide : (0 : Int32).toInt = 0)).trans (decide_eq_true (by omega))) ?_
                              refine E_iload at_X6_copy_109 rfl ?_
                              refine E_if (t := 121) (b := true) at_X6_copy_111 rfl ((cn_ge (nI_toInt (by omega)) (by decide : (0 : Int32).toInt = 0)).trans (decide_eq_true (by omega))) ?_
                              refine E_iload_n at_X6_copy_121 rfl ?_
                              refine E_if (t := 157) (b := false) at_X6_copy_122 rfl ((cn_lt (nI_toInt (by omega)) (by decide : (0 : Int32).toInt = 0)).trans (decide_eq_false (by omega))) ?_
                              refine E_iload at_X6_copy_125 rfl ?_
                              refine E_if (t := 157) (b := false) at_X6_copy_127 rfl ((cn_lt (nI_toInt (by omega)) (by decide : (0 : Int32).toInt = 0)).trans (decide_eq_false (by omega))) ?_
                              refine E_iload_n at_X6_copy_130 rfl ?_
                              refine E_aload_n at_X6_copy_131 rfl ?_
                              refine E_getfield (v := .ref 78) at_X6_copy_132 w65 rfl (by decide) rfl ?_
                              refine E_iload_n at_X6_copy_135 rfl ?_
                              refine E_ialN (l := si) (v := si.getD a1k 0) at_X6_copy_136 w78 (by omega) (by omega) rfl ?_
                              refine E_iload at_X6_copy_137 rfl ?_
                              refine E_isub (z := nI ((si.getD a1k 0) - a5k)) at_X6_copy_139 (pk_sub (by omega)) ?_
                              refine E_ic (t := 157) (b := false) at_X6_copy_140 rfl ((cn_gt (nI_toInt (by omega)) (nI_toInt (by omega))).trans (decide_eq_false (by omega))) ?_
                              refine E_iload rfl rfl ?_
                              refine E_aload_n rfl rfl ?_
                              refine E_getfield (v := .ref 78) rfl w65 rfl (by decide) rfl ?_
                              refine E_iload_n rfl rfl ?_
                              refine E_ialN (l := si) (v := si.getD a2k 0) rfl w78 (by omega) (by omega) rfl ?_
                              refine E_iload rfl rfl ?_
                              refine E_isub (z := nI (si.getD a2k 0) - nI a5k) rfl rfl ?_
                              refine E_ic (t := 164) (b := false) rfl rfl ((cn_le (nI_toInt (by omega)) (ab_subI (by omega) (by omega))).trans (decide_eq_false (by omega))) ?_
                              refine E_aload_n at_X6_copy_157 rfl ?_
                              refine E_bipush (x := (-5)) at_X6_copy_158 (by decide) ?_
                              refine E_callV (v := some (.int (-5))) (As := [.ref 65, .int (-5)]) (r0 := []) (cs2 := (ww im lf s d k ls rf rz ra rn rq lt m1 m2 m3 m4 bd (fc.set 5 ((fc.getD 5 0) + (nI 1))) hd sz el s g (fm.set 5 ((fm.getD 5 0) + (nI 1))) hm so si sh ce ca td wa kp la bf oo bo pw ow tr)) at_X6_copy_160 rfl rfl (Nat.le_of_ble_eq_true rfl) rfl (ab_rvOf w65 rfl) (L19_X6_no (by omega)) (by decide) w_lens ?_
                              exact E_iret at_X6_copy_163 rfl
                            · exact ⟨I, rfl, hf, iQ, iM, iT, iS, l_el, (lr.1), (lr.2.1), (lr.2.2.1), (by simp only [List.length_set]; exact (lr.2.2.2.1)), (by simp only [List.length_set]; exact (lr.2.2.2.2.1)), (lr.2.2.2.2.2.1), (lr.2.2.2.2.2.2.1), (lr.2.2.2.2.2.2.2.1), (lr.2.2.2.2.2.2.2.2.1), (lr.2.2.2.2.2.2.2.2.2.1), (lr.2.2.2.2.2.2.2.2.2.2.1), (lr.2.2.2.2.2.2.2.2.2.2.2.1), (lr.2.2.2.2.2.2.2.2.2.2.2.2.1), (lr.2.2.2.2.2.2.2.2.2.2.2.2.2.1), (lr.2.2.2.2.2.2.2.2.2.2.2.2.2.2.1), (lr.2.2.2.2.2.2.2.2.2.2.2.2.2.2.2.1), (lr.2.2.2.2.2.2.2.2.2.2.2.2.2.2.2.2.1), (lr.2.2.2.2.2.2.2.2.2.2.2.2.2.2.2.2.2.1), (lr.2.2.2.2.2.2.2.2.2.2.2.2.2.2.2.2.2.2.1), (lr.2.2.2.2.2.2.2.2.2.2.2.2.2.2.2.2.2.2.2.1), (lr.2.2.2.2.2.2.2.2.2.2.2.2.2.2.2.2.2.2.2.2)⟩
                          · by_cases f13 : (si.getD a2k 0) < a5k + a4k
                            · refine ⟨(-5), (im, lf, s, d, k, ls, rf, rz, ra, rn, rq, lt, m1, m2, m3, m4, bd, (fc.set 5 ((fc.getD 5 0) + (nI 1))), hd, sz, el, s, g, fm, hm, so, si, sh, ce, ca, td, wa, kp, la, bf, oo, bo, pw, ow, tr), (im, lf, s, d, k, ls, rf, rz, ra, rn, rq, lt, m1, m2, m3, m4, bd, (fc.set 5 ((fc.getD 5 0) + (nI 1))), hd, sz, el, s, g, (fm.set 5 ((fm.getD 5 0) + (nI 1))), hm, so, si, sh, ce, ca, td, wa, kp, la, bf, oo, bo, pw, ow, tr), ?_, ?_, ?_⟩
                              · show Ev ab_Z0 3 78 [.ref 0, .int (nI a1k), .int (nI a2k), .int (nI a3k), .int (nI a4k), .int (nI a5k)] (ww im lf s d k ls rf rz ra rn rq lt m1 m2 m3 m4 bd fc hd sz el s g fm hm so si sh ce ca td wa kp la bf oo bo pw ow tr) (some (.int (-5)), (ww im lf s d k ls rf rz ra rn rq lt m1 m2 m3 m4 bd (fc.set 5 ((fc.getD 5 0) + (nI 1))) hd sz el s g fm hm so si sh ce ca td wa kp la bf oo bo pw ow tr))
                                refine Ef.in (md := mX5_copy) (L := [some (.ref 0), some (.int (nI a1k)), some (.int (nI a2k)), some (.int (nI a3k)), some (.int (nI a4k)), some (.int (nI a5k)), none, none]) rfl (Nat.le_of_ble_eq_true rfl) rfl ?_
                                refine E_iload_n at_X5_copy_0 rfl ?_
                                refine E_callS (v := some (.int (nI 1))) (As := [.int (nI a1k)]) (r0 := []) (cs2 := (ww im lf s d k ls rf rz ra rn rq lt m1 m2 m3 m4 bd fc hd sz el s g fm hm so si sh ce ca td wa kp la bf oo bo pw ow tr)) at_X5_copy_1 rfl rfl (Nat.le_of_ble_eq_true rfl) rfl (L39_X5_isShelf (by omega) (by omega) (by omega)) (by decide) rfl ?_
                                refine E_if (t := 14) (b := false) at_X5_copy_4 rfl (by decide) ?_
                                refine E_iload_n at_X5_copy_7 rfl ?_
                                refine E_callS (v := some (.int (nI 1))) (As := [.int (nI a2k)]) (r0 := []) (cs2 := (ww im lf s d k ls rf rz ra rn rq lt m1 m2 m3 m4 bd fc hd sz el s g fm hm so si sh ce ca td wa kp la bf oo bo pw ow tr)) at_X5_copy_8 rfl rfl (Nat.le_of_ble_eq_true rfl) rfl (L39_X5_isShelf (by omega) (by omega) (by omega)) (by decide) rfl ?_
                                refine E_if (t := 20) (b := true) at_X5_copy_11 rfl (by decide) ?_
                                refine E_aload_n at_X5_copy_20 rfl ?_
                                refine E_getfield (v := .ref 31) at_X5_copy_21 w0 rfl (by decide) rfl ?_
                                refine E_iload_n at_X5_copy_24 rfl ?_
                                refine E_aalN (b := 49 + 2 * a1k) at_X5_copy_25 w31 (by omega) (w_shs (by omega)) ?_
                                refine E_astore (L2 := [some (.ref 0), some (.int (nI a1k)), some (.int (nI a2k)), some (.int (nI a3k)), some (.int (nI a4k)), some (.int (nI a5k)), some (.ref (49 + 2 * a1k)), none]) at_X5_copy_26 rfl ?_
                                refine E_aload_n at_X5_copy_28 rfl ?_
                                refine E_getfield (v := .ref 31) at_X5_copy_29 w0 rfl (by decide) rfl ?_
                                refine E_iload_n at_X5_copy_32 rfl ?_
                                refine E_aalN (b := 49 + 2 * a2k) at_X5_copy_33 w31 (by omega) (w_shs (by omega)) ?_
                                refine E_astore (L2 := [some (.ref 0), some (.int (nI a1k)), some (.int (nI a2k)), some (.int (nI a3k)), some (.int (nI a4k)), some (.int (nI a5k)), some (.ref (49 + 2 * a1k)), some (.ref (49 + 2 * a2k))]) at_X5_copy_34 rfl ?_
                                refine E_aload at_X5_copy_36 rfl ?_
                                have e1 : Ev ab_Z0 1 33 [.ref (49 + 2 * a1k)] (ww im lf s d k ls rf rz ra rn rq lt m1 m2 m3 m4 bd fc hd sz el s g fm hm so si sh ce ca td wa kp la bf oo bo pw ow tr) (some (.int (nI 0)), (ww im lf s d k ls rf rz ra rn rq lt m1 m2 m3 m4 bd fc hd sz el s g fm hm so si sh ce ca td wa kp la bf oo bo pw ow tr)) := by
                                  refine Ef.in (md := mX3_isOtherThanRow) (L := [some (.ref (49 + 2 * a1k))]) rfl (Nat.le_of_ble_eq_true rfl) rfl ?_
                                  refine E_aload_n at_X3_isOtherThanRow_0 rfl ?_
                                  refine E_getfield (v := .int (nI (100 + so.getD a1k 0))) at_X3_isOtherThanRow_1 (w_shv (j := a1k) (by omega) u1 u2) rfl (by decide) rfl ?_
                                  refine E_if (t := 20) (b := false) at_X3_isOtherThanRow_4 rfl ((cn_lt (nI_toInt (by omega)) (by decide : (0 : Int32).toInt = 0)).trans (decide_eq_false (by omega))) ?_
                                  refine E_aload_n at_X3_isOtherThanRow_7 rfl ?_
                                  refine E_getfield (v := .int (nI (100 + so.getD a1k 0))) at_X3_isOtherThanRow_8 (w_shv (j := a1k) (by omega) u1 u2) rfl (by decide) rfl ?_
                                  refine E_bipush (x := nI 100) at_X3_isOtherThanRow_11 (by decide) ?_
                                  refine E_ic (t := 20) (b := true) at_X3_isOtherThanRow_13 rfl ((cn_ge (nI_toInt (by omega)) (nI_toInt (by omega))).trans (decide_eq_true (by omega))) ?_
                                  refine E_iconst (x := nI 0) at_X3_isOtherThanRow_20 (by decide) ?_
                                  exact E_iret at_X3_isOtherThanRow_21 rfl
                                refine E_callV (v := some (.int (nI 0))) (As := [.ref (49 + 2 * a1k)]) (r0 := []) (cs2 := (ww im lf s d k ls rf rz ra rn rq lt m1 m2 m3 m4 bd fc hd sz el s g fm hm so si sh ce ca td wa kp la bf oo bo pw ow tr)) at_X5_copy_38 rfl rfl (Nat.le_of_ble_eq_true rfl) rfl (ab_rvOf (w_shv (j := a1k) (by omega) u1 u2) rfl) e1 (by decide) rfl ?_
                                refine E_if (t := 62) (b := false) at_X5_copy_41 rfl (by decide) ?_
                                refine E_aload at_X5_copy_44 rfl ?_
                                have e2 : Ev ab_Z0 1 33 [.ref (49 + 2 * a2k)] (ww im lf s d k ls rf rz ra rn rq lt m1 m2 m3 m4 bd fc hd sz el s g fm hm so si sh ce ca td wa kp la bf oo bo pw ow tr) (some (.int (nI 0)), (ww im lf s d k ls rf rz ra rn rq lt m1 m2 m3 m4 bd fc hd sz el s g fm hm so si sh ce ca td wa kp la bf oo bo pw ow tr)) := by
                                  refine Ef.in (md := mX3_isOtherThanRow) (L := [some (.ref (49 + 2 * a2k))]) rfl (Nat.le_of_ble_eq_true rfl) rfl ?_
                                  refine E_aload_n at_X3_isOtherThanRow_0 rfl ?_
                                  refine E_getfield (v := .int (nI (100 + so.getD a2k 0))) at_X3_isOtherThanRow_1 (w_shv (j := a2k) (by omega) u21 u22) rfl (by decide) rfl ?_
                                  refine E_if (t := 20) (b := false) at_X3_isOtherThanRow_4 rfl ((cn_lt (nI_toInt (by omega)) (by decide : (0 : Int32).toInt = 0)).trans (decide_eq_false (by omega))) ?_
                                  refine E_aload_n at_X3_isOtherThanRow_7 rfl ?_
                                  refine E_getfield (v := .int (nI (100 + so.getD a2k 0))) at_X3_isOtherThanRow_8 (w_shv (j := a2k) (by omega) u21 u22) rfl (by decide) rfl ?_
                                  refine E_bipush (x := nI 100) at_X3_isOtherThanRow_11 (by decide) ?_
                                  refine E_ic (t := 20) (b := true) at_X3_isOtherThanRow_13 rfl ((cn_ge (nI_toInt (by omega)) (nI_toInt (by omega))).trans (decide_eq_true (by omega))) ?_
                                  refine E_iconst (x := nI 0) at_X3_isOtherThanRow_20 (by decide) ?_
                                  exact E_iret at_X3_isOtherThanRow_21 rfl
                                refine E_callV (v := some (.int (nI 0))) (As := [.ref (49 + 2 * a2k)]) (r0 := []) (cs2 := (ww im lf s d k ls rf rz ra rn rq lt m1 m2 m3 m4 bd fc hd sz el s g fm hm so si sh ce ca td wa kp la bf oo bo pw ow tr)) at_X5_copy_46 rfl rfl (Nat.le_of_ble_eq_true rfl) rfl (ab_rvOf (w_shv (j := a2k) (by omega) u21 u22) rfl) e2 (by decide) rfl ?_
                                refine E_if (t := 62) (b := false) at_X5_copy_49 rfl (by decide) ?_
                                refine E_aload at_X5_copy_52 rfl ?_
                                refine E_aload at_X5_copy_54 rfl ?_
                                have e5 : Ev ab_Z0 2 34 [.ref (49 + 2 * a1k), .ref (49 + 2 * a2k)] (ww im lf s d k ls rf rz ra rn rq lt m1 m2 m3 m4 bd fc hd sz el s g fm hm so si sh ce ca td wa kp la bf oo bo pw ow tr) (some (.int (nI 0)), (ww im lf s d k ls rf rz ra rn rq lt m1 m2 m3 m4 bd fc hd sz el s g fm hm so si sh ce ca td wa kp la bf oo bo pw ow tr)) := by
                                  refine Ef.in (md := mX3_isOfOtherSort) (L := [some (.ref (49 + 2 * a1k)), some (.ref (49 + 2 * a2k))]) rfl (Nat.le_of_ble_eq_true rfl) rfl ?_
                                  refine E_aload_n at_X3_isOfOtherSort_0 rfl ?_
                                  have e3 : Ev ab_Z0 1 32 [.ref (49 + 2 * a1k)] (ww im lf s d k ls rf rz ra rn rq lt m1 m2 m3 m4 bd fc hd sz el s g fm hm so si sh ce ca td wa kp la bf oo bo pw ow tr) (some (.int (nI 0)), (ww im lf s d k ls rf rz ra rn rq lt m1 m2 m3 m4 bd fc hd sz el s g fm hm so si sh ce ca td wa kp la bf oo bo pw ow tr)) := by
                                    refine Ef.in (md := mX3_isEmpty) (L := [some (.ref (49 + 2 * a1k))]) rfl (Nat.le_of_ble_eq_true rfl) rfl ?_
                                    refine E_aload_n at_X3_isEmpty_0 rfl ?_
                                    refine E_getfield (v := .int (nI (100 + so.getD a1k 0))) at_X3_isEmpty_1 (w_shv (j := a1k) (by omega) u1 u2) rfl (by decide) rfl ?_
                                    refine E_iconst (x := (-1)) at_X3_isEmpty_4 (by decide) ?_
                                    refine E_ic (t := 12) (b := true) at_X3_isEmpty_5 rfl ((cn_ne (nI_toInt (by omega)) (by decide : (-1 : Int32).toInt = -1)).trans (decide_eq_true (by omega))) ?_
                                    refine E_iconst (x := nI 0) at_X3_isEmpty_12 (by decide) ?_
                                    exact E_iret at_X3_isEmpty_13 rfl
                                  refine E_callV (v := some (.int (nI 0))) (As := [.ref (49 + 2 * a1k)]) (r0 := []) (cs2 := (ww im lf s d k ls rf rz ra rn rq lt m1 m2 m3 m4 bd fc hd sz el s g fm hm so si sh ce ca td wa kp la bf oo bo pw ow tr)) at_X3_isOfOtherSort_1 rfl rfl (Nat.le_of_ble_eq_true rfl) rfl (ab_rvOf (w_shv (j := a1k) (by omega) u1 u2) rfl) e3 (by decide) rfl ?_
                                  refine E_if (t := 29) (b := false) at_X3_isOfOtherSort_4 rfl (by decide) ?_
                                  refine E_aload_n at_X3_isOfOtherSort_7 rfl ?_
                                  have e4 : Ev ab_Z0 1 32 [.ref (49 + 2 * a2k)] (ww im lf s d k ls rf rz ra rn rq lt m1 m2 m3 m4 bd fc hd sz el s g fm hm so si sh ce ca td wa kp la bf oo bo pw ow tr) (some (.int (nI 0)), (ww im lf s d k ls rf rz ra rn rq lt m1 m2 m3 m4 bd fc hd sz el s g fm hm so si sh ce ca td wa kp la bf oo bo pw ow tr)) := by
                                    refine Ef.in (md := mX3_isEmpty) (L := [some (.ref (49 + 2 * a2k))]) rfl (Nat.le_of_ble_eq_true rfl) rfl ?_
                                    refine E_aload_n at_X3_isEmpty_0 rfl ?_
                                    refine E_getfield (v := .int (nI (100 + so.getD a2k 0))) at_X3_isEmpty_1 (w_shv (j := a2k) (by omega) u21 u22) rfl (by decide) rfl ?_
                                    refine E_iconst (x := (-1)) at_X3_isEmpty_4 (by decide) ?_
                                    refine E_ic (t := 12) (b := true) at_X3_isEmpty_5 rfl ((cn_ne (nI_toInt (by omega)) (by decide : (-1 : Int32).toInt = -1)).trans (decide_eq_true (by omega))) ?_
                                    refine E_iconst (x := nI 0) at_X3_isEmpty_12 (by decide) ?_
                                    exact E_iret at_X3_isEmpty_13 rfl
                                  refine E_callV (v := some (.int (nI 0))) (As := [.ref (49 + 2 * a2k)]) (r0 := []) (cs2 := (ww im lf s d k ls rf rz ra rn rq lt m1 m2 m3 m4 bd fc hd sz el s g fm hm so si sh ce ca td wa kp la bf oo bo pw ow tr)) at_X3_isOfOtherSort_8 rfl rfl (Nat.le_of_ble_eq_true rfl) rfl (ab_rvOf (w_shv (j := a2k) (by omega) u21 u22) rfl) e4 (by decide) rfl ?_
                                  refine E_if (t := 29) (b := false) at_X3_isOfOtherSort_11 rfl (by decide) ?_
                                  refine E_aload_n at_X3_isOfOtherSort_14 rfl ?_
                                  refine E_getfield (v := .int (nI (100 + so.getD a1k 0))) at_X3_isOfOtherSort_15 (w_shv (j := a1k) (by omega) u1 u2) rfl (by decide) rfl ?_
                                  refine E_aload_n at_X3_isOfOtherSort_18 rfl ?_
                                  refine E_getfield (v := .int (nI (100 + so.getD a2k 0))) at_X3_isOfOtherSort_19 (w_shv (j := a2k) (by omega) u21 u22) rfl (by decide) rfl ?_
                                  refine E_ic (t := 29) (b := true) at_X3_isOfOtherSort_22 rfl ((cn_eq (nI_toInt (by omega)) (nI_toInt (by omega))).trans (decide_eq_true (by omega))) ?_
                                  refine E_iconst (x := nI 0) at_X3_isOfOtherSort_29 (by decide) ?_
                                  exact E_iret at_X3_isOfOtherSort_30 rfl
                                refine E_callV (v := some (.int (nI 0))) (As := [.ref (49 + 2 * a1k), .ref (49 + 2 * a2k)]) (r0 := []) (cs2 := (ww im lf s d k ls rf rz ra rn rq lt m1 m2 m3 m4 bd fc hd sz el s g fm hm so si sh ce ca td wa kp la bf oo bo pw ow tr)) at_X5_copy_56 rfl rfl (Nat.le_of_ble_eq_true rfl) rfl (ab_rvOf (w_shv (j := a1k) (by omega) u1 u2) rfl) e5 (by decide) rfl ?_
                                refine E_if (t := 68) (b := true) at_X5_copy_59 rfl (by decide) ?_
                                refine E_aload at_X5_copy_68 rfl ?_
                                have e6 : Ev ab_Z0 1 32 [.ref (49 + 2 * a1k)] (ww im lf s d k ls rf rz ra rn rq lt m1 m2 m3 m4 bd fc hd sz el s g fm hm so si sh ce ca td wa kp la bf oo bo pw ow tr) (some (.int (nI 0)), (ww im lf s d k ls rf rz ra rn rq lt m1 m2 m3 m4 bd fc hd sz el s g fm hm so si sh ce ca td wa kp la bf oo bo pw ow tr)) := by
                                  refine Ef.in (md := mX3_isEmpty) (L := [some (.ref (49 + 2 * a1k))]) rfl (Nat.le_of_ble_eq_true rfl) rfl ?_
                                  refine E_aload_n at_X3_isEmpty_0 rfl ?_
                                  refine E_getfield (v := .int (nI (100 + so.getD a1k 0))) at_X3_isEmpty_1 (w_shv (j := a1k) (by omega) u1 u2) rfl (by decide) rfl ?_
                                  refine E_iconst (x := (-1)) at_X3_isEmpty_4 (by decide) ?_
                                  refine E_ic (t := 12) (b := true) at_X3_isEmpty_5 rfl ((cn_ne (nI_toInt (by omega)) (by decide : (-1 : Int32).toInt = -1)).trans (decide_eq_true (by omega))) ?_
                                  refine E_iconst (x := nI 0) at_X3_isEmpty_12 (by decide) ?_
                                  exact E_iret at_X3_isEmpty_13 rfl
                                refine E_callV (v := some (.int (nI 0))) (As := [.ref (49 + 2 * a1k)]) (r0 := []) (cs2 := (ww im lf s d k ls rf rz ra rn rq lt m1 m2 m3 m4 bd fc hd sz el s g fm hm so si sh ce ca td wa kp la bf oo bo pw ow tr)) at_X5_copy_70 rfl rfl (Nat.le_of_ble_eq_true rfl) rfl (ab_rvOf (w_shv (j := a1k) (by omega) u1 u2) rfl) e6 (by decide) rfl ?_
                                refine E_if (t := 84) (b := false) at_X5_copy_73 rfl (by decide) ?_
                                refine E_aload at_X5_copy_76 rfl ?_
                                have e7 : Ev ab_Z0 1 32 [.ref (49 + 2 * a2k)] (ww im lf s d k ls rf rz ra rn rq lt m1 m2 m3 m4 bd fc hd sz el s g fm hm so si sh ce ca td wa kp la bf oo bo pw ow tr) (some (.int (nI 0)), (ww im lf s d k ls rf rz ra rn rq lt m1 m2 m3 m4 bd fc hd sz el s g fm hm so si sh ce ca td wa kp la bf oo bo pw ow tr)) := by
                                  refine Ef.in (md := mX3_isEmpty) (L := [some (.ref (49 + 2 * a2k))]) rfl (Nat.le_of_ble_eq_true rfl) rfl ?_
                                  refine E_aload_n at_X3_isEmpty_0 rfl ?_
                                  refine E_getfield (v := .int (nI (100 + so.getD a2k 0))) at_X3_isEmpty_1 (w_shv (j := a2k) (by omega) u21 u22) rfl (by decide) rfl ?_
                                  refine E_iconst (x := (-1)) at_X3_isEmpty_4 (by decide) ?_
                                  refine E_ic (t := 12) (b := true) at_X3_isEmpty_5 rfl ((cn_ne (nI_toInt (by omega)) (by decide : (-1 : Int32).toInt = -1)).trans (decide_eq_true (by omega))) ?_
                                  refine E_iconst (x := nI 0) at_X3_isEmpty_12 (by decide) ?_
                                  exact E_iret at_X3_isEmpty_13 rfl
                                refine E_callV (v := some (.int (nI 0))) (As := [.ref (49 + 2 * a2k)]) (r0 := []) (cs2 := (ww im lf s d k ls rf rz ra rn rq lt m1 m2 m3 m4 bd fc hd sz el s g fm hm so si sh ce ca td wa kp la bf oo bo pw ow tr)) at_X5_copy_78 rfl rfl (Nat.le_of_ble_eq_true rfl) rfl (ab_rvOf (w_shv (j := a2k) (by omega) u21 u22) rfl) e7 (by decide) rfl ?_
                                refine E_if (t := 90) (b := true) at_X5_copy_81 rfl (by decide) ?_
                                refine E_iload at_X5_copy_90 rfl ?_
                                refine E_if (t := 101) (b := true) at_X5_copy_92 rfl ((cn_ge (nI_toInt (by omega)) (by decide : (0 : Int32).toInt = 0)).trans (decide_eq_true (by omega))) ?_
                                refine E_aload at_X5_copy_101 rfl ?_
                                refine E_iload_n at_X5_copy_103 rfl ?_
                                refine E_iload at_X5_copy_104 rfl ?_
                                have e8 : Ev ab_Z0 1 36 [.ref (49 + 2 * a1k), .int (nI a3k), .int (nI a5k)] (ww im lf s d k ls rf rz ra rn rq lt m1 m2 m3 m4 bd fc hd sz el s g fm hm so si sh ce ca td wa kp la bf oo bo pw ow tr) (some (.int (nI 1)), (ww im lf s d k ls rf rz ra rn rq lt m1 m2 m3 m4 bd fc hd sz el s g fm hm so si sh ce ca td wa kp la bf oo bo pw ow tr)) := by
                                  refine Ef.in (md := mX3_hasStretch) (L := [some (.ref (49 + 2 * a1k)), some (.int (nI a3k)), some (.int (nI a5k))]) rfl (Nat.le_of_ble_eq_true rfl) rfl ?_
                                  refine E_iload_n at_X3_hasStretch_0 rfl ?_
                                  refine E_if (t := 30) (b := false) at_X3_hasStretch_1 rfl ((cn_lt (nI_toInt (by omega)) (by decide : (0 : Int32).toInt = 0)).trans (decide_eq_false (by omega))) ?_
                                  refine E_iload_n at_X3_hasStretch_4 rfl ?_
                                  refine E_aload_n at_X3_hasStretch_5 rfl ?_
                                  refine E_getfield (v := .int (nI (si.getD a1k 0))) at_X3_hasStretch_6 (w_shv (j := a1k) (by omega) u1 u2) rfl (by decide) rfl ?_
                                  refine E_ic (t := 30) (b := false) at_X3_hasStretch_9 rfl ((cn_gt (nI_toInt (by omega)) (nI_toInt (by omega))).trans (decide_eq_false (by omega))) ?_
                                  refine E_iload_n at_X3_hasStretch_12 rfl ?_
                                  refine E_if (t := 30) (b := false) at_X3_hasStretch_13 rfl ((cn_lt (nI_toInt (by omega)) (by decide : (0 : Int32).toInt = 0)).trans (decide_eq_false (by omega))) ?_
                                  refine E_iload_n at_X3_hasStretch_16 rfl ?_
                                  refine E_aload_n at_X3_hasStretch_17 rfl ?_
                                  refine E_getfield (v := .int (nI (si.getD a1k 0))) at_X3_hasStretch_18 (w_shv (j := a1k) (by omega) u1 u2) rfl (by decide) rfl ?_
                                  refine E_iload_n at_X3_hasStretch_21 rfl ?_
                                  refine E_isub (z := nI ((si.getD a1k 0) - a3k)) at_X3_hasStretch_22 (pk_sub (by omega)) ?_
                                  refine E_ic (t := 30) (b := false) at_X3_hasStretch_23 rfl ((cn_gt (nI_toInt (by omega)) (nI_toInt (by omega))).trans (decide_eq_false (by omega))) ?_
                                  refine E_iconst (x := nI 1) at_X3_hasStretch_26 (by decide) ?_
                                  refine E_goto (t := 31) at_X3_hasStretch_27 rfl ?_
                                  exact E_iret at_X3_hasStretch_31 rfl
                                refine E_callV (v := some (.int (nI 1))) (As := [.ref (49 + 2 * a1k), .int (nI a3k), .int (nI a5k)]) (r0 := []) (cs2 := (ww im lf s d k ls rf rz ra rn rq lt m1 m2 m3 m4 bd fc hd sz el s g fm hm so si sh ce ca td wa kp la bf oo bo pw ow tr)) at_X5_copy_106 rfl rfl (Nat.le_of_ble_eq_true rfl) rfl (ab_rvOf (w_shv (j := a1k) (by omega) u1 u2) rfl) e8 (by decide) rfl ?_
                                refine E_if (t := 124) (b := false) at_X5_copy_109 rfl (by decide) ?_
                                refine E_aload at_X5_copy_112 rfl ?_
                                refine E_iload at_X5_copy_114 rfl ?_
                                refine E_iload at_X5_copy_116 rfl ?_
                                have e9 : Ev ab_Z0 1 36 [.ref (49 + 2 * a2k), .int (nI a4k), .int (nI a5k)] (ww im lf s d k ls rf rz ra rn rq lt m1 m2 m3 m4 bd fc hd sz el s g fm hm so si sh ce ca td wa kp la bf oo bo pw ow tr) (some (.int (nI 0)), (ww im lf s d k ls rf rz ra rn rq lt m1 m2 m3 m4 bd fc hd sz el s g fm hm so si sh ce ca td wa kp la bf oo bo pw ow tr)) := by
                                  refine Ef.in (md := mX3_hasStretch) (L := [some (.ref (49 + 2 * a2k)), some (.int (nI a4k)), some (.int (nI a5k))]) rfl (Nat.le_of_ble_eq_true rfl) rfl ?_
                                  refine E_iload_n at_X3_hasStretch_0 rfl ?_
                                  refine E_if (t := 30) (b := false) at_X3_hasStretch_1 rfl ((cn_lt (nI_toInt (by omega)) (by decide : (0 : Int32).toInt = 0)).trans (decide_eq_false (by omega))) ?_
                                  refine E_iload_n at_X3_hasStretch_4 rfl ?_
                                  refine E_aload_n at_X3_hasStretch_5 rfl ?_
                                  refine E_getfield (v := .int (nI (si.getD a2k 0))) at_X3_hasStretch_6 (w_shv (j := a2k) (by omega) u21 u22) rfl (by decide) rfl ?_
                                  refine E_ic (t := 30) (b := false) at_X3_hasStretch_9 rfl ((cn_gt (nI_toInt (by omega)) (nI_toInt (by omega))).trans (decide_eq_false (by omega))) ?_
                                  refine E_iload_n at_X3_hasStretch_12 rfl ?_
                                  refine E_if (t := 30) (b := false) at_X3_hasStretch_13 rfl ((cn_lt (nI_toInt (by omega)) (by decide : (0 : Int32).toInt = 0)).trans (decide_eq_false (by omega))) ?_
                                  refine E_iload_n at_X3_hasStretch_16 rfl ?_
                                  refine E_aload_n at_X3_hasStretch_17 rfl ?_
                                  refine E_getfield (v := .int (nI (si.getD a2k 0))) at_X3_hasStretch_18 (w_shv (j := a2k) (by omega) u21 u22) rfl (by decide) rfl ?_
                                  refine E_iload_n at_X3_hasStretch_21 rfl ?_
                                  refine E_isub (z := nI ((si.getD a2k 0) - a4k)) at_X3_hasStretch_22 (pk_sub (by omega)) ?_
                                  refine E_ic (t := 30) (b := true) at_X3_hasStretch_23 rfl ((cn_gt (nI_toInt (by omega)) (nI_toInt (by omega))).trans (decide_eq_true (by omega))) ?_
                                  refine E_iconst (x := nI 0) at_X3_hasStretch_30 (by decide) ?_
                                  exact E_iret at_X3_hasStretch_31 rfl
                                refine E_callV (v := some (.int (nI 0))) (As := [.ref (49 + 2 * a2k), .int (nI a4k), .int (nI a5k)]) (r0 := []) (cs2 := (ww im lf s d k ls rf rz ra rn rq lt m1 m2 m3 m4 bd fc hd sz el s g fm hm so si sh ce ca td wa kp la bf oo bo pw ow tr)) at_X5_copy_118 rfl rfl (Nat.le_of_ble_eq_true rfl) rfl (ab_rvOf (w_shv (j := a2k) (by omega) u21 u22) rfl) e9 (by decide) rfl ?_
                                refine E_if (t := 130) (b := false) at_X5_copy_121 rfl (by decide) ?_
                                refine E_aload_n at_X5_copy_124 rfl ?_
                                refine E_iconst (x := nI 5) at_X5_copy_125 (by decide) ?_
                                refine E_callV (v := some (.int (-5))) (As := [.ref 0, .int (nI 5)]) (r0 := []) (cs2 := (ww im lf s d k ls rf rz ra rn rq lt m1 m2 m3 m4 bd (fc.set 5 ((fc.getD 5 0) + (nI 1))) hd sz el s g fm hm so si sh ce ca td wa kp la bf oo bo pw ow tr)) at_X5_copy_126 rfl rfl (Nat.le_of_ble_eq_true rfl) rfl (ab_rvOf w0 rfl) (L18_X5_refuse (by omega)) (by decide) w_lens ?_
                                exact E_iret at_X5_copy_129 rfl
                              · show Ev ab_Z0 2 137 [.ref 65, .int (nI a1k), .int (nI a2k), .int (nI a3k), .int (nI a4k), .int (nI a5k)] (ww im lf s d k ls rf rz ra rn rq lt m1 m2 m3 m4 bd (fc.set 5 ((fc.getD 5 0) + (nI 1))) hd sz el s g fm hm so si sh ce ca td wa kp la bf oo bo pw ow tr) (some (.int (-5)), (ww im lf s d k ls rf rz ra rn rq lt m1 m2 m3 m4 bd (fc.set 5 ((fc.getD 5 0) + (nI 1))) hd sz el s g (fm.set 5 ((fm.getD 5 0) + (nI 1))) hm so si sh ce ca td wa kp la bf oo bo pw ow tr))
                                refine Ef.in (md := mX6_copy) (L := [some (.ref 65), some (.int (nI a1k)), some (.int (nI a2k)), some (.int (nI a3k)), some (.int (nI a4k)), some (.int (nI a5k)), none]) rfl (Nat.le_of_ble_eq_true rfl) rfl ?_
                                refine E_aload_n at_X6_copy_0 rfl ?_
                                refine E_iload_n at_X6_copy_1 rfl ?_
                                refine E_callV (v := some (.int (nI 1))) (As := [.ref 65, .int (nI a1k)]) (r0 := []) (cs2 := (ww im lf s d k ls rf rz ra rn rq lt m1 m2 m3 m4 bd (fc.set 5 ((fc.getD 5 0) + (nI 1))) hd sz el s g fm hm so si sh ce ca td wa kp la bf oo bo pw ow tr)) at_X6_copy_2 rfl rfl (Nat.le_of_ble_eq_true rfl) rfl (ab_rvOf w65 rfl) (L40_X6_isShelf (by omega) (by omega) (by omega)) (by decide) rfl ?_
                                refine E_if (t := 16) (b := false) at_X6_copy_5 rfl (by decide) ?_
                                refine E_aload_n at_X6_copy_8 rfl ?_
                                refine E_iload_n at_X6_copy_9 rfl ?_
                                refine E_callV (v := some (.int (nI 1))) (As := [.ref 65, .int (nI a2k)]) (r0 := []) (cs2 := (ww im lf s d k ls rf rz ra rn rq lt m1 m2 m3 m4 bd (fc.set 5 ((fc.getD 5 0) + (nI 1))) hd sz el s g fm hm so si sh ce ca td wa kp la bf oo bo pw ow tr)) at_X6_copy_10 rfl rfl (Nat.le_of_ble_eq_true rfl) rfl (ab_rvOf w65 rfl) (L40_X6_isShelf (by omega) (by omega) (by omega)) (by decide) rfl ?_
                                refine E_if (t := 22) (b := true) at_X6_copy_13 rfl (by decide) ?_
                                refine E_aload_n at_X6_copy_22 rfl ?_
                                refine E_getfield (v := .ref 76) at_X6_copy_23 w65 rfl (by decide) rfl ?_
                                refine E_iload_n at_X6_copy_26 rfl ?_
                                refine E_ialN (l := hm) (v := hm.getD a1k 0) at_X6_copy_27 w76 (by omega) (by omega) rfl ?_
                                refine E_iconst (x := nI 2) at_X6_copy_28 (by decide) ?_
                                refine E_ic (t := 77) (b := false) at_X6_copy_29 rfl ((cn_eq (nI_toInt (by omega)) (nI_toInt (by omega))).trans (decide_eq_false (by omega))) ?_
                                refine E_aload_n at_X6_copy_32 rfl ?_
                                refine E_getfield (v := .ref 76) at_X6_copy_33 w65 rfl (by decide) rfl ?_
                                refine E_iload_n at_X6_copy_36 rfl ?_
                                refine E_ialN (l := hm) (v := hm.getD a2k 0) at_X6_copy_37 w76 (by omega) (by omega) rfl ?_
                                refine E_iconst (x := nI 2) at_X6_copy_38 (by decide) ?_
                                refine E_ic (t := 77) (b := false) at_X6_copy_39 rfl ((cn_eq (nI_toInt (by omega)) (nI_toInt (by omega))).trans (decide_eq_false (by omega))) ?_
                                refine E_aload_n at_X6_copy_42 rfl ?_
                                refine E_getfield (v := .ref 76) at_X6_copy_43 w65 rfl (by decide) rfl ?_
                                refine E_iload_n at_X6_copy_46 rfl ?_
                                refine E_ialN (l := hm) (v := hm.getD a1k 0) at_X6_copy_47 w76 (by omega) (by omega) rfl ?_
                                refine E_iconst (x := nI 1) at_X6_copy_48 (by decide) ?_
                                refine E_ic (t := 84) (b := false) at_X6_copy_49 rfl ((cn_ne (nI_toInt (by omega)) (nI_toInt (by omega))).trans (decide_eq_false (by omega))) ?_
                                refine E_aload_n at_X6_copy_52 rfl ?_
                                refine E_getfield (v := .ref 76) at_X6_copy_53 w65 rfl (by decide) rfl ?_
                                refine E_iload_n at_X6_copy_56 rfl ?_
                                refine E_ialN (l := hm) (v := hm.getD a2k 0) at_X6_copy_57 w76 (by omega) (by omega) rfl ?_
                                refine E_iconst (x := nI 1) at_X6_copy_58 (by decide) ?_
                                refine E_ic (t := 84) (b := false) at_X6_copy_59 rfl ((cn_ne (nI_toInt (by omega)) (nI_toInt (by omega))).trans (decide_eq_false (by omega))) ?_
                                refine E_aload_n at_X6_copy_62 rfl ?_
                                refine E_getfield (v := .ref 77) at_X6_copy_63 w65 rfl (by decide) rfl ?_
                                refine E_iload_n at_X6_copy_66 rfl ?_
                                refine E_ialN (l := so) (v := so.getD a1k 0) at_X6_copy_67 w77 (by omega) (by omega) rfl ?_
                                refine E_aload_n at_X6_copy_68 rfl ?_
                                refine E_getfield (v := .ref 77) at_X6_copy_69 w65 rfl (by decide) rfl ?_
                                refine E_iload_n at_X6_copy_72 rfl ?_
                                refine E_ialN (l := so) (v := so.getD a2k 0) at_X6_copy_73 w77 (by omega) (by omega) rfl ?_
                                refine E_ic (t := 84) (b := true) at_X6_copy_74 rfl ((cn_eq (nI_toInt (by omega)) (nI_toInt (by omega))).trans (decide_eq_true (by omega))) ?_
                                refine E_aload_n at_X6_copy_84 rfl ?_
                                refine E_getfield (v := .ref 76) at_X6_copy_85 w65 rfl (by decide) rfl ?_
                                refine E_iload_n at_X6_copy_88 rfl ?_
                                refine E_ialN (l := hm) (v := hm.getD a1k 0) at_X6_copy_89 w76 (by omega) (by omega) rfl ?_
                                refine E_if (t := 102) (b := false) at_X6_copy_90 rfl ((cn_eq (nI_toInt (by omega)) (by decide : (0 : Int32).toInt = 0)).trans (decide_eq_false (by omega))) ?_
                                refine E_aload_n at_X6_copy_93 rfl ?_
                                refine E_getfield (v := .ref 76) at_X6_copy_94 w65 rfl (by decide) rfl ?_
                                refine E_iload_n at_X6_copy_97 rfl ?_
                                refine E_ialN (l := hm) (v := hm.getD a2k 0) at_X6_copy_98 w76 (by omega) (by omega) rfl ?_
                                refine E_if (t := 109) (b := true) at_X6_copy_99 rfl ((cn_ne (nI_toInt (by omega)) (by decide : (0 : Int32).toInt = 0)).trans (decide_eq_true (by omega))) ?_
                                refine E_iload at_X6_copy_109 rfl ?_
                                refine E_if (t := 121) (b := true) at_X6_copy_111 rfl ((cn_ge (nI_toInt (by omega)) (by decide : (0 : Int32).toInt = 0)).trans (decide_eq_true (by omega))) ?_
                                refine E_iload_n at_X6_copy_121 rfl ?_
                                refine E_if (t := 157) (b := false) at_X6_copy_122 rfl ((cn_lt (nI_toInt (by omega)) (by decide : (0 : Int32).toInt = 0)).trans (decide_eq_false (by omega))) ?_
                                refine E_iload at_X6_copy_125 rfl ?_
                                refine E_if (t := 157) (b := false) at_X6_copy_127 rfl ((cn_lt (nI_toInt (by omega)) (by decide : (0 : Int32).toInt = 0)).trans (decide_eq_false (by omega))) ?_
                                refine E_iload_n at_X6_copy_130 rfl ?_
                                refine E_aload_n at_X6_copy_131 rfl ?_
                                refine E_getfield (v := .ref 78) at_X6_copy_132 w65 rfl (by decide) rfl ?_
                                refine E_iload_n at_X6_copy_135 rfl ?_
                                refine E_ialN (l := si) (v := si.getD a1k 0) at_X6_copy_136 w78 (by omega) (by omega) rfl ?_
                                refine E_iload at_X6_copy_137 rfl ?_
                                refine E_isub (z := nI ((si.getD a1k 0) - a5k)) at_X6_copy_139 (pk_sub (by omega)) ?_
                                refine E_ic (t := 157) (b := false) at_X6_copy_140 rfl ((cn_gt (nI_toInt (by omega)) (nI_toInt (by omega))).trans (decide_eq_false (by omega))) ?_
                                refine E_iload rfl rfl ?_
                                refine E_aload_n rfl rfl ?_
                                refine E_getfield (v := .ref 78) rfl w65 rfl (by decide) rfl ?_
                                refine E_iload_n rfl rfl ?_
                                refine E_ialN (l := si) (v := si.getD a2k 0) rfl w78 (by omega) (by omega) rfl ?_
                                refine E_iload rfl rfl ?_
                                refine E_isub (z := nI (si.getD a2k 0) - nI a5k) rfl rfl ?_
                                refine E_ic (t := 164) (b := false) rfl rfl ((cn_le (nI_toInt (by omega)) (ab_subI (by omega) (by omega))).trans (decide_eq_false (by omega))) ?_
                                refine E_aload_n at_X6_copy_157 rfl ?_
                                refine E_bipush (x := (-5)) at_X6_copy_158 (by decide) ?_
                                refine E_callV (v := some (.int (-5))) (As := [.ref 65, .int (-5)]) (r0 := []) (cs2 := (ww im lf s d k ls rf rz ra rn rq lt m1 m2 m3 m4 bd (fc.set 5 ((fc.getD 5 0) + (nI 1))) hd sz el s g (fm.set 5 ((fm.getD 5 0) + (nI 1))) hm so si sh ce ca td wa kp la bf oo bo pw ow tr)) at_X6_copy_160 rfl rfl (Nat.le_of_ble_eq_true rfl) rfl (ab_rvOf w65 rfl) (L19_X6_no (by omega)) (by decide) w_lens ?_
                                exact E_iret at_X6_copy_163 rfl
                              · exact ⟨I, rfl, hf, iQ, iM, iT, iS, l_el, (lr.1), (lr.2.1), (lr.2.2.1), (by simp only [List.length_set]; exact (lr.2.2.2.1)), (by simp only [List.length_set]; exact (lr.2.2.2.2.1)), (lr.2.2.2.2.2.1), (lr.2.2.2.2.2.2.1), (lr.2.2.2.2.2.2.2.1), (lr.2.2.2.2.2.2.2.2.1), (lr.2.2.2.2.2.2.2.2.2.1), (lr.2.2.2.2.2.2.2.2.2.2.1), (lr.2.2.2.2.2.2.2.2.2.2.2.1), (lr.2.2.2.2.2.2.2.2.2.2.2.2.1), (lr.2.2.2.2.2.2.2.2.2.2.2.2.2.1), (lr.2.2.2.2.2.2.2.2.2.2.2.2.2.2.1), (lr.2.2.2.2.2.2.2.2.2.2.2.2.2.2.2.1), (lr.2.2.2.2.2.2.2.2.2.2.2.2.2.2.2.2.1), (lr.2.2.2.2.2.2.2.2.2.2.2.2.2.2.2.2.2.1), (lr.2.2.2.2.2.2.2.2.2.2.2.2.2.2.2.2.2.2.1), (lr.2.2.2.2.2.2.2.2.2.2.2.2.2.2.2.2.2.2.2.1), (lr.2.2.2.2.2.2.2.2.2.2.2.2.2.2.2.2.2.2.2.2)⟩
                            · have := l_el a1k (by omega)
                              have := l_el a2k (by omega)
                              refine ⟨(nI 1), (im, lf, s, d, k, ls, rf, rz, ra, rn, rq, lt, m1, m2, m3, m4, bd, fc, hd, sz, (fUp el a2k (ab_cp (el a1k) (el a2k) a3k a4k a5k)), s, g, fm, hm, so, si, sh, ce, ca, td, wa, kp, la, bf, oo, bo, pw, ow, tr), (im, lf, s, d, k, ls, rf, rz, ra, rn, rq, lt, m1, m2, m3, m4, bd, fc, hd, sz, (fUp el a2k (ab_cp (el a1k) (el a2k) a3k a4k a5k)), s, g, fm, hm, so, si, sh, (cpB ce (cpA ca ce (160 * a1k + a3k) a5k) (160 * a2k + a4k) a5k), (cpA ca ce (160 * a1k + a3k) a5k), td, wa, kp, la, bf, oo, bo, pw, ow, tr), ?_, ?_, ?_⟩
                              · show Ev ab_Z0 3 78 [.ref 0, .int (nI a1k), .int (nI a2k), .int (nI a3k), .int (nI a4k), .int (nI a5k)] (ww im lf s d k ls rf rz ra rn rq lt m1 m2 m3 m4 bd fc hd sz el s g fm hm so si sh ce ca td wa kp la bf oo bo pw ow tr) (some (.int (nI 1)), (ww im lf s d k ls rf rz ra rn rq lt m1 m2 m3 m4 bd fc hd sz (fUp el a2k (ab_cp (el a1k) (el a2k) a3k a4k a5k)) s g fm hm so si sh ce ca td wa kp la bf oo bo pw ow tr))
                                refine Ef.in (md := mX5_copy) (L := [some (.ref 0), some (.int (nI a1k)), some (.int (nI a2k)), some (.int (nI a3k)), some (.int (nI a4k)), some (.int (nI a5k)), none, none]) rfl (Nat.le_of_ble_eq_true rfl) rfl ?_
                                refine E_iload_n at_X5_copy_0 rfl ?_
                                refine E_callS (v := some (.int (nI 1))) (As := [.int (nI a1k)]) (r0 := []) (cs2 := (ww im lf s d k ls rf rz ra rn rq lt m1 m2 m3 m4 bd fc hd sz el s g fm hm so si sh ce ca td wa kp la bf oo bo pw ow tr)) at_X5_copy_1 rfl rfl (Nat.le_of_ble_eq_true rfl) rfl (L39_X5_isShelf (by omega) (by omega) (by omega)) (by decide) rfl ?_
                                refine E_if (t := 14) (b := false) at_X5_copy_4 rfl (by decide) ?_
                                refine E_iload_n at_X5_copy_7 rfl ?_
                                refine E_callS (v := some (.int (nI 1))) (As := [.int (nI a2k)]) (r0 := []) (cs2 := (ww im lf s d k ls rf rz ra rn rq lt m1 m2 m3 m4 bd fc hd sz el s g fm hm so si sh ce ca td wa kp la bf oo bo pw ow tr)) at_X5_copy_8 rfl rfl (Nat.le_of_ble_eq_true rfl) rfl (L39_X5_isShelf (by omega) (by omega) (by omega)) (by decide) rfl ?_
                                refine E_if (t := 20) (b := true) at_X5_copy_11 rfl (by decide) ?_
                                refine E_aload_n at_X5_copy_20 rfl ?_
                                refine E_getfield (v := .ref 31) at_X5_copy_21 w0 rfl (by decide) rfl ?_
                                refine E_iload_n at_X5_copy_24 rfl ?_
                                refine E_aalN (b := 49 + 2 * a1k) at_X5_copy_25 w31 (by omega) (w_shs (by omega)) ?_
                                refine E_astore (L2 := [some (.ref 0), some (.int (nI a1k)), some (.int (nI a2k)), some (.int (nI a3k)), some (.int (nI a4k)), some (.int (nI a5k)), some (.ref (49 + 2 * a1k)), none]) at_X5_copy_26 rfl ?_
                                refine E_aload_n at_X5_copy_28 rfl ?_
                                refine E_getfield (v := .ref 31) at_X5_copy_29 w0 rfl (by decide) rfl ?_
                                refine E_iload_n at_X5_copy_32 rfl ?_
                                refine E_aalN (b := 49 + 2 * a2k) at_X5_copy_33 w31 (by omega) (w_shs (by omega)) ?_
                                refine E_astore (L2 := [some (.ref 0), some (.int (nI a1k)), some (.int (nI a2k)), some (.int (nI a3k)), some (.int (nI a4k)), some (.int (nI a5k)), some (.ref (49 + 2 * a1k)), some (.ref (49 + 2 * a2k))]) at_X5_copy_34 rfl ?_
                                refine E_aload at_X5_copy_36 rfl ?_
                                have e1 : Ev ab_Z0 1 33 [.ref (49 + 2 * a1k)] (ww im lf s d k ls rf rz ra rn rq lt m1 m2 m3 m4 bd fc hd sz el s g fm hm so si sh ce ca td wa kp la bf oo bo pw ow tr) (some (.int (nI 0)), (ww im lf s d k ls rf rz ra rn rq lt m1 m2 m3 m4 bd fc hd sz el s g fm hm so si sh ce ca td wa kp la bf oo bo pw ow tr)) := by
                                  refine Ef.in (md := mX3_isOtherThanRow) (L := [some (.ref (49 + 2 * a1k))]) rfl (Nat.le_of_ble_eq_true rfl) rfl ?_
                                  refine E_aload_n at_X3_isOtherThanRow_0 rfl ?_
                                  refine E_getfield (v := .int (nI (100 + so.getD a1k 0))) at_X3_isOtherThanRow_1 (w_shv (j := a1k) (by omega) u1 u2) rfl (by decide) rfl ?_
                                  refine E_if (t := 20) (b := false) at_X3_isOtherThanRow_4 rfl ((cn_lt (nI_toInt (by omega)) (by decide : (0 : Int32).toInt = 0)).trans (decide_eq_false (by omega))) ?_
                                  refine E_aload_n at_X3_isOtherThanRow_7 rfl ?_
                                  refine E_getfield (v := .int (nI (100 + so.getD a1k 0))) at_X3_isOtherThanRow_8 (w_shv (j := a1k) (by omega) u1 u2) rfl (by decide) rfl ?_
                                  refine E_bipush (x := nI 100) at_X3_isOtherThanRow_11 (by decide) ?_
                                  refine E_ic (t := 20) (b := true) at_X3_isOtherThanRow_13 rfl ((cn_ge (nI_toInt (by omega)) (nI_toInt (by omega))).trans (decide_eq_true (by omega))) ?_
                                  refine E_iconst (x := nI 0) at_X3_isOtherThanRow_20 (by decide) ?_
                                  exact E_iret at_X3_isOtherThanRow_21 rfl
                                refine E_callV (v := some (.int (nI 0))) (As := [.ref (49 + 2 * a1k)]) (r0 := []) (cs2 := (ww im lf s d k ls rf rz ra rn rq lt m1 m2 m3 m4 bd fc hd sz el s g fm hm so si sh ce ca td wa kp la bf oo bo pw ow tr)) at_X5_copy_38 rfl rfl (Nat.le_of_ble_eq_true rfl) rfl (ab_rvOf (w_shv (j := a1k) (by omega) u1 u2) rfl) e1 (by decide) rfl ?_
                                refine E_if (t := 62) (b := false) at_X5_copy_41 rfl (by decide) ?_
                                refine E_aload at_X5_copy_44 rfl ?_
                                have e2 : Ev ab_Z0 1 33 [.ref (49 + 2 * a2k)] (ww im lf s d k ls rf rz ra rn rq lt m1 m2 m3 m4 bd fc hd sz el s g fm hm so si sh ce ca td wa kp la bf oo bo pw ow tr) (some (.int (nI 0)), (ww im lf s d k ls rf rz ra rn rq lt m1 m2 m3 m4 bd fc hd sz el s g fm hm so si sh ce ca td wa kp la bf oo bo pw ow tr)) := by
                                  refine Ef.in (md := mX3_isOtherThanRow) (L := [some (.ref (49 + 2 * a2k))]) rfl (Nat.le_of_ble_eq_true rfl) rfl ?_
                                  refine E_aload_n at_X3_isOtherThanRow_0 rfl ?_
                                  refine E_getfield (v := .int (nI (100 + so.getD a2k 0))) at_X3_isOtherThanRow_1 (w_shv (j := a2k) (by omega) u21 u22) rfl (by decide) rfl ?_
                                  refine E_if (t := 20) (b := false) at_X3_isOtherThanRow_4 rfl ((cn_lt (nI_toInt (by omega)) (by decide : (0 : Int32).toInt = 0)).trans (decide_eq_false (by omega))) ?_
                                  refine E_aload_n at_X3_isOtherThanRow_7 rfl ?_
                                  refine E_getfield (v := .int (nI (100 + so.getD a2k 0))) at_X3_isOtherThanRow_8 (w_shv (j := a2k) (by omega) u21 u22) rfl (by decide) rfl ?_
                                  refine E_bipush (x := nI 100) at_X3_isOtherThanRow_11 (by decide) ?_
                                  refine E_ic (t := 20) (b := true) at_X3_isOtherThanRow_13 rfl ((cn_ge (nI_toInt (by omega)) (nI_toInt (by omega))).trans (decide_eq_true (by omega))) ?_
                                  refine E_iconst (x := nI 0) at_X3_isOtherThanRow_20 (by decide) ?_
                                  exact E_iret at_X3_isOtherThanRow_21 rfl
                                refine E_callV (v := some (.int (nI 0))) (As := [.ref (49 + 2 * a2k)]) (r0 := []) (cs2 := (ww im lf s d k ls rf rz ra rn rq lt m1 m2 m3 m4 bd fc hd sz el s g fm hm so si sh ce ca td wa kp la bf oo bo pw ow tr)) at_X5_copy_46 rfl rfl (Nat.le_of_ble_eq_true rfl) rfl (ab_rvOf (w_shv (j := a2k) (by omega) u21 u22) rfl) e2 (by decide) rfl ?_
                                refine E_if (t := 62) (b := false) at_X5_copy_49 rfl (by decide) ?_
                                refine E_aload at_X5_copy_52 rfl ?_
                                refine E_aload at_X5_copy_54 rfl ?_
                                have e5 : Ev ab_Z0 2 34 [.ref (49 + 2 * a1k), .ref (49 + 2 * a2k)] (ww im lf s d k ls rf rz ra rn rq lt m1 m2 m3 m4 bd fc hd sz el s g fm hm so si sh ce ca td wa kp la bf oo bo pw ow tr) (some (.int (nI 0)), (ww im lf s d k ls rf rz ra rn rq lt m1 m2 m3 m4 bd fc hd sz el s g fm hm so si sh ce ca td wa kp la bf oo bo pw ow tr)) := by
                                  refine Ef.in (md := mX3_isOfOtherSort) (L := [some (.ref (49 + 2 * a1k)), some (.ref (49 + 2 * a2k))]) rfl (Nat.le_of_ble_eq_true rfl) rfl ?_
                                  refine E_aload_n at_X3_isOfOtherSort_0 rfl ?_
                                  have e3 : Ev ab_Z0 1 32 [.ref (49 + 2 * a1k)] (ww im lf s d k ls rf rz ra rn rq lt m1 m2 m3 m4 bd fc hd sz el s g fm hm so si sh ce ca td wa kp la bf oo bo pw ow tr) (some (.int (nI 0)), (ww im lf s d k ls rf rz ra rn rq lt m1 m2 m3 m4 bd fc hd sz el s g fm hm so si sh ce ca td wa kp la bf oo bo pw ow tr)) := by
                                    refine Ef.in (md := mX3_isEmpty) (L := [some (.ref (49 + 2 * a1k))]) rfl (Nat.le_of_ble_eq_true rfl) rfl ?_
                                    refine E_aload_n at_X3_isEmpty_0 rfl ?_
                                    refine E_getfield (v := .int (nI (100 + so.getD a1k 0))) at_X3_isEmpty_1 (w_shv (j := a1k) (by omega) u1 u2) rfl (by decide) rfl ?_
                                    refine E_iconst (x := (-1)) at_X3_isEmpty_4 (by decide) ?_
                                    refine E_ic (t := 12) (b := true) at_X3_isEmpty_5 rfl ((cn_ne (nI_toInt (by omega)) (by decide : (-1 : Int32).toInt = -1)).trans (decide_eq_true (by omega))) ?_
                                    refine E_iconst (x := nI 0) at_X3_isEmpty_12 (by decide) ?_
                                    exact E_iret at_X3_isEmpty_13 rfl
                                  refine E_callV (v := some (.int (nI 0))) (As := [.ref (49 + 2 * a1k)]) (r0 := []) (cs2 := (ww im lf s d k ls rf rz ra rn rq lt m1 m2 m3 m4 bd fc hd sz el s g fm hm so si sh ce ca td wa kp la bf oo bo pw ow tr)) at_X3_isOfOtherSort_1 rfl rfl (Nat.le_of_ble_eq_true rfl) rfl (ab_rvOf (w_shv (j := a1k) (by omega) u1 u2) rfl) e3 (by decide) rfl ?_
                                  refine E_if (t := 29) (b := false) at_X3_isOfOtherSort_4 rfl (by decide) ?_
                                  refine E_aload_n at_X3_isOfOtherSort_7 rfl ?_
                                  have e4 : Ev ab_Z0 1 32 [.ref (49 + 2 * a2k)] (ww im lf s d k ls rf rz ra rn rq lt m1 m2 m3 m4 bd fc hd sz el s g fm hm so si sh ce ca td wa kp la bf oo bo pw ow tr) (some (.int (nI 0)), (ww im lf s d k ls rf rz ra rn rq lt m1 m2 m3 m4 bd fc hd sz el s g fm hm so si sh ce ca td wa kp la bf oo bo pw ow tr)) := by
                                    refine Ef.in (md := mX3_isEmpty) (L := [some (.ref (49 + 2 * a2k))]) rfl (Nat.le_of_ble_eq_true rfl) rfl ?_
                                    refine E_aload_n at_X3_isEmpty_0 rfl ?_
                                    refine E_getfield (v := .int (nI (100 + so.getD a2k 0))) at_X3_isEmpty_1 (w_shv (j := a2k) (by omega) u21 u22) rfl (by decide) rfl ?_
                                    refine E_iconst (x := (-1)) at_X3_isEmpty_4 (by decide) ?_
                                    refine E_ic (t := 12) (b := true) at_X3_isEmpty_5 rfl ((cn_ne (nI_toInt (by omega)) (by decide : (-1 : Int32).toInt = -1)).trans (decide_eq_true (by omega))) ?_
                                    refine E_iconst (x := nI 0) at_X3_isEmpty_12 (by decide) ?_
                                    exact E_iret at_X3_isEmpty_13 rfl
                                  refine E_callV (v := some (.int (nI 0))) (As := [.ref (49 + 2 * a2k)]) (r0 := []) (cs2 := (ww im lf s d k ls rf rz ra rn rq lt m1 m2 m3 m4 bd fc hd sz el s g fm hm so si sh ce ca td wa kp la bf oo bo pw ow tr)) at_X3_isOfOtherSort_8 rfl rfl (Nat.le_of_ble_eq_true rfl) rfl (ab_rvOf (w_shv (j := a2k) (by omega) u21 u22) rfl) e4 (by decide) rfl ?_
                                  refine E_if (t := 29) (b := false) at_X3_isOfOtherSort_11 rfl (by decide) ?_
                                  refine E_aload_n at_X3_isOfOtherSort_14 rfl ?_
                                  refine E_getfield (v := .int (nI (100 + so.getD a1k 0))) at_X3_isOfOtherSort_15 (w_shv (j := a1k) (by omega) u1 u2) rfl (by decide) rfl ?_
                                  refine E_aload_n at_X3_isOfOtherSort_18 rfl ?_
                                  refine E_getfield (v := .int (nI (100 + so.getD a2k 0))) at_X3_isOfOtherSort_19 (w_shv (j := a2k) (by omega) u21 u22) rfl (by decide) rfl ?_
                                  refine E_ic (t := 29) (b := true) at_X3_isOfOtherSort_22 rfl ((cn_eq (nI_toInt (by omega)) (nI_toInt (by omega))).trans (decide_eq_true (by omega))) ?_
                                  refine E_iconst (x := nI 0) at_X3_isOfOtherSort_29 (by decide) ?_
                                  exact E_iret at_X3_isOfOtherSort_30 rfl
                                refine E_callV (v := some (.int (nI 0))) (As := [.ref (49 + 2 * a1k), .ref (49 + 2 * a2k)]) (r0 := []) (cs2 := (ww im lf s d k ls rf rz ra rn rq lt m1 m2 m3 m4 bd fc hd sz el s g fm hm so si sh ce ca td wa kp la bf oo bo pw ow tr)) at_X5_copy_56 rfl rfl (Nat.le_of_ble_eq_true rfl) rfl (ab_rvOf (w_shv (j := a1k) (by omega) u1 u2) rfl) e5 (by decide) rfl ?_
                                refine E_if (t := 68) (b := true) at_X5_copy_59 rfl (by decide) ?_
                                refine E_aload at_X5_copy_68 rfl ?_
                                have e6 : Ev ab_Z0 1 32 [.ref (49 + 2 * a1k)] (ww im lf s d k ls rf rz ra rn rq lt m1 m2 m3 m4 bd fc hd sz el s g fm hm so si sh ce ca td wa kp la bf oo bo pw ow tr) (some (.int (nI 0)), (ww im lf s d k ls rf rz ra rn rq lt m1 m2 m3 m4 bd fc hd sz el s g fm hm so si sh ce ca td wa kp la bf oo bo pw ow tr)) := by
                                  refine Ef.in (md := mX3_isEmpty) (L := [some (.ref (49 + 2 * a1k))]) rfl (Nat.le_of_ble_eq_true rfl) rfl ?_
                                  refine E_aload_n at_X3_isEmpty_0 rfl ?_
                                  refine E_getfield (v := .int (nI (100 + so.getD a1k 0))) at_X3_isEmpty_1 (w_shv (j := a1k) (by omega) u1 u2) rfl (by decide) rfl ?_
                                  refine E_iconst (x := (-1)) at_X3_isEmpty_4 (by decide) ?_
                                  refine E_ic (t := 12) (b := true) at_X3_isEmpty_5 rfl ((cn_ne (nI_toInt (by omega)) (by decide : (-1 : Int32).toInt = -1)).trans (decide_eq_true (by omega))) ?_
                                  refine E_iconst (x := nI 0) at_X3_isEmpty_12 (by decide) ?_
                                  exact E_iret at_X3_isEmpty_13 rfl
                                refine E_callV (v := some (.int (nI 0))) (As := [.ref (49 + 2 * a1k)]) (r0 := []) (cs2 := (ww im lf s d k ls rf rz ra rn rq lt m1 m2 m3 m4 bd fc hd sz el s g fm hm so si sh ce ca td wa kp la bf oo bo pw ow tr)) at_X5_copy_70 rfl rfl (Nat.le_of_ble_eq_true rfl) rfl (ab_rvOf (w_shv (j := a1k) (by omega) u1 u2) rfl) e6 (by decide) rfl ?_
                                refine E_if (t := 84) (b := false) at_X5_copy_73 rfl (by decide) ?_
                                refine E_aload at_X5_copy_76 rfl ?_
                                have e7 : Ev ab_Z0 1 32 [.ref (49 + 2 * a2k)] (ww im lf s d k ls rf rz ra rn rq lt m1 m2 m3 m4 bd fc hd sz el s g fm hm so si sh ce ca td wa kp la bf oo bo pw ow tr) (some (.int (nI 0)), (ww im lf s d k ls rf rz ra rn rq lt m1 m2 m3 m4 bd fc hd sz el s g fm hm so si sh ce ca td wa kp la bf oo bo pw ow tr)) := by
                                  refine Ef.in (md := mX3_isEmpty) (L := [some (.ref (49 + 2 * a2k))]) rfl (Nat.le_of_ble_eq_true rfl) rfl ?_
                                  refine E_aload_n at_X3_isEmpty_0 rfl ?_
                                  refine E_getfield (v := .int (nI (100 + so.getD a2k 0))) at_X3_isEmpty_1 (w_shv (j := a2k) (by omega) u21 u22) rfl (by decide) rfl ?_
                                  refine E_iconst (x := (-1)) at_X3_isEmpty_4 (by decide) ?_
                                  refine E_ic (t := 12) (b := true) at_X3_isEmpty_5 rfl ((cn_ne (nI_toInt (by omega)) (by decide : (-1 : Int32).toInt = -1)).trans (decide_eq_true (by omega))) ?_
                                  refine E_iconst (x := nI 0) at_X3_isEmpty_12 (by decide) ?_
                                  exact E_iret at_X3_isEmpty_13 rfl
                                refine E_callV (v := some (.int (nI 0))) (As := [.ref (49 + 2 * a2k)]) (r0 := []) (cs2 := (ww im lf s d k ls rf rz ra rn rq lt m1 m2 m3 m4 bd fc hd sz el s g fm hm so si sh ce ca td wa kp la bf oo bo pw ow tr)) at_X5_copy_78 rfl rfl (Nat.le_of_ble_eq_true rfl) rfl (ab_rvOf (w_shv (j := a2k) (by omega) u21 u22) rfl) e7 (by decide) rfl ?_
                                refine E_if (t := 90) (b := true) at_X5_copy_81 rfl (by decide) ?_
                                refine E_iload at_X5_copy_90 rfl ?_
                                refine E_if (t := 101) (b := true) at_X5_copy_92 rfl ((cn_ge (nI_toInt (by omega)) (by decide : (0 : Int32).toInt = 0)).trans (decide_eq_true (by omega))) ?_
                                refine E_aload at_X5_copy_101 rfl ?_
                                refine E_iload_n at_X5_copy_103 rfl ?_
                                refine E_iload at_X5_copy_104 rfl ?_
                                have e8 : Ev ab_Z0 1 36 [.ref (49 + 2 * a1k), .int (nI a3k), .int (nI a5k)] (ww im lf s d k ls rf rz ra rn rq lt m1 m2 m3 m4 bd fc hd sz el s g fm hm so si sh ce ca td wa kp la bf oo bo pw ow tr) (some (.int (nI 1)), (ww im lf s d k ls rf rz ra rn rq lt m1 m2 m3 m4 bd fc hd sz el s g fm hm so si sh ce ca td wa kp la bf oo bo pw ow tr)) := by
                                  refine Ef.in (md := mX3_hasStretch) (L := [some (.ref (49 + 2 * a1k)), some (.int (nI a3k)), some (.int (nI a5k))]) rfl (Nat.le_of_ble_eq_true rfl) rfl ?_
                                  refine E_iload_n at_X3_hasStretch_0 rfl ?_
                                  refine E_if (t := 30) (b := false) at_X3_hasStretch_1 rfl ((cn_lt (nI_toInt (by omega)) (by decide : (0 : Int32).toInt = 0)).trans (decide_eq_false (by omega))) ?_
                                  refine E_iload_n at_X3_hasStretch_4 rfl ?_
                                  refine E_aload_n at_X3_hasStretch_5 rfl ?_
                                  refine E_getfield (v := .int (nI (si.getD a1k 0))) at_X3_hasStretch_6 (w_shv (j := a1k) (by omega) u1 u2) rfl (by decide) rfl ?_
                                  refine E_ic (t := 30) (b := false) at_X3_hasStretch_9 rfl ((cn_gt (nI_toInt (by omega)) (nI_toInt (by omega))).trans (decide_eq_false (by omega))) ?_
                                  refine E_iload_n at_X3_hasStretch_12 rfl ?_
                                  refine E_if (t := 30) (b := false) at_X3_hasStretch_13 rfl ((cn_lt (nI_toInt (by omega)) (by decide : (0 : Int32).toInt = 0)).trans (decide_eq_false (by omega))) ?_
                                  refine E_iload_n at_X3_hasStretch_16 rfl ?_
                                  refine E_aload_n at_X3_hasStretch_17 rfl ?_
                                  refine E_getfield (v := .int (nI (si.getD a1k 0))) at_X3_hasStretch_18 (w_shv (j := a1k) (by omega) u1 u2) rfl (by decide) rfl ?_
                                  refine E_iload_n at_X3_hasStretch_21 rfl ?_
                                  refine E_isub (z := nI ((si.getD a1k 0) - a3k)) at_X3_hasStretch_22 (pk_sub (by omega)) ?_
                                  refine E_ic (t := 30) (b := false) at_X3_hasStretch_23 rfl ((cn_gt (nI_toInt (by omega)) (nI_toInt (by omega))).trans (decide_eq_false (by omega))) ?_
                                  refine E_iconst (x := nI 1) at_X3_hasStretch_26 (by decide) ?_
                                  refine E_goto (t := 31) at_X3_hasStretch_27 rfl ?_
                                  exact E_iret at_X3_hasStretch_31 rfl
                                refine E_callV (v := some (.int (nI 1))) (As := [.ref (49 + 2 * a1k), .int (nI a3k), .int (nI a5k)]) (r0 := []) (cs2 := (ww im lf s d k ls rf rz ra rn rq lt m1 m2 m3 m4 bd fc hd sz el s g fm hm so si sh ce ca td wa kp la bf oo bo pw ow tr)) at_X5_copy_106 rfl rfl (Nat.le_of_ble_eq_true rfl) rfl (ab_rvOf (w_shv (j := a1k) (by omega) u1 u2) rfl) e8 (by decide) rfl ?_
                                refine E_if (t := 124) (b := false) at_X5_copy_109 rfl (by decide) ?_
                                refine E_aload at_X5_copy_112 rfl ?_
                                refine E_iload at_X5_copy_114 rfl ?_
                                refine E_iload at_X5_copy_116 rfl ?_
                                have e9 : Ev ab_Z0 1 36 [.ref (49 + 2 * a2k), .int (nI a4k), .int (nI a5k)] (ww im lf s d k ls rf rz ra rn rq lt m1 m2 m3 m4 bd fc hd sz el s g fm hm so si sh ce ca td wa kp la bf oo bo pw ow tr) (some (.int (nI 1)), (ww im lf s d k ls rf rz ra rn rq lt m1 m2 m3 m4 bd fc hd sz el s g fm hm so si sh ce ca td wa kp la bf oo bo pw ow tr)) := by
                                  refine Ef.in (md := mX3_hasStretch) (L := [some (.ref (49 + 2 * a2k)), some (.int (nI a4k)), some (.int (nI a5k))]) rfl (Nat.le_of_ble_eq_true rfl) rfl ?_
                                  refine E_iload_n at_X3_hasStretch_0 rfl ?_
                                  refine E_if (t := 30) (b := false) at_X3_hasStretch_1 rfl ((cn_lt (nI_toInt (by omega)) (by decide : (0 : Int32).toInt = 0)).trans (decide_eq_false (by omega))) ?_
                                  refine E_iload_n at_X3_hasStretch_4 rfl ?_
                                  refine E_aload_n at_X3_hasStretch_5 rfl ?_
                                  refine E_getfield (v := .int (nI (si.getD a2k 0))) at_X3_hasStretch_6 (w_shv (j := a2k) (by omega) u21 u22) rfl (by decide) rfl ?_
                                  refine E_ic (t := 30) (b := false) at_X3_hasStretch_9 rfl ((cn_gt (nI_toInt (by omega)) (nI_toInt (by omega))).trans (decide_eq_false (by omega))) ?_
                                  refine E_iload_n at_X3_hasStretch_12 rfl ?_
                                  refine E_if (t := 30) (b := false) at_X3_hasStretch_13 rfl ((cn_lt (nI_toInt (by omega)) (by decide : (0 : Int32).toInt = 0)).trans (decide_eq_false (by omega))) ?_
                                  refine E_iload_n at_X3_hasStretch_16 rfl ?_
                                  refine E_aload_n at_X3_hasStretch_17 rfl ?_
                                  refine E_getfield (v := .int (nI (si.getD a2k 0))) at_X3_hasStretch_18 (w_shv (j := a2k) (by omega) u21 u22) rfl (by decide) rfl ?_
                                  refine E_iload_n at_X3_hasStretch_21 rfl ?_
                                  refine E_isub (z := nI ((si.getD a2k 0) - a4k)) at_X3_hasStretch_22 (pk_sub (by omega)) ?_
                                  refine E_ic (t := 30) (b := false) at_X3_hasStretch_23 rfl ((cn_gt (nI_toInt (by omega)) (nI_toInt (by omega))).trans (decide_eq_false (by omega))) ?_
                                  refine E_iconst (x := nI 1) at_X3_hasStretch_26 (by decide) ?_
                                  refine E_goto (t := 31) at_X3_hasStretch_27 rfl ?_
                                  exact E_iret at_X3_hasStretch_31 rfl
                                refine E_callV (v := some (.int (nI 1))) (As := [.ref (49 + 2 * a2k), .int (nI a4k), .int (nI a5k)]) (r0 := []) (cs2 := (ww im lf s d k ls rf rz ra rn rq lt m1 m2 m3 m4 bd fc hd sz el s g fm hm so si sh ce ca td wa kp la bf oo bo pw ow tr)) at_X5_copy_118 rfl rfl (Nat.le_of_ble_eq_true rfl) rfl (ab_rvOf (w_shv (j := a2k) (by omega) u21 u22) rfl) e9 (by decide) rfl ?_
                                refine E_if (t := 130) (b := true) at_X5_copy_121 rfl (by decide) ?_
                                refine E_aload rfl rfl ?_
                                refine E_aload rfl rfl ?_
                                refine E_iload_n rfl rfl ?_
                                refine E_iload rfl rfl ?_
                                refine E_iload rfl rfl ?_
                                have e12 : Ev ab_Z0 2 39 [.ref (49 + 2 * a1k), .ref (49 + 2 * a2k), .int (nI a3k), .int (nI a4k), .int (nI a5k)] (ww im lf s d k ls rf rz ra rn rq lt m1 m2 m3 m4 bd fc hd sz el s g fm hm so si sh ce ca td wa kp la bf oo bo pw ow tr) (none, (ww im lf s d k ls rf rz ra rn rq lt m1 m2 m3 m4 bd fc hd sz (fUp el a2k (ab_cp (el a1k) (el a2k) a3k a4k a5k)) s g fm hm so si sh ce ca td wa kp la bf oo bo pw ow tr)) := by
                                  refine Ef.in (md := mX3_copyTo) (L := [some (.ref (49 + 2 * a1k)), some (.ref (49 + 2 * a2k)), some (.int (nI a3k)), some (.int (nI a4k)), some (.int (nI a5k))]) rfl (Nat.le_of_ble_eq_true rfl) rfl ?_
                                  refine E_aload_n rfl rfl ?_
                                  refine E_iload_n rfl rfl ?_
                                  refine E_iload rfl rfl ?_
                                  have e10 : Ev ab_Z0 1 36 [.ref (49 + 2 * a1k), .int (nI a3k), .int (nI a5k)] (ww im lf s d k ls rf rz ra rn rq lt m1 m2 m3 m4 bd fc hd sz el s g fm hm so si sh ce ca td wa kp la bf oo bo pw ow tr) (some (.int (nI 1)), (ww im lf s d k ls rf rz ra rn rq lt m1 m2 m3 m4 bd fc hd sz el s g fm hm so si sh ce ca td wa kp la bf oo bo pw ow tr)) := by
                                    refine Ef.in (md := mX3_hasStretch) (L := [some (.ref (49 + 2 * a1k)), some (.int (nI a3k)), some (.int (nI a5k))]) rfl (Nat.le_of_ble_eq_true rfl) rfl ?_
                                    refine E_iload_n at_X3_hasStretch_0 rfl ?_
                                    refine E_if (t := 30) (b := false) at_X3_hasStretch_1 rfl ((cn_lt (nI_toInt (by omega)) (by decide : (0 : Int32).toInt = 0)).trans (decide_eq_false (by omega))) ?_
                                    refine E_iload_n at_X3_hasStretch_4 rfl ?_
                                    refine E_aload_n at_X3_hasStretch_5 rfl ?_
                                    refine E_getfield (v := .int (nI (si.getD a1k 0))) at_X3_hasStretch_6 (w_shv (j := a1k) (by omega) u1 u2) rfl (by decide) rfl ?_
                                    refine E_ic (t := 30) (b := false) at_X3_hasStretch_9 rfl ((cn_gt (nI_toInt (by omega)) (nI_toInt (by omega))).trans (decide_eq_false (by omega))) ?_
                                    refine E_iload_n at_X3_hasStretch_12 rfl ?_
                                    refine E_if (t := 30) (b := false) at_X3_hasStretch_13 rfl ((cn_lt (nI_toInt (by omega)) (by decide : (0 : Int32).toInt = 0)).trans (decide_eq_false (by omega))) ?_
                                    refine E_iload_n at_X3_hasStretch_16 rfl ?_
                                    refine E_aload_n at_X3_hasStretch_17 rfl ?_
                                    refine E_getfield (v := .int (nI (si.getD a1k 0))) at_X3_hasStretch_18 (w_shv (j := a1k) (by omega) u1 u2) rfl (by decide) rfl ?_
                                    refine E_iload_n at_X3_hasStretch_21 rfl ?_
                                    refine E_isub (z := nI ((si.getD a1k 0) - a3k)) at_X3_hasStretch_22 (pk_sub (by omega)) ?_
                                    refine E_ic (t := 30) (b := false) at_X3_hasStretch_23 rfl ((cn_gt (nI_toInt (by omega)) (nI_toInt (by omega))).trans (decide_eq_false (by omega))) ?_
                                    refine E_iconst (x := nI 1) at_X3_hasStretch_26 (by decide) ?_
                                    refine E_goto (t := 31) at_X3_hasStretch_27 rfl ?_
                                    exact E_iret at_X3_hasStretch_31 rfl
                                  refine E_callV (v := some (.int (nI 1))) (As := [.ref (49 + 2 * a1k), .int (nI a3k), .int (nI a5k)]) (r0 := []) (cs2 := (ww im lf s d k ls rf rz ra rn rq lt m1 m2 m3 m4 bd fc hd sz el s g fm hm so si sh ce ca td wa kp la bf oo bo pw ow tr)) rfl rfl rfl (Nat.le_of_ble_eq_true rfl) rfl (ab_rvOf (w_shv (j := a1k) (by omega) u1 u2) rfl) e10 (by decide) rfl ?_
                                  refine E_if (t := 35) (b := false) rfl rfl (by decide) ?_
                                  refine E_aload_n rfl rfl ?_
                                  refine E_iload_n rfl rfl ?_
                                  refine E_iload rfl rfl ?_
                                  have e11 : Ev ab_Z0 1 36 [.ref (49 + 2 * a2k), .int (nI a4k), .int (nI a5k)] (ww im lf s d k ls rf rz ra rn rq lt m1 m2 m3 m4 bd fc hd sz el s g fm hm so si sh ce ca td wa kp la bf oo bo pw ow tr) (some (.int (nI 1)), (ww im lf s d k ls rf rz ra rn rq lt m1 m2 m3 m4 bd fc hd sz el s g fm hm so si sh ce ca td wa kp la bf oo bo pw ow tr)) := by
                                    refine Ef.in (md := mX3_hasStretch) (L := [some (.ref (49 + 2 * a2k)), some (.int (nI a4k)), some (.int (nI a5k))]) rfl (Nat.le_of_ble_eq_true rfl) rfl ?_
                                    refine E_iload_n at_X3_hasStretch_0 rfl ?_
                                    refine E_if (t := 30) (b := false) at_X3_hasStretch_1 rfl ((cn_lt (nI_toInt (by omega)) (by decide : (0 : Int32).toInt = 0)).trans (decide_eq_false (by omega))) ?_
                                    refine E_iload_n at_X3_hasStretch_4 rfl ?_
                                    refine E_aload_n at_X3_hasStretch_5 rfl ?_
                                    refine E_getfield (v := .int (nI (si.getD a2k 0))) at_X3_hasStretch_6 (w_shv (j := a2k) (by omega) u21 u22) rfl (by decide) rfl ?_
                                    refine E_ic (t := 30) (b := false) at_X3_hasStretch_9 rfl ((cn_gt (nI_toInt (by omega)) (nI_toInt (by omega))).trans (decide_eq_false (by omega))) ?_
                                    refine E_iload_n at_X3_hasStretch_12 rfl ?_
                                    refine E_if (t := 30) (b := false) at_X3_hasStretch_13 rfl ((cn_lt (nI_toInt (by omega)) (by decide : (0 : Int32).toInt = 0)).trans (decide_eq_false (by omega))) ?_
                                    refine E_iload_n at_X3_hasStretch_16 rfl ?_
                                    refine E_aload_n at_X3_hasStretch_17 rfl ?_
                                    refine E_getfield (v := .int (nI (si.getD a2k 0))) at_X3_hasStretch_18 (w_shv (j := a2k) (by omega) u21 u22) rfl (by decide) rfl ?_
                                    refine E_iload_n at_X3_hasStretch_21 rfl ?_
                                    refine E_isub (z := nI ((si.getD a2k 0) - a4k)) at_X3_hasStretch_22 (pk_sub (by omega)) ?_
                                    refine E_ic (t := 30) (b := false) at_X3_hasStretch_23 rfl ((cn_gt (nI_toInt (by omega)) (nI_toInt (by omega))).trans (decide_eq_false (by omega))) ?_
                                    refine E_iconst (x := nI 1) at_X3_hasStretch_26 (by decide) ?_
                                    refine E_goto (t := 31) at_X3_hasStretch_27 rfl ?_
                                    exact E_iret at_X3_hasStretch_31 rfl
                                  refine E_callV (v := some (.int (nI 1))) (As := [.ref (49 + 2 * a2k), .int (nI a4k), .int (nI a5k)]) (r0 := []) (cs2 := (ww im lf s d k ls rf rz ra rn rq lt m1 m2 m3 m4 bd fc hd sz el s g fm hm so si sh ce ca td wa kp la bf oo bo pw ow tr)) rfl rfl rfl (Nat.le_of_ble_eq_true rfl) rfl (ab_rvOf (w_shv (j := a2k) (by omega) u21 u22) rfl) e11 (by decide) rfl ?_
                                  refine E_if (t := 35) (b := false) rfl rfl (by decide) ?_
                                  refine E_aload_n rfl rfl ?_
                                  refine E_getfield (v := .ref (50 + 2 * a1k)) rfl (w_shv (j := a1k) (by omega) u1 u2) rfl (by decide) rfl ?_
                                  refine E_iload_n rfl rfl ?_
                                  refine E_aload_n rfl rfl ?_
                                  refine E_getfield (v := .ref (50 + 2 * a2k)) rfl (w_shv (j := a2k) (by omega) u21 u22) rfl (by decide) rfl ?_
                                  refine E_iload_n rfl rfl ?_
                                  refine E_iload rfl rfl ?_
                                  refine E_cpL (cs2 := (ww im lf s d k ls rf rz ra rn rq lt m1 m2 m3 m4 bd fc hd sz (fUp el a2k (ab_cp (el a1k) (el a2k) a3k a4k a5k)) s g fm hm so si sh ce ca td wa kp la bf oo bo pw ow tr)) rfl (w_el (j := a1k) (by omega)) (w_el (j := a2k) (by omega)) ⟨⟨⟨by omega, by omega, by omega⟩, Nat.le_of_ble_eq_true rfl⟩, by omega, by omega⟩ (w_elput (by omega)) ?_
                                  exact E_vret rfl rfl
                                refine E_callV (v := none) (As := [.ref (49 + 2 * a1k), .ref (49 + 2 * a2k), .int (nI a3k), .int (nI a4k), .int (nI a5k)]) (r0 := []) (cs2 := (ww im lf s d k ls rf rz ra rn rq lt m1 m2 m3 m4 bd fc hd sz (fUp el a2k (ab_cp (el a1k) (el a2k) a3k a4k a5k)) s g fm hm so si sh ce ca td wa kp la bf oo bo pw ow tr)) rfl rfl rfl (Nat.le_of_ble_eq_true rfl) rfl (ab_rvOf (w_shv (j := a1k) (by omega) u1 u2) rfl) e12 (by decide) w_lens ?_
                                refine E_iconst (x := nI 1) rfl (by decide) ?_
                                exact E_iret rfl rfl
                              · show Ev ab_Z0 2 137 [.ref 65, .int (nI a1k), .int (nI a2k), .int (nI a3k), .int (nI a4k), .int (nI a5k)] (ww im lf s d k ls rf rz ra rn rq lt m1 m2 m3 m4 bd fc hd sz (fUp el a2k (ab_cp (el a1k) (el a2k) a3k a4k a5k)) s g fm hm so si sh ce ca td wa kp la bf oo bo pw ow tr) (some (.int (nI 1)), (ww im lf s d k ls rf rz ra rn rq lt m1 m2 m3 m4 bd fc hd sz (fUp el a2k (ab_cp (el a1k) (el a2k) a3k a4k a5k)) s g fm hm so si sh (cpB ce (cpA ca ce (160 * a1k + a3k) a5k) (160 * a2k + a4k) a5k) (cpA ca ce (160 * a1k + a3k) a5k) td wa kp la bf oo bo pw ow tr))
                                refine Ef.in (md := mX6_copy) (L := [some (.ref 65), some (.int (nI a1k)), some (.int (nI a2k)), some (.int (nI a3k)), some (.int (nI a4k)), some (.int (nI a5k)), none]) rfl (Nat.le_of_ble_eq_true rfl) rfl ?_
                                refine E_aload_n rfl rfl ?_
                                refine E_iload_n rfl rfl ?_
                                refine E_callV (v := some (.int (nI 1))) (As := [.ref 65, .int (nI a1k)]) (r0 := []) (cs2 := (ww im lf s d k ls rf rz ra rn rq lt m1 m2 m3 m4 bd fc hd sz (fUp el a2k (ab_cp (el a1k) (el a2k) a3k a4k a5k)) s g fm hm so si sh ce ca td wa kp la bf oo bo pw ow tr)) rfl rfl rfl (Nat.le_of_ble_eq_true rfl) rfl (ab_rvOf w65 rfl) (L40_X6_isShelf (by omega) (by omega) (by omega)) (by decide) rfl ?_
                                refine E_if (t := 16) (b := false) rfl rfl (by decide) ?_
                                refine E_aload_n rfl rfl ?_
                                refine E_iload_n rfl rfl ?_
                                refine E_callV (v := some (.int (nI 1))) (As := [.ref 65, .int (nI a2k)]) (r0 := []) (cs2 := (ww im lf s d k ls rf rz ra rn rq lt m1 m2 m3 m4 bd fc hd sz (fUp el a2k (ab_cp (el a1k) (el a2k) a3k a4k a5k)) s g fm hm so si sh ce ca td wa kp la bf oo bo pw ow tr)) rfl rfl rfl (Nat.le_of_ble_eq_true rfl) rfl (ab_rvOf w65 rfl) (L40_X6_isShelf (by omega) (by omega) (by omega)) (by decide) rfl ?_
                                refine E_if (t := 22) (b := true) rfl rfl (by decide) ?_
                                refine E_aload_n rfl rfl ?_
                                refine E_getfield (v := .ref 76) rfl w65 rfl (by decide) rfl ?_
                                refine E_iload_n rfl rfl ?_
                                refine E_ialN (l := hm) (v := hm.getD a1k 0) rfl w76 (by omega) (by omega) rfl ?_
                                refine E_iconst (x := nI 2) rfl (by decide) ?_
                                refine E_ic (t := 77) (b := false) rfl rfl ((cn_eq (nI_toInt (by omega)) (nI_toInt (by omega))).trans (decide_eq_false (by omega))) ?_
                                refine E_aload_n rfl rfl ?_
                                refine E_getfield (v := .ref 76) rfl w65 rfl (by decide) rfl ?_
                                refine E_iload_n rfl rfl ?_
                                refine E_ialN (l := hm) (v := hm.getD a2k 0) rfl w76 (by omega) (by omega) rfl ?_
                                refine E_iconst (x := nI 2) rfl (by decide) ?_
                                refine E_ic (t := 77) (b := false) rfl rfl ((cn_eq (nI_toInt (by omega)) (nI_toInt (by omega))).trans (decide_eq_false (by omega))) ?_
                                refine E_aload_n rfl rfl ?_
                                refine E_getfield (v := .ref 76) rfl w65 rfl (by decide) rfl ?_
                                refine E_iload_n rfl rfl ?_
                                refine E_ialN (l := hm) (v := hm.getD a1k 0) rfl w76 (by omega) (by omega) rfl ?_
                                refine E_iconst (x := nI 1) rfl (by decide) ?_
                                refine E_ic (t := 84) (b := false) rfl rfl ((cn_ne (nI_toInt (by omega)) (nI_toInt (by omega))).trans (decide_eq_false (by omega))) ?_
                                refine E_aload_n rfl rfl ?_
                                refine E_getfield (v := .ref 76) rfl w65 rfl (by decide) rfl ?_
                                refine E_iload_n rfl rfl ?_
                                refine E_ialN (l := hm) (v := hm.getD a2k 0) rfl w76 (by omega) (by omega) rfl ?_
                                refine E_iconst (x := nI 1) rfl (by decide) ?_
                                refine E_ic (t := 84) (b := false) rfl rfl ((cn_ne (nI_toInt (by omega)) (nI_toInt (by omega))).trans (decide_eq_false (by omega))) ?_
                                refine E_aload_n rfl rfl ?_
                                refine E_getfield (v := .ref 77) rfl w65 rfl (by decide) rfl ?_
                                refine E_iload_n rfl rfl ?_
                                refine E_ialN (l := so) (v := so.getD a1k 0) rfl w77 (by omega) (by omega) rfl ?_
                                refine E_aload_n rfl rfl ?_
                                refine E_getfield (v := .ref 77) rfl w65 rfl (by decide) rfl ?_
                                refine E_iload_n rfl rfl ?_
                                refine E_ialN (l := so) (v := so.getD a2k 0) rfl w77 (by omega) (by omega) rfl ?_
                                refine E_ic (t := 84) (b := true) rfl rfl ((cn_eq (nI_toInt (by omega)) (nI_toInt (by omega))).trans (decide_eq_true (by omega))) ?_
                                refine E_aload_n rfl rfl ?_
                                refine E_getfield (v := .ref 76) rfl w65 rfl (by decide) rfl ?_
                                refine E_iload_n rfl rfl ?_
                                refine E_ialN (l := hm) (v := hm.getD a1k 0) rfl w76 (by omega) (by omega) rfl ?_
                                refine E_if (t := 102) (b := false) rfl rfl ((cn_eq (nI_toInt (by omega)) (by decide : (0 : Int32).toInt = 0)).trans (decide_eq_false (by omega))) ?_
                                refine E_aload_n rfl rfl ?_
                                refine E_getfield (v := .ref 76) rfl w65 rfl (by decide) rfl ?_
                                refine E_iload_n rfl rfl ?_
                                refine E_ialN (l := hm) (v := hm.getD a2k 0) rfl w76 (by omega) (by omega) rfl ?_
                                refine E_if (t := 109) (b := true) rfl rfl ((cn_ne (nI_toInt (by omega)) (by decide : (0 : Int32).toInt = 0)).trans (decide_eq_true (by omega))) ?_
                                refine E_iload rfl rfl ?_
                                refine E_if (t := 121) (b := true) rfl rfl ((cn_ge (nI_toInt (by omega)) (by decide : (0 : Int32).toInt = 0)).trans (decide_eq_true (by omega))) ?_
                                refine E_iload_n rfl rfl ?_
                                refine E_if (t := 157) (b := false) rfl rfl ((cn_lt (nI_toInt (by omega)) (by decide : (0 : Int32).toInt = 0)).trans (decide_eq_false (by omega))) ?_
                                refine E_iload rfl rfl ?_
                                refine E_if (t := 157) (b := false) rfl rfl ((cn_lt (nI_toInt (by omega)) (by decide : (0 : Int32).toInt = 0)).trans (decide_eq_false (by omega))) ?_
                                refine E_iload_n rfl rfl ?_
                                refine E_aload_n rfl rfl ?_
                                refine E_getfield (v := .ref 78) rfl w65 rfl (by decide) rfl ?_
                                refine E_iload_n rfl rfl ?_
                                refine E_ialN (l := si) (v := si.getD a1k 0) rfl w78 (by omega) (by omega) rfl ?_
                                refine E_iload rfl rfl ?_
                                refine E_isub (z := nI ((si.getD a1k 0) - a5k)) rfl (pk_sub (by omega)) ?_
                                refine E_ic (t := 157) (b := false) rfl rfl ((cn_gt (nI_toInt (by omega)) (nI_toInt (by omega))).trans (decide_eq_false (by omega))) ?_
                                refine E_iload rfl rfl ?_
                                refine E_aload_n rfl rfl ?_
                                refine E_getfield (v := .ref 78) rfl w65 rfl (by decide) rfl ?_
                                refine E_iload_n rfl rfl ?_
                                refine E_ialN (l := si) (v := si.getD a2k 0) rfl w78 (by omega) (by omega) rfl ?_
                                refine E_iload rfl rfl ?_
                                refine E_isub (z := nI ((si.getD a2k 0) - a5k)) rfl (pk_sub (by omega)) ?_
                                refine E_ic (t := 164) (b := true) rfl rfl ((cn_le (nI_toInt (by omega)) (nI_toInt (by omega))).trans (decide_eq_true (by omega))) ?_
                                refine E_iconst (x := nI 0) rfl (by decide) ?_
                                refine E_istore (L2 := [some (.ref 65), some (.int (nI a1k)), some (.int (nI a2k)), some (.int (nI a3k)), some (.int (nI a4k)), some (.int (nI a5k)), some (.int (nI 0))]) rfl rfl ?_
                                refine mcpA_l (by omega) (by omega) (by omega) (by omega) (lr.2.2.2.2.2.2.2.2.2.1) (lr.2.2.2.2.2.2.2.2.2.2.1) ?_ a5k 0 (Nat.zero_add _)
                                refine E_iconst (x := nI 0) rfl (by decide) ?_
                                refine E_istore (L2 := [some (.ref 65), some (.int (nI a1k)), some (.int (nI a2k)), some (.int (nI a3k)), some (.int (nI a4k)), some (.int (nI a5k)), some (.int (nI 0))]) rfl rfl ?_
                                refine mcpB_l (by omega) (by omega) (by omega) (by omega) (lr.2.2.2.2.2.2.2.2.2.1) ((cpA_len _ _ _ _).trans (lr.2.2.2.2.2.2.2.2.2.2.1)) ?_ a5k 0 (Nat.zero_add _)
                                refine E_iconst (x := nI 1) rfl (by decide) ?_
                                exact E_iret rfl rfl
                              · exact ⟨I, rfl, hf, iQ, iM, iT, (iS_copy iS (by omega) (by omega) (lr.2.2.2.2.2.2.2.2.2.2.1) (l_el _ (by omega)) (l_el _ (by omega)) (lr.2.2.2.2.2.2.2.2.2.1) (by omega) (by omega) (by omega)), (l_elU l_el (by first | exact List.length_replicate | (simp only [List.length_set]; exact l_el _ (by omega)) | (rw [ab_cpl (by omega) (by omega)]; exact l_el _ (by omega)))), (lr.1), (lr.2.1), (lr.2.2.1), (lr.2.2.2.1), (lr.2.2.2.2.1), (lr.2.2.2.2.2.1), (lr.2.2.2.2.2.2.1), (lr.2.2.2.2.2.2.2.1), (lr.2.2.2.2.2.2.2.2.1), ((cpB_len _ _ _ _).trans (lr.2.2.2.2.2.2.2.2.2.1)), ((cpA_len _ _ _ _).trans (lr.2.2.2.2.2.2.2.2.2.2.1)), (lr.2.2.2.2.2.2.2.2.2.2.2.1), (lr.2.2.2.2.2.2.2.2.2.2.2.2.1), (lr.2.2.2.2.2.2.2.2.2.2.2.2.2.1), (lr.2.2.2.2.2.2.2.2.2.2.2.2.2.2.1), (lr.2.2.2.2.2.2.2.2.2.2.2.2.2.2.2.1), (lr.2.2.2.2.2.2.2.2.2.2.2.2.2.2.2.2.1), (lr.2.2.2.2.2.2.2.2.2.2.2.2.2.2.2.2.2.1), (lr.2.2.2.2.2.2.2.2.2.2.2.2.2.2.2.2.2.2.1), (lr.2.2.2.2.2.2.2.2.2.2.2.2.2.2.2.2.2.2.2.1), (lr.2.2.2.2.2.2.2.2.2.2.2.2.2.2.2.2.2.2.2.2)⟩
                        · refine ⟨(-5), (im, lf, s, d, k, ls, rf, rz, ra, rn, rq, lt, m1, m2, m3, m4, bd, (fc.set 5 ((fc.getD 5 0) + (nI 1))), hd, sz, el, s, g, fm, hm, so, si, sh, ce, ca, td, wa, kp, la, bf, oo, bo, pw, ow, tr), (im, lf, s, d, k, ls, rf, rz, ra, rn, rq, lt, m1, m2, m3, m4, bd, (fc.set 5 ((fc.getD 5 0) + (nI 1))), hd, sz, el, s, g, (fm.set 5 ((fm.getD 5 0) + (nI 1))), hm, so, si, sh, ce, ca, td, wa, kp, la, bf, oo, bo, pw, ow, tr), ?_, ?_, ?_⟩
                          · show Ev ab_Z0 3 78 [.ref 0, .int (nI a1k), .int (nI a2k), .int (nI a3k), .int a4, .int (nI a5k)] (ww im lf s d k ls rf rz ra rn rq lt m1 m2 m3 m4 bd fc hd sz el s g fm hm so si sh ce ca td wa kp la bf oo bo pw ow tr) (some (.int (-5)), (ww im lf s d k ls rf rz ra rn rq lt m1 m2 m3 m4 bd (fc.set 5 ((fc.getD 5 0) + (nI 1))) hd sz el s g fm hm so si sh ce ca td wa kp la bf oo bo pw ow tr))
                            refine Ef.in (md := mX5_copy) (L := [some (.ref 0), some (.int (nI a1k)), some (.int (nI a2k)), some (.int (nI a3k)), some (.int a4), some (.int (nI a5k)), none, none]) rfl (Nat.le_of_ble_eq_true rfl) rfl ?_
                            refine E_iload_n at_X5_copy_0 rfl ?_
                            refine E_callS (v := some (.int (nI 1))) (As := [.int (nI a1k)]) (r0 := []) (cs2 := (ww im lf s d k ls rf rz ra rn rq lt m1 m2 m3 m4 bd fc hd sz el s g fm hm so si sh ce ca td wa kp la bf oo bo pw ow tr)) at_X5_copy_1 rfl rfl (Nat.le_of_ble_eq_true rfl) rfl (L39_X5_isShelf (by omega) (by omega) (by omega)) (by decide) rfl ?_
                            refine E_if (t := 14) (b := false) at_X5_copy_4 rfl (by decide) ?_
                            refine E_iload_n at_X5_copy_7 rfl ?_
                            refine E_callS (v := some (.int (nI 1))) (As := [.int (nI a2k)]) (r0 := []) (cs2 := (ww im lf s d k ls rf rz ra rn rq lt m1 m2 m3 m4 bd fc hd sz el s g fm hm so si sh ce ca td wa kp la bf oo bo pw ow tr)) at_X5_copy_8 rfl rfl (Nat.le_of_ble_eq_true rfl) rfl (L39_X5_isShelf (by omega) (by omega) (by omega)) (by decide) rfl ?_
                            refine E_if (t := 20) (b := true) at_X5_copy_11 rfl (by decide) ?_
                            refine E_aload_n at_X5_copy_20 rfl ?_
                            refine E_getfield (v := .ref 31) at_X5_copy_21 w0 rfl (by decide) rfl ?_
                            refine E_iload_n at_X5_copy_24 rfl ?_
                            refine E_aalN (b := 49 + 2 * a1k) at_X5_copy_25 w31 (by omega) (w_shs (by omega)) ?_
                            refine E_astore (L2 := [some (.ref 0), some (.int (nI a1k)), some (.int (nI a2k)), some (.int (nI a3k)), some (.int a4), some (.int (nI a5k)), some (.ref (49 + 2 * a1k)), none]) at_X5_copy_26 rfl ?_
                            refine E_aload_n at_X5_copy_28 rfl ?_
                            refine E_getfield (v := .ref 31) at_X5_copy_29 w0 rfl (by decide) rfl ?_
                            refine E_iload_n at_X5_copy_32 rfl ?_
                            refine E_aalN (b := 49 + 2 * a2k) at_X5_copy_33 w31 (by omega) (w_shs (by omega)) ?_
                            refine E_astore (L2 := [some (.ref 0), some (.int (nI a1k)), some (.int (nI a2k)), some (.int (nI a3k)), some (.int a4), some (.int (nI a5k)), some (.ref (49 + 2 * a1k)), some (.ref (49 + 2 * a2k))]) at_X5_copy_34 rfl ?_
                            refine E_aload at_X5_copy_36 rfl ?_
                            have e1 : Ev ab_Z0 1 33 [.ref (49 + 2 * a1k)] (ww im lf s d k ls rf rz ra rn rq lt m1 m2 m3 m4 bd fc hd sz el s g fm hm so si sh ce ca td wa kp la bf oo bo pw ow tr) (some (.int (nI 0)), (ww im lf s d k ls rf rz ra rn rq lt m1 m2 m3 m4 bd fc hd sz el s g fm hm so si sh ce ca td wa kp la bf oo bo pw ow tr)) := by
                              refine Ef.in (md := mX3_isOtherThanRow) (L := [some (.ref (49 + 2 * a1k))]) rfl (Nat.le_of_ble_eq_true rfl) rfl ?_
                              refine E_aload_n at_X3_isOtherThanRow_0 rfl ?_
                              refine E_getfield (v := .int (nI (100 + so.getD a1k 0))) at_X3_isOtherThanRow_1 (w_shv (j := a1k) (by omega) u1 u2) rfl (by decide) rfl ?_
                              refine E_if (t := 20) (b := false) at_X3_isOtherThanRow_4 rfl ((cn_lt (nI_toInt (by omega)) (by decide : (0 : Int32).toInt = 0)).trans (decide_eq_false (by omega))) ?_
                              refine E_aload_n at_X3_isOtherThanRow_7 rfl ?_
                              refine E_getfield (v := .int (nI (100 + so.getD a1k 0))) at_X3_isOtherThanRow_8 (w_shv (j := a1k) (by omega) u1 u2) rfl (by decide) rfl ?_
                              refine E_bipush (x := nI 100) at_X3_isOtherThanRow_11 (by decide) ?_
                              refine E_ic (t := 20) (b := true) at_X3_isOtherThanRow_13 rfl ((cn_ge (nI_toInt (by omega)) (nI_toInt (by omega))).trans (decide_eq_true (by omega))) ?_
                              refine E_iconst (x := nI 0) at_X3_isOtherThanRow_20 (by decide) ?_
                              exact E_iret at_X3_isOtherThanRow_21 rfl
                            refine E_callV (v := some (.int (nI 0))) (As := [.ref (49 + 2 * a1k)]) (r0 := []) (cs2 := (ww im lf s d k ls rf rz ra rn rq lt m1 m2 m3 m4 bd fc hd sz el s g fm hm so si sh ce ca td wa kp la bf oo bo pw ow tr)) at_X5_copy_38 rfl rfl (Nat.le_of_ble_eq_true rfl) rfl (ab_rvOf (w_shv (j := a1k) (by omega) u1 u2) rfl) e1 (by decide) rfl ?_
                            refine E_if (t := 62) (b := false) at_X5_copy_41 rfl (by decide) ?_
                            refine E_aload at_X5_copy_44 rfl ?_
                            have e2 : Ev ab_Z0 1 33 [.ref (49 + 2 * a2k)] (ww im lf s d k ls rf rz ra rn rq lt m1 m2 m3 m4 bd fc hd sz el s g fm hm so si sh ce ca td wa kp la bf oo bo pw ow tr) (some (.int (nI 0)), (ww im lf s d k ls rf rz ra rn rq lt m1 m2 m3 m4 bd fc hd sz el s g fm hm so si sh ce ca td wa kp la bf oo bo pw ow tr)) := by
                              refine Ef.in (md := mX3_isOtherThanRow) (L := [some (.ref (49 + 2 * a2k))]) rfl (Nat.le_of_ble_eq_true rfl) rfl ?_
                              refine E_aload_n at_X3_isOtherThanRow_0 rfl ?_
                              refine E_getfield (v := .int (nI (100 + so.getD a2k 0))) at_X3_isOtherThanRow_1 (w_shv (j := a2k) (by omega) u21 u22) rfl (by decide) rfl ?_
                              refine E_if (t := 20) (b := false) at_X3_isOtherThanRow_4 rfl ((cn_lt (nI_toInt (by omega)) (by decide : (0 : Int32).toInt = 0)).trans (decide_eq_false (by omega))) ?_
                              refine E_aload_n at_X3_isOtherThanRow_7 rfl ?_
                              refine E_getfield (v := .int (nI (100 + so.getD a2k 0))) at_X3_isOtherThanRow_8 (w_shv (j := a2k) (by omega) u21 u22) rfl (by decide) rfl ?_
                              refine E_bipush (x := nI 100) at_X3_isOtherThanRow_11 (by decide) ?_
                              refine E_ic (t := 20) (b := true) at_X3_isOtherThanRow_13 rfl ((cn_ge (nI_toInt (by omega)) (nI_toInt (by omega))).trans (decide_eq_true (by omega))) ?_
                              refine E_iconst (x := nI 0) at_X3_isOtherThanRow_20 (by decide) ?_
                              exact E_iret at_X3_isOtherThanRow_21 rfl
                            refine E_callV (v := some (.int (nI 0))) (As := [.ref (49 + 2 * a2k)]) (r0 := []) (cs2 := (ww im lf s d k ls rf rz ra rn rq lt m1 m2 m3 m4 bd fc hd sz el s g fm hm so si sh ce ca td wa kp la bf oo bo pw ow tr)) at_X5_copy_46 rfl rfl (Nat.le_of_ble_eq_true rfl) rfl (ab_rvOf (w_shv (j := a2k) (by omega) u21 u22) rfl) e2 (by decide) rfl ?_
                            refine E_if (t := 62) (b := false) at_X5_copy_49 rfl (by decide) ?_
                            refine E_aload at_X5_copy_52 rfl ?_
                            refine E_aload at_X5_copy_54 rfl ?_
                            have e5 : Ev ab_Z0 2 34 [.ref (49 + 2 * a1k), .ref (49 + 2 * a2k)] (ww im lf s d k ls rf rz ra rn rq lt m1 m2 m3 m4 bd fc hd sz el s g fm hm so si sh ce ca td wa kp la bf oo bo pw ow tr) (some (.int (nI 0)), (ww im lf s d k ls rf rz ra rn rq lt m1 m2 m3 m4 bd fc hd sz el s g fm hm so si sh ce ca td wa kp la bf oo bo pw ow tr)) := by
                              refine Ef.in (md := mX3_isOfOtherSort) (L := [some (.ref (49 + 2 * a1k)), some (.ref (49 + 2 * a2k))]) rfl (Nat.le_of_ble_eq_true rfl) rfl ?_
                              refine E_aload_n at_X3_isOfOtherSort_0 rfl ?_
                              have e3 : Ev ab_Z0 1 32 [.ref (49 + 2 * a1k)] (ww im lf s d k ls rf rz ra rn rq lt m1 m2 m3 m4 bd fc hd sz el s g fm hm so si sh ce ca td wa kp la bf oo bo pw ow tr) (some (.int (nI 0)), (ww im lf s d k ls rf rz ra rn rq lt m1 m2 m3 m4 bd fc hd sz el s g fm hm so si sh ce ca td wa kp la bf oo bo pw ow tr)) := by
                                refine Ef.in (md := mX3_isEmpty) (L := [some (.ref (49 + 2 * a1k))]) rfl (Nat.le_of_ble_eq_true rfl) rfl ?_
                                refine E_aload_n at_X3_isEmpty_0 rfl ?_
                                refine E_getfield (v := .int (nI (100 + so.getD a1k 0))) at_X3_isEmpty_1 (w_shv (j := a1k) (by omega) u1 u2) rfl (by decide) rfl ?_
                                refine E_iconst (x := (-1)) at_X3_isEmpty_4 (by decide) ?_
                                refine E_ic (t := 12) (b := true) at_X3_isEmpty_5 rfl ((cn_ne (nI_toInt (by omega)) (by decide : (-1 : Int32).toInt = -1)).trans (decide_eq_true (by omega))) ?_
                                refine E_iconst (x := nI 0) at_X3_isEmpty_12 (by decide) ?_
                                exact E_iret at_X3_isEmpty_13 rfl
                              refine E_callV (v := some (.int (nI 0))) (As := [.ref (49 + 2 * a1k)]) (r0 := []) (cs2 := (ww im lf s d k ls rf rz ra rn rq lt m1 m2 m3 m4 bd fc hd sz el s g fm hm so si sh ce ca td wa kp la bf oo bo pw ow tr)) at_X3_isOfOtherSort_1 rfl rfl (Nat.le_of_ble_eq_true rfl) rfl (ab_rvOf (w_shv (j := a1k) (by omega) u1 u2) rfl) e3 (by decide) rfl ?_
                              refine E_if (t := 29) (b := false) at_X3_isOfOtherSort_4 rfl (by decide) ?_
                              refine E_aload_n at_X3_isOfOtherSort_7 rfl ?_
                              have e4 : Ev ab_Z0 1 32 [.ref (49 + 2 * a2k)] (ww im lf s d k ls rf rz ra rn rq lt m1 m2 m3 m4 bd fc hd sz el s g fm hm so si sh ce ca td wa kp la bf oo bo pw ow tr) (some (.int (nI 0)), (ww im lf s d k ls rf rz ra rn rq lt m1 m2 m3 m4 bd fc hd sz el s g fm hm so si sh ce ca td wa kp la bf oo bo pw ow tr)) := by
                                refine Ef.in (md := mX3_isEmpty) (L := [some (.ref (49 + 2 * a2k))]) rfl (Nat.le_of_ble_eq_true rfl) rfl ?_
                                refine E_aload_n at_X3_isEmpty_0 rfl ?_
                                refine E_getfield (v := .int (nI (100 + so.getD a2k 0))) at_X3_isEmpty_1 (w_shv (j := a2k) (by omega) u21 u22) rfl (by decide) rfl ?_
                                refine E_iconst (x := (-1)) at_X3_isEmpty_4 (by decide) ?_
                                refine E_ic (t := 12) (b := true) at_X3_isEmpty_5 rfl ((cn_ne (nI_toInt (by omega)) (by decide : (-1 : Int32).toInt = -1)).trans (decide_eq_true (by omega))) ?_
                                refine E_iconst (x := nI 0) at_X3_isEmpty_12 (by decide) ?_
                                exact E_iret at_X3_isEmpty_13 rfl
                              refine E_callV (v := some (.int (nI 0))) (As := [.ref (49 + 2 * a2k)]) (r0 := []) (cs2 := (ww im lf s d k ls rf rz ra rn rq lt m1 m2 m3 m4 bd fc hd sz el s g fm hm so si sh ce ca td wa kp la bf oo bo pw ow tr)) at_X3_isOfOtherSort_8 rfl rfl (Nat.le_of_ble_eq_true rfl) rfl (ab_rvOf (w_shv (j := a2k) (by omega) u21 u22) rfl) e4 (by decide) rfl ?_
                              refine E_if (t := 29) (b := false) at_X3_isOfOtherSort_11 rfl (by decide) ?_
                              refine E_aload_n at_X3_isOfOtherSort_14 rfl ?_
                              refine E_getfield (v := .int (nI (100 + so.getD a1k 0))) at_X3_isOfOtherSort_15 (w_shv (j := a1k) (by omega) u1 u2) rfl (by decide) rfl ?_
                              refine E_aload_n at_X3_isOfOtherSort_18 rfl ?_
                              refine E_getfield (v := .int (nI (100 + so.getD a2k 0))) at_X3_isOfOtherSort_19 (w_shv (j := a2k) (by omega) u21 u22) rfl (by decide) rfl ?_
                              refine E_ic (t := 29) (b := true) at_X3_isOfOtherSort_22 rfl ((cn_eq (nI_toInt (by omega)) (nI_toInt (by omega))).trans (decide_eq_true (by omega))) ?_
                              refine E_iconst (x := nI 0) at_X3_isOfOtherSort_29 (by decide) ?_
                              exact E_iret at_X3_isOfOtherSort_30 rfl
                            refine E_callV (v := some (.int (nI 0))) (As := [.ref (49 + 2 * a1k), .ref (49 + 2 * a2k)]) (r0 := []) (cs2 := (ww im lf s d k ls rf rz ra rn rq lt m1 m2 m3 m4 bd fc hd sz el s g fm hm so si sh ce ca td wa kp la bf oo bo pw ow tr)) at_X5_copy_56 rfl rfl (Nat.le_of_ble_eq_true rfl) rfl (ab_rvOf (w_shv (j := a1k) (by omega) u1 u2) rfl) e5 (by decide) rfl ?_
                            refine E_if (t := 68) (b := true) at_X5_copy_59 rfl (by decide) ?_
                            refine E_aload at_X5_copy_68 rfl ?_
                            have e6 : Ev ab_Z0 1 32 [.ref (49 + 2 * a1k)] (ww im lf s d k ls rf rz ra rn rq lt m1 m2 m3 m4 bd fc hd sz el s g fm hm so si sh ce ca td wa kp la bf oo bo pw ow tr) (some (.int (nI 0)), (ww im lf s d k ls rf rz ra rn rq lt m1 m2 m3 m4 bd fc hd sz el s g fm hm so si sh ce ca td wa kp la bf oo bo pw ow tr)) := by
                              refine Ef.in (md := mX3_isEmpty) (L := [some (.ref (49 + 2 * a1k))]) rfl (Nat.le_of_ble_eq_true rfl) rfl ?_
                              refine E_aload_n at_X3_isEmpty_0 rfl ?_
                              refine E_getfield (v := .int (nI (100 + so.getD a1k 0))) at_X3_isEmpty_1 (w_shv (j := a1k) (by omega) u1 u2) rfl (by decide) rfl ?_
                              refine E_iconst (x := (-1)) at_X3_isEmpty_4 (by decide) ?_
                              refine E_ic (t := 12) (b := true) at_X3_isEmpty_5 rfl ((cn_ne (nI_toInt (by omega)) (by decide : (-1 : Int32).toInt = -1)).trans (decide_eq_true (by omega))) ?_
                              refine E_iconst (x := nI 0) at_X3_isEmpty_12 (by decide) ?_
                              exact E_iret at_X3_isEmpty_13 rfl
                            refine E_callV (v := some (.int (nI 0))) (As := [.ref (49 + 2 * a1k)]) (r0 := []) (cs2 := (ww im lf s d k ls rf rz ra rn rq lt m1 m2 m3 m4 bd fc hd sz el s g fm hm so si sh ce ca td wa kp la bf oo bo pw ow tr)) at_X5_copy_70 rfl rfl (Nat.le_of_ble_eq_true rfl) rfl (ab_rvOf (w_shv (j := a1k) (by omega) u1 u2) rfl) e6 (by decide) rfl ?_
                            refine E_if (t := 84) (b := false) at_X5_copy_73 rfl (by decide) ?_
                            refine E_aload at_X5_copy_76 rfl ?_
                            have e7 : Ev ab_Z0 1 32 [.ref (49 + 2 * a2k)] (ww im lf s d k ls rf rz ra rn rq lt m1 m2 m3 m4 bd fc hd sz el s g fm hm so si sh ce ca td wa kp la bf oo bo pw ow tr) (some (.int (nI 0)), (ww im lf s d k ls rf rz ra rn rq lt m1 m2 m3 m4 bd fc hd sz el s g fm hm so si sh ce ca td wa kp la bf oo bo pw ow tr)) := by
                              refine Ef.in (md := mX3_isEmpty) (L := [some (.ref (49 + 2 * a2k))]) rfl (Nat.le_of_ble_eq_true rfl) rfl ?_
                              refine E_aload_n at_X3_isEmpty_0 rfl ?_
                              refine E_getfield (v := .int (nI (100 + so.getD a2k 0))) at_X3_isEmpty_1 (w_shv (j := a2k) (by omega) u21 u22) rfl (by decide) rfl ?_
                              refine E_iconst (x := (-1)) at_X3_isEmpty_4 (by decide) ?_
                              refine E_ic (t := 12) (b := true) at_X3_isEmpty_5 rfl ((cn_ne (nI_toInt (by omega)) (by decide : (-1 : Int32).toInt = -1)).trans (decide_eq_true (by omega))) ?_
                              refine E_iconst (x := nI 0) at_X3_isEmpty_12 (by decide) ?_
                              exact E_iret at_X3_isEmpty_13 rfl
                            refine E_callV (v := some (.int (nI 0))) (As := [.ref (49 + 2 * a2k)]) (r0 := []) (cs2 := (ww im lf s d k ls rf rz ra rn rq lt m1 m2 m3 m4 bd fc hd sz el s g fm hm so si sh ce ca td wa kp la bf oo bo pw ow tr)) at_X5_copy_78 rfl rfl (Nat.le_of_ble_eq_true rfl) rfl (ab_rvOf (w_shv (j := a2k) (by omega) u21 u22) rfl) e7 (by decide) rfl ?_
                            refine E_if (t := 90) (b := true) at_X5_copy_81 rfl (by decide) ?_
                            refine E_iload at_X5_copy_90 rfl ?_
                            refine E_if (t := 101) (b := true) at_X5_copy_92 rfl ((cn_ge (nI_toInt (by omega)) (by decide : (0 : Int32).toInt = 0)).trans (decide_eq_true (by omega))) ?_
                            refine E_aload at_X5_copy_101 rfl ?_
                            refine E_iload_n at_X5_copy_103 rfl ?_
                            refine E_iload at_X5_copy_104 rfl ?_
                            have e8 : Ev ab_Z0 1 36 [.ref (49 + 2 * a1k), .int (nI a3k), .int (nI a5k)] (ww im lf s d k ls rf rz ra rn rq lt m1 m2 m3 m4 bd fc hd sz el s g fm hm so si sh ce ca td wa kp la bf oo bo pw ow tr) (some (.int (nI 1)), (ww im lf s d k ls rf rz ra rn rq lt m1 m2 m3 m4 bd fc hd sz el s g fm hm so si sh ce ca td wa kp la bf oo bo pw ow tr)) := by
                              refine Ef.in (md := mX3_hasStretch) (L := [some (.ref (49 + 2 * a1k)), some (.int (nI a3k)), some (.int (nI a5k))]) rfl (Nat.le_of_ble_eq_true rfl) rfl ?_
                              refine E_iload_n at_X3_hasStretch_0 rfl ?_
                              refine E_if (t := 30) (b := false) at_X3_hasStretch_1 rfl ((cn_lt (nI_toInt (by omega)) (by decide : (0 : Int32).toInt = 0)).trans (decide_eq_false (by omega))) ?_
                              refine E_iload_n at_X3_hasStretch_4 rfl ?_
                              refine E_aload_n at_X3_hasStretch_5 rfl ?_
                              refine E_getfield (v := .int (nI (si.getD a1k 0))) at_X3_hasStretch_6 (w_shv (j := a1k) (by omega) u1 u2) rfl (by decide) rfl ?_
                              refine E_ic (t := 30) (b := false) at_X3_hasStretch_9 rfl ((cn_gt (nI_toInt (by omega)) (nI_toInt (by omega))).trans (decide_eq_false (by omega))) ?_
                              refine E_iload_n at_X3_hasStretch_12 rfl ?_
                              refine E_if (t := 30) (b := false) at_X3_hasStretch_13 rfl ((cn_lt (nI_toInt (by omega)) (by decide : (0 : Int32).toInt = 0)).trans (decide_eq_false (by omega))) ?_
                              refine E_iload_n at_X3_hasStretch_16 rfl ?_
                              refine E_aload_n at_X3_hasStretch_17 rfl ?_
                              refine E_getfield (v := .int (nI (si.getD a1k 0))) at_X3_hasStretch_18 (w_shv (j := a1k) (by omega) u1 u2) rfl (by decide) rfl ?_
                              refine E_iload_n at_X3_hasStretch_21 rfl ?_
                              refine E_isub (z := nI ((si.getD a1k 0) - a3k)) at_X3_hasStretch_22 (pk_sub (by omega)) ?_
                              refine E_ic (t := 30) (b := false) at_X3_hasStretch_23 rfl ((cn_gt (nI_toInt (by omega)) (nI_toInt (by omega))).trans (decide_eq_false (by omega))) ?_
                              refine E_iconst (x := nI 1) at_X3_hasStretch_26 (by decide) ?_
                              refine E_goto (t := 31) at_X3_hasStretch_27 rfl ?_
                              exact E_iret at_X3_hasStretch_31 rfl
                            refine E_callV (v := some (.int (nI 1))) (As := [.ref (49 + 2 * a1k), .int (nI a3k), .int (nI a5k)]) (r0 := []) (cs2 := (ww im lf s d k ls rf rz ra rn rq lt m1 m2 m3 m4 bd fc hd sz el s g fm hm so si sh ce ca td wa kp la bf oo bo pw ow tr)) at_X5_copy_106 rfl rfl (Nat.le_of_ble_eq_true rfl) rfl (ab_rvOf (w_shv (j := a1k) (by omega) u1 u2) rfl) e8 (by decide) rfl ?_
                            refine E_if (t := 124) (b := false) at_X5_copy_109 rfl (by decide) ?_
                            refine E_aload at_X5_copy_112 rfl ?_
                            refine E_iload at_X5_copy_114 rfl ?_
                            refine E_iload at_X5_copy_116 rfl ?_
                            have e9 : Ev ab_Z0 1 36 [.ref (49 + 2 * a2k), .int a4, .int (nI a5k)] (ww im lf s d k ls rf rz ra rn rq lt m1 m2 m3 m4 bd fc hd sz el s g fm hm so si sh ce ca td wa kp la bf oo bo pw ow tr) (some (.int (nI 0)), (ww im lf s d k ls rf rz ra rn rq lt m1 m2 m3 m4 bd fc hd sz el s g fm hm so si sh ce ca td wa kp la bf oo bo pw ow tr)) := by
                              refine Ef.in (md := mX3_hasStretch) (L := [some (.ref (49 + 2 * a2k)), some (.int a4), some (.int (nI a5k))]) rfl (Nat.le_of_ble_eq_true rfl) rfl ?_
                              refine E_iload_n at_X3_hasStretch_0 rfl ?_
                              refine E_if (t := 30) (b := true) at_X3_hasStretch_1 rfl ((cn_lt rfl (by decide : (0 : Int32).toInt = 0)).trans (decide_eq_true (by omega))) ?_
                              refine E_iconst (x := nI 0) at_X3_hasStretch_30 (by decide) ?_
                              exact E_iret at_X3_hasStretch_31 rfl
                            refine E_callV (v := some (.int (nI 0))) (As := [.ref (49 + 2 * a2k), .int a4, .int (nI a5k)]) (r0 := []) (cs2 := (ww im lf s d k ls rf rz ra rn rq lt m1 m2 m3 m4 bd fc hd sz el s g fm hm so si sh ce ca td wa kp la bf oo bo pw ow tr)) at_X5_copy_118 rfl rfl (Nat.le_of_ble_eq_true rfl) rfl (ab_rvOf (w_shv (j := a2k) (by omega) u21 u22) rfl) e9 (by decide) rfl ?_
                            refine E_if (t := 130) (b := false) at_X5_copy_121 rfl (by decide) ?_
                            refine E_aload_n at_X5_copy_124 rfl ?_
                            refine E_iconst (x := nI 5) at_X5_copy_125 (by decide) ?_
                            refine E_callV (v := some (.int (-5))) (As := [.ref 0, .int (nI 5)]) (r0 := []) (cs2 := (ww im lf s d k ls rf rz ra rn rq lt m1 m2 m3 m4 bd (fc.set 5 ((fc.getD 5 0) + (nI 1))) hd sz el s g fm hm so si sh ce ca td wa kp la bf oo bo pw ow tr)) at_X5_copy_126 rfl rfl (Nat.le_of_ble_eq_true rfl) rfl (ab_rvOf w0 rfl) (L18_X5_refuse (by omega)) (by decide) w_lens ?_
                            exact E_iret at_X5_copy_129 rfl
                          · show Ev ab_Z0 2 137 [.ref 65, .int (nI a1k), .int (nI a2k), .int (nI a3k), .int a4, .int (nI a5k)] (ww im lf s d k ls rf rz ra rn rq lt m1 m2 m3 m4 bd (fc.set 5 ((fc.getD 5 0) + (nI 1))) hd sz el s g fm hm so si sh ce ca td wa kp la bf oo bo pw ow tr) (some (.int (-5)), (ww im lf s d k ls rf rz ra rn rq lt m1 m2 m3 m4 bd (fc.set 5 ((fc.getD 5 0) + (nI 1))) hd sz el s g (fm.set 5 ((fm.getD 5 0) + (nI 1))) hm so si sh ce ca td wa kp la bf oo bo pw ow tr))
                            refine Ef.in (md := mX6_copy) (L := [some (.ref 65), some (.int (nI a1k)), some (.int (nI a2k)), some (.int (nI a3k)), some (.int a4), some (.int (nI a5k)), none]) rfl (Nat.le_of_ble_eq_true rfl) rfl ?_
                            refine E_aload_n at_X6_copy_0 rfl ?_
                            refine E_iload_n at_X6_copy_1 rfl ?_
                            refine E_callV (v := some (.int (nI 1))) (As := [.ref 65, .int (nI a1k)]) (r0 := []) (cs2 := (ww im lf s d k ls rf rz ra rn rq lt m1 m2 m3 m4 bd (fc.set 5 ((fc.getD 5 0) + (nI 1))) hd sz el s g fm hm so si sh ce ca td wa kp la bf oo bo pw ow tr)) at_X6_copy_2 rfl rfl (Nat.le_of_ble_eq_true rfl) rfl (ab_rvOf w65 rfl) (L40_X6_isShelf (by omega) (by omega) (by omega)) (by decide) rfl ?_
                            refine E_if (t := 16) (b := false) at_X6_copy_5 rfl (by decide) ?_
                            refine E_aload_n at_X6_copy_8 rfl ?_
                            refine E_iload_n at_X6_copy_9 rfl ?_
                            refine E_callV (v := some (.int (nI 1))) (As := [.ref 65, .int (nI a2k)]) (r0 := []) (cs2 := (ww im lf s d k ls rf rz ra rn rq lt m1 m2 m3 m4 bd (fc.set 5 ((fc.getD 5 0) + (nI 1))) hd sz el s g fm hm so si sh ce ca td wa kp la bf oo bo pw ow tr)) at_X6_copy_10 rfl rfl (Nat.le_of_ble_eq_true rfl) rfl (ab_rvOf w65 rfl) (L40_X6_isShelf (by omega) (by omega) (by omega)) (by decide) rfl ?_
                            refine E_if (t := 22) (b := true) at_X6_copy_13 rfl (by decide) ?_
                            refine E_aload_n at_X6_copy_22 rfl ?_
                            refine E_getfield (v := .ref 76) at_X6_copy_23 w65 rfl (by decide) rfl ?_
                            refine E_iload_n at_X6_copy_26 rfl ?_
                            refine E_ialN (l := hm) (v := hm.getD a1k 0) at_X6_copy_27 w76 (by omega) (by omega) rfl ?_
                            refine E_iconst (x := nI 2) at_X6_copy_28 (by decide) ?_
                            refine E_ic (t := 77) (b := false) at_X6_copy_29 rfl ((cn_eq (nI_toInt (by omega)) (nI_toInt (by omega))).trans (decide_eq_false (by omega))) ?_
                            refine E_aload_n at_X6_copy_32 rfl ?_
                            refine E_getfield (v := .ref 76) at_X6_copy_33 w65 rfl (by decide) rfl ?_
                            refine E_iload_n at_X6_copy_36 rfl ?_
                            refine E_ialN (l := hm) (v := hm.getD a2k 0) at_X6_copy_37 w76 (by omega) (by omega) rfl ?_
                            refine E_iconst (x := nI 2) at_X6_copy_38 (by decide) ?_
                            refine E_ic (t := 77) (b := false) at_X6_copy_39 rfl ((cn_eq (nI_toInt (by omega)) (nI_toInt (by omega))).trans (decide_eq_false (by omega))) ?_
                            refine E_aload_n at_X6_copy_42 rfl ?_
                            refine E_getfield (v := .ref 76) at_X6_copy_43 w65 rfl (by decide) rfl ?_
                            refine E_iload_n at_X6_copy_46 rfl ?_
                            refine E_ialN (l := hm) (v := hm.getD a1k 0) at_X6_copy_47 w76 (by omega) (by omega) rfl ?_
                            refine E_iconst (x := nI 1) at_X6_copy_48 (by decide) ?_
                            refine E_ic (t := 84) (b := false) at_X6_copy_49 rfl ((cn_ne (nI_toInt (by omega)) (nI_toInt (by omega))).trans (decide_eq_false (by omega))) ?_
                            refine E_aload_n at_X6_copy_52 rfl ?_
                            refine E_getfield (v := .ref 76) at_X6_copy_53 w65 rfl (by decide) rfl ?_
                            refine E_iload_n at_X6_copy_56 rfl ?_
                            refine E_ialN (l := hm) (v := hm.getD a2k 0) at_X6_copy_57 w76 (by omega) (by omega) rfl ?_
                            refine E_iconst (x := nI 1) at_X6_copy_58 (by decide) ?_
                            refine E_ic (t := 84) (b := false) at_X6_copy_59 rfl ((cn_ne (nI_toInt (by omega)) (nI_toInt (by omega))).trans (decide_eq_false (by omega))) ?_
                            refine E_aload_n at_X6_copy_62 rfl ?_
                            refine E_getfield (v := .ref 77) at_X6_copy_63 w65 rfl (by decide) rfl ?_
                            refine E_iload_n at_X6_copy_66 rfl ?_
                            refine E_ialN (l := so) (v := so.getD a1k 0) at_X6_copy_67 w77 (by omega) (by omega) rfl ?_
                            refine E_aload_n at_X6_copy_68 rfl ?_
                            refine E_getfield (v := .ref 77) at_X6_copy_69 w65 rfl (by decide) rfl ?_
                            refine E_iload_n at_X6_copy_72 rfl ?_
                            refine E_ialN (l := so) (v := so.getD a2k 0) at_X6_copy_73 w77 (by omega) (by omega) rfl ?_
                            refine E_ic (t := 84) (b := true) at_X6_copy_74 rfl ((cn_eq (nI_toInt (by omega)) (nI_toInt (by omega))).trans (decide_eq_true (by omega))) ?_
                            refine E_aload_n at_X6_copy_84 rfl ?_
                            refine E_getfield (v := .ref 76) at_X6_copy_85 w65 rfl (by decide) rfl ?_
                            refine E_iload_n at_X6_copy_88 rfl ?_
                            refine E_ialN (l := hm) (v := hm.getD a1k 0) at_X6_copy_89 w76 (by omega) (by omega) rfl ?_
                            refine E_if (t := 102) (b := false) at_X6_copy_90 rfl ((cn_eq (nI_toInt (by omega)) (by decide : (0 : Int32).toInt = 0)).trans (decide_eq_false (by omega))) ?_
                            refine E_aload_n at_X6_copy_93 rfl ?_
                            refine E_getfield (v := .ref 76) at_X6_copy_94 w65 rfl (by decide) rfl ?_
                            refine E_iload_n at_X6_copy_97 rfl ?_
                            refine E_ialN (l := hm) (v := hm.getD a2k 0) at_X6_copy_98 w76 (by omega) (by omega) rfl ?_
                            refine E_if (t := 109) (b := true) at_X6_copy_99 rfl ((cn_ne (nI_toInt (by omega)) (by decide : (0 : Int32).toInt = 0)).trans (decide_eq_true (by omega))) ?_
                            refine E_iload at_X6_copy_109 rfl ?_
                            refine E_if (t := 121) (b := true) at_X6_copy_111 rfl ((cn_ge (nI_toInt (by omega)) (by decide : (0 : Int32).toInt = 0)).trans (decide_eq_true (by omega))) ?_
                            refine E_iload_n at_X6_copy_121 rfl ?_
                            refine E_if (t := 157) (b := false) at_X6_copy_122 rfl ((cn_lt (nI_toInt (by omega)) (by decide : (0 : Int32).toInt = 0)).trans (decide_eq_false (by omega))) ?_
                            refine E_iload at_X6_copy_125 rfl ?_
                            refine E_if (t := 157) (b := true) at_X6_copy_127 rfl ((cn_lt rfl (by decide : (0 : Int32).toInt = 0)).trans (decide_eq_true (by omega))) ?_
                            refine E_aload_n at_X6_copy_157 rfl ?_
                            refine E_bipush (x := (-5)) at_X6_copy_158 (by decide) ?_
                            refine E_callV (v := some (.int (-5))) (As := [.ref 65, .int (-5)]) (r0 := []) (cs2 := (ww im lf s d k ls rf rz ra rn rq lt m1 m2 m3 m4 bd (fc.set 5 ((fc.getD 5 0) + (nI 1))) hd sz el s g (fm.set 5 ((fm.getD 5 0) + (nI 1))) hm so si sh ce ca td wa kp la bf oo bo pw ow tr)) at_X6_copy_160 rfl rfl (Nat.le_of_ble_eq_true rfl) rfl (ab_rvOf w65 rfl) (L19_X6_no (by omega)) (by decide) w_lens ?_
                            exact E_iret at_X6_copy_163 rfl
                          · exact ⟨I, rfl, hf, iQ, iM, iT, iS, l_el, (lr.1), (lr.2.1), (lr.2.2.1), (by simp only [List.length_set]; exact (lr.2.2.2.1)), (by simp only [List.length_set]; exact (lr.2.2.2.2.1)), (lr.2.2.2.2.2.1), (lr.2.2.2.2.2.2.1), (lr.2.2.2.2.2.2.2.1), (lr.2.2.2.2.2.2.2.2.1), (lr.2.2.2.2.2.2.2.2.2.1), (lr.2.2.2.2.2.2.2.2.2.2.1), (lr.2.2.2.2.2.2.2.2.2.2.2.1), (lr.2.2.2.2.2.2.2.2.2.2.2.2.1), (lr.2.2.2.2.2.2.2.2.2.2.2.2.2.1), (lr.2.2.2.2.2.2.2.2.2.2.2.2.2.2.1), (lr.2.2.2.2.2.2.2.2.2.2.2.2.2.2.2.1), (lr.2.2.2.2.2.2.2.2.2.2.2.2.2.2.2.2.1), (lr.2.2.2.2.2.2.2.2.2.2.2.2.2.2.2.2.2.1), (lr.2.2.2.2.2.2.2.2.2.2.2.2.2.2.2.2.2.2.1), (lr.2.2.2.2.2.2.2.2.2.2.2.2.2.2.2.2.2.2.2.1), (lr.2.2.2.2.2.2.2.2.2.2.2.2.2.2.2.2.2.2.2.2)⟩
                  · refine ⟨(-5), (im, lf, s, d, k, ls, rf, rz, ra, rn, rq, lt, m1, m2, m3, m4, bd, (fc.set 5 ((fc.getD 5 0) + (nI 1))), hd, sz, el, s, g, fm, hm, so, si, sh, ce, ca, td, wa, kp, la, bf, oo, bo, pw, ow, tr), (im, lf, s, d, k, ls, rf, rz, ra, rn, rq, lt, m1, m2, m3, m4, bd, (fc.set 5 ((fc.getD 5 0) + (nI 1))), hd, sz, el, s, g, (fm.set 5 ((fm.getD 5 0) + (nI 1))), hm, so, si, sh, ce, ca, td, wa, kp, la, bf, oo, bo, pw, ow, tr), ?_, ?_, ?_⟩
                    · show Ev ab_Z0 3 78 [.ref 0, .int (nI a1k), .int (nI a2k), .int a3, .int a4, .int (nI a5k)] (ww im lf s d k ls rf rz ra rn rq lt m1 m2 m3 m4 bd fc hd sz el s g fm hm so si sh ce ca td wa kp la bf oo bo pw ow tr) (some (.int (-5)), (ww im lf s d k ls rf rz ra rn rq lt m1 m2 m3 m4 bd (fc.set 5 ((fc.getD 5 0) + (nI 1))) hd sz el s g fm hm so si sh ce ca td wa kp la bf oo bo pw ow tr))
                      refine Ef.in (md := mX5_copy) (L := [some (.ref 0), some (.int (nI a1k)), some (.int (nI a2k)), some (.int a3), some (.int a4), some (.int (nI a5k)), none, none]) rfl (Nat.le_of_ble_eq_true rfl) rfl ?_
                      refine E_iload_n at_X5_copy_0 rfl ?_
                      refine E_callS (v := some (.int (nI 1))) (As := [.int (nI a1k)]) (r0 := []) (cs2 := (ww im lf s d k ls rf rz ra rn rq lt m1 m2 m3 m4 bd fc hd sz el s g fm hm so si sh ce ca td wa kp la bf oo bo pw ow tr)) at_X5_copy_1 rfl rfl (Nat.le_of_ble_eq_true rfl) rfl (L39_X5_isShelf (by omega) (by omega) (by omega)) (by decide) rfl ?_
                      refine E_if (t := 14) (b := false) at_X5_copy_4 rfl (by decide) ?_
                      refine E_iload_n at_X5_copy_7 rfl ?_
                      refine E_callS (v := some (.int (nI 1))) (As := [.int (nI a2k)]) (r0 := []) (cs2 := (ww im lf s d k ls rf rz ra rn rq lt m1 m2 m3 m4 bd fc hd sz el s g fm hm so si sh ce ca td wa kp la bf oo bo pw ow tr)) at_X5_copy_8 rfl rfl (Nat.le_of_ble_eq_true rfl) rfl (L39_X5_isShelf (by omega) (by omega) (by omega)) (by decide) rfl ?_
                      refine E_if (t := 20) (b := true) at_X5_copy_11 rfl (by decide) ?_
                      refine E_aload_n at_X5_copy_20 rfl ?_
                      refine E_getfield (v := .ref 31) at_X5_copy_21 w0 rfl (by decide) rfl ?_
                      refine E_iload_n at_X5_copy_24 rfl ?_
                      refine E_aalN (b := 49 + 2 * a1k) at_X5_copy_25 w31 (by omega) (w_shs (by omega)) ?_
                      refine E_astore (L2 := [some (.ref 0), some (.int (nI a1k)), some (.int (nI a2k)), some (.int a3), some (.int a4), some (.int (nI a5k)), some (.ref (49 + 2 * a1k)), none]) at_X5_copy_26 rfl ?_
                      refine E_aload_n at_X5_copy_28 rfl ?_
                      refine E_getfield (v := .ref 31) at_X5_copy_29 w0 rfl (by decide) rfl ?_
                      refine E_iload_n at_X5_copy_32 rfl ?_
                      refine E_aalN (b := 49 + 2 * a2k) at_X5_copy_33 w31 (by omega) (w_shs (by omega)) ?_
                      refine E_astore (L2 := [some (.ref 0), some (.int (nI a1k)), some (.int (nI a2k)), some (.int a3), some (.int a4), some (.int (nI a5k)), some (.ref (49 + 2 * a1k)), some (.ref (49 + 2 * a2k))]) at_X5_copy_34 rfl ?_
                      refine E_aload at_X5_copy_36 rfl ?_
                      have e1 : Ev ab_Z0 1 33 [.ref (49 + 2 * a1k)] (ww im lf s d k ls rf rz ra rn rq lt m1 m2 m3 m4 bd fc hd sz el s g fm hm so si sh ce ca td wa kp la bf oo bo pw ow tr) (some (.int (nI 0)), (ww im lf s d k ls rf rz ra rn rq lt m1 m2 m3 m4 bd fc hd sz el s g fm hm so si sh ce ca td wa kp la bf oo bo pw ow tr)) := by
                        refine Ef.in (md := mX3_isOtherThanRow) (L := [some (.ref (49 + 2 * a1k))]) rfl (Nat.le_of_ble_eq_true rfl) rfl ?_
                        refine E_aload_n at_X3_isOtherThanRow_0 rfl ?_
                        refine E_getfield (v := .int (nI (100 + so.getD a1k 0))) at_X3_isOtherThanRow_1 (w_shv (j := a1k) (by omega) u1 u2) rfl (by decide) rfl ?_
                        refine E_if (t := 20) (b := false) at_X3_isOtherThanRow_4 rfl ((cn_lt (nI_toInt (by omega)) (by decide : (0 : Int32).toInt = 0)).trans (decide_eq_false (by omega))) ?_
                        refine E_aload_n at_X3_isOtherThanRow_7 rfl ?_
                        refine E_getfield (v := .int (nI (100 + so.getD a1k 0))) at_X3_isOtherThanRow_8 (w_shv (j := a1k) (by omega) u1 u2) rfl (by decide) rfl ?_
                        refine E_bipush (x := nI 100) at_X3_isOtherThanRow_11 (by decide) ?_
                        refine E_ic (t := 20) (b := true) at_X3_isOtherThanRow_13 rfl ((cn_ge (nI_toInt (by omega)) (nI_toInt (by omega))).trans (decide_eq_true (by omega))) ?_
                        refine E_iconst (x := nI 0) at_X3_isOtherThanRow_20 (by decide) ?_
                        exact E_iret at_X3_isOtherThanRow_21 rfl
                      refine E_callV (v := some (.int (nI 0))) (As := [.ref (49 + 2 * a1k)]) (r0 := []) (cs2 := (ww im lf s d k ls rf rz ra rn rq lt m1 m2 m3 m4 bd fc hd sz el s g fm hm so si sh ce ca td wa kp la bf oo bo pw ow tr)) at_X5_copy_38 rfl rfl (Nat.le_of_ble_eq_true rfl) rfl (ab_rvOf (w_shv (j := a1k) (by omega) u1 u2) rfl) e1 (by decide) rfl ?_
                      refine E_if (t := 62) (b := false) at_X5_copy_41 rfl (by decide) ?_
                      refine E_aload at_X5_copy_44 rfl ?_
                      have e2 : Ev ab_Z0 1 33 [.ref (49 + 2 * a2k)] (ww im lf s d k ls rf rz ra rn rq lt m1 m2 m3 m4 bd fc hd sz el s g fm hm so si sh ce ca td wa kp la bf oo bo pw ow tr) (some (.int (nI 0)), (ww im lf s d k ls rf rz ra rn rq lt m1 m2 m3 m4 bd fc hd sz el s g fm hm so si sh ce ca td wa kp la bf oo bo pw ow tr)) := by
                        refine Ef.in (md := mX3_isOtherThanRow) (L := [some (.ref (49 + 2 * a2k))]) rfl (Nat.le_of_ble_eq_true rfl) rfl ?_
                        refine E_aload_n at_X3_isOtherThanRow_0 rfl ?_
                        refine E_getfield (v := .int (nI (100 + so.getD a2k 0))) at_X3_isOtherThanRow_1 (w_shv (j := a2k) (by omega) u21 u22) rfl (by decide) rfl ?_
                        refine E_if (t := 20) (b := false) at_X3_isOtherThanRow_4 rfl ((cn_lt (nI_toInt (by omega)) (by decide : (0 : Int32).toInt = 0)).trans (decide_eq_false (by omega))) ?_
                        refine E_aload_n at_X3_isOtherThanRow_7 rfl ?_
                        refine E_getfield (v := .int (nI (100 + so.getD a2k 0))) at_X3_isOtherThanRow_8 (w_shv (j := a2k) (by omega) u21 u22) rfl (by decide) rfl ?_
                        refine E_bipush (x := nI 100) at_X3_isOtherThanRow_11 (by decide) ?_
                        refine E_ic (t := 20) (b := true) at_X3_isOtherThanRow_13 rfl ((cn_ge (nI_toInt (by omega)) (nI_toInt (by omega))).trans (decide_eq_true (by omega))) ?_
                        refine E_iconst (x := nI 0) at_X3_isOtherThanRow_20 (by decide) ?_
                        exact E_iret at_X3_isOtherThanRow_21 rfl
                      refine E_callV (v := some (.int (nI 0))) (As := [.ref (49 + 2 * a2k)]) (r0 := []) (cs2 := (ww im lf s d k ls rf rz ra rn rq lt m1 m2 m3 m4 bd fc hd sz el s g fm hm so si sh ce ca td wa kp la bf oo bo pw ow tr)) at_X5_copy_46 rfl rfl (Nat.le_of_ble_eq_true rfl) rfl (ab_rvOf (w_shv (j := a2k) (by omega) u21 u22) rfl) e2 (by decide) rfl ?_
                      refine E_if (t := 62) (b := false) at_X5_copy_49 rfl (by decide) ?_
                      refine E_aload at_X5_copy_52 rfl ?_
                      refine E_aload at_X5_copy_54 rfl ?_
                      have e5 : Ev ab_Z0 2 34 [.ref (49 + 2 * a1k), .ref (49 + 2 * a2k)] (ww im lf s d k ls rf rz ra rn rq lt m1 m2 m3 m4 bd fc hd sz el s g fm hm so si sh ce ca td wa kp la bf oo bo pw ow tr) (some (.int (nI 0)), (ww im lf s d k ls rf rz ra rn rq lt m1 m2 m3 m4 bd fc hd sz el s g fm hm so si sh ce ca td wa kp la bf oo bo pw ow tr)) := by
                        refine Ef.in (md := mX3_isOfOtherSort) (L := [some (.ref (49 + 2 * a1k)), some (.ref (49 + 2 * a2k))]) rfl (Nat.le_of_ble_eq_true rfl) rfl ?_
                        refine E_aload_n at_X3_isOfOtherSort_0 rfl ?_
                        have e3 : Ev ab_Z0 1 32 [.ref (49 + 2 * a1k)] (ww im lf s d k ls rf rz ra rn rq lt m1 m2 m3 m4 bd fc hd sz el s g fm hm so si sh ce ca td wa kp la bf oo bo pw ow tr) (some (.int (nI 0)), (ww im lf s d k ls rf rz ra rn rq lt m1 m2 m3 m4 bd fc hd sz el s g fm hm so si sh ce ca td wa kp la bf oo bo pw ow tr)) := by
                          refine Ef.in (md := mX3_isEmpty) (L := [some (.ref (49 + 2 * a1k))]) rfl (Nat.le_of_ble_eq_true rfl) rfl ?_
                          refine E_aload_n at_X3_isEmpty_0 rfl ?_
                          refine E_getfield (v := .int (nI (100 + so.getD a1k 0))) at_X3_isEmpty_1 (w_shv (j := a1k) (by omega) u1 u2) rfl (by decide) rfl ?_
                          refine E_iconst (x := (-1)) at_X3_isEmpty_4 (by decide) ?_
                          refine E_ic (t := 12) (b := true) at_X3_isEmpty_5 rfl ((cn_ne (nI_toInt (by omega)) (by decide : (-1 : Int32).toInt = -1)).trans (decide_eq_true (by omega))) ?_
                          refine E_iconst (x := nI 0) at_X3_isEmpty_12 (by decide) ?_
                          exact E_iret at_X3_isEmpty_13 rfl
                        refine E_callV (v := some (.int (nI 0))) (As := [.ref (49 + 2 * a1k)]) (r0 := []) (cs2 := (ww im lf s d k ls rf rz ra rn rq lt m1 m2 m3 m4 bd fc hd sz el s g fm hm so si sh ce ca td wa kp la bf oo bo pw ow tr)) at_X3_isOfOtherSort_1 rfl rfl (Nat.le_of_ble_eq_true rfl) rfl (ab_rvOf (w_shv (j := a1k) (by omega) u1 u2) rfl) e3 (by decide) rfl ?_
                        refine E_if (t := 29) (b := false) at_X3_isOfOtherSort_4 rfl (by decide) ?_
                        refine E_aload_n at_X3_isOfOtherSort_7 rfl ?_
                        have e4 : Ev ab_Z0 1 32 [.ref (49 + 2 * a2k)] (ww im lf s d k ls rf rz ra rn rq lt m1 m2 m3 m4 bd fc hd sz el s g fm hm so si sh ce ca td wa kp la bf oo bo pw ow tr) (some (.int (nI 0)), (ww im lf s d k ls rf rz ra rn rq lt m1 m2 m3 m4 bd fc hd sz el s g fm hm so si sh ce ca td wa kp la bf oo bo pw ow tr)) := by
                          refine Ef.in (md := mX3_isEmpty) (L := [some (.ref (49 + 2 * a2k))]) rfl (Nat.le_of_ble_eq_true rfl) rfl ?_
                          refine E_aload_n at_X3_isEmpty_0 rfl ?_
                          refine E_getfield (v := .int (nI (100 + so.getD a2k 0))) at_X3_isEmpty_1 (w_shv (j := a2k) (by omega) u21 u22) rfl (by decide) rfl ?_
                          refine E_iconst (x := (-1)) at_X3_isEmpty_4 (by decide) ?_
                          refine E_ic (t := 12) (b := true) at_X3_isEmpty_5 rfl ((cn_ne (nI_toInt (by omega)) (by decide : (-1 : Int32).toInt = -1)).trans (decide_eq_true (by omega))) ?_
                          refine E_iconst (x := nI 0) at_X3_isEmpty_12 (by decide) ?_
                          exact E_iret at_X3_isEmpty_13 rfl
                        refine E_callV (v := some (.int (nI 0))) (As := [.ref (49 + 2 * a2k)]) (r0 := []) (cs2 := (ww im lf s d k ls rf rz ra rn rq lt m1 m2 m3 m4 bd fc hd sz el s g fm hm so si sh ce ca td wa kp la bf oo bo pw ow tr)) at_X3_isOfOtherSort_8 rfl rfl (Nat.le_of_ble_eq_true rfl) rfl (ab_rvOf (w_shv (j := a2k) (by omega) u21 u22) rfl) e4 (by decide) rfl ?_
                        refine E_if (t := 29) (b := false) at_X3_isOfOtherSort_11 rfl (by decide) ?_
                        refine E_aload_n at_X3_isOfOtherSort_14 rfl ?_
                        refine E_getfield (v := .int (nI (100 + so.getD a1k 0))) at_X3_isOfOtherSort_15 (w_shv (j := a1k) (by omega) u1 u2) rfl (by decide) rfl ?_
                        refine E_aload_n at_X3_isOfOtherSort_18 rfl ?_
                        refine E_getfield (v := .int (nI (100 + so.getD a2k 0))) at_X3_isOfOtherSort_19 (w_shv (j := a2k) (by omega) u21 u22) rfl (by decide) rfl ?_
                        refine E_ic (t := 29) (b := true) at_X3_isOfOtherSort_22 rfl ((cn_eq (nI_toInt (by omega)) (nI_toInt (by omega))).trans (decide_eq_true (by omega))) ?_
                        refine E_iconst (x := nI 0) at_X3_isOfOtherSort_29 (by decide) ?_
                        exact E_iret at_X3_isOfOtherSort_30 rfl
                      refine E_callV (v := some (.int (nI 0))) (As := [.ref (49 + 2 * a1k), .ref (49 + 2 * a2k)]) (r0 := []) (cs2 := (ww im lf s d k ls rf rz ra rn rq lt m1 m2 m3 m4 bd fc hd sz el s g fm hm so si sh ce ca td wa kp la bf oo bo pw ow tr)) at_X5_copy_56 rfl rfl (Nat.le_of_ble_eq_true rfl) rfl (ab_rvOf (w_shv (j := a1k) (by omega) u1 u2) rfl) e5 (by decide) rfl ?_
                      refine E_if (t := 68) (b := true) at_X5_copy_59 rfl (by decide) ?_
                      refine E_aload at_X5_copy_68 rfl ?_
                      have e6 : Ev ab_Z0 1 32 [.ref (49 + 2 * a1k)] (ww im lf s d k ls rf rz ra rn rq lt m1 m2 m3 m4 bd fc hd sz el s g fm hm so si sh ce ca td wa kp la bf oo bo pw ow tr) (some (.int (nI 0)), (ww im lf s d k ls rf rz ra rn rq lt m1 m2 m3 m4 bd fc hd sz el s g fm hm so si sh ce ca td wa kp la bf oo bo pw ow tr)) := by
                        refine Ef.in (md := mX3_isEmpty) (L := [some (.ref (49 + 2 * a1k))]) rfl (Nat.le_of_ble_eq_true rfl) rfl ?_
                        refine E_aload_n at_X3_isEmpty_0 rfl ?_
                        refine E_getfield (v := .int (nI (100 + so.getD a1k 0))) at_X3_isEmpty_1 (w_shv (j := a1k) (by omega) u1 u2) rfl (by decide) rfl ?_
                        refine E_iconst (x := (-1)) at_X3_isEmpty_4 (by decide) ?_
                        refine E_ic (t := 12) (b := true) at_X3_isEmpty_5 rfl ((cn_ne (nI_toInt (by omega)) (by decide : (-1 : Int32).toInt = -1)).trans (decide_eq_true (by omega))) ?_
                        refine E_iconst (x := nI 0) at_X3_isEmpty_12 (by decide) ?_
                        exact E_iret at_X3_isEmpty_13 rfl
                      refine E_callV (v := some (.int (nI 0))) (As := [.ref (49 + 2 * a1k)]) (r0 := []) (cs2 := (ww im lf s d k ls rf rz ra rn rq lt m1 m2 m3 m4 bd fc hd sz el s g fm hm so si sh ce ca td wa kp la bf oo bo pw ow tr)) at_X5_copy_70 rfl rfl (Nat.le_of_ble_eq_true rfl) rfl (ab_rvOf (w_shv (j := a1k) (by omega) u1 u2) rfl) e6 (by decide) rfl ?_
                      refine E_if (t := 84) (b := false) at_X5_copy_73 rfl (by decide) ?_
                      refine E_aload at_X5_copy_76 rfl ?_
                      have e7 : Ev ab_Z0 1 32 [.ref (49 + 2 * a2k)] (ww im lf s d k ls rf rz ra rn rq lt m1 m2 m3 m4 bd fc hd sz el s g fm hm so si sh ce ca td wa kp la bf oo bo pw ow tr) (some (.int (nI 0)), (ww im lf s d k ls rf rz ra rn rq lt m1 m2 m3 m4 bd fc hd sz el s g fm hm so si sh ce ca td wa kp la bf oo bo pw ow tr)) := by
                        refine Ef.in (md := mX3_isEmpty) (L := [some (.ref (49 + 2 * a2k))]) rfl (Nat.le_of_ble_eq_true rfl) rfl ?_
                        refine E_aload_n at_X3_isEmpty_0 rfl ?_
                        refine E_getfield (v := .int (nI (100 + so.getD a2k 0))) at_X3_isEmpty_1 (w_shv (j := a2k) (by omega) u21 u22) rfl (by decide) rfl ?_
                        refine E_iconst (x := (-1)) at_X3_isEmpty_4 (by decide) ?_
                        refine E_ic (t := 12) (b := true) at_X3_isEmpty_5 rfl ((cn_ne (nI_toInt (by omega)) (by decide : (-1 : Int32).toInt = -1)).trans (decide_eq_true (by omega))) ?_
                        refine E_iconst (x := nI 0) at_X3_isEmpty_12 (by decide) ?_
                        exact E_iret at_X3_isEmpty_13 rfl
                      refine E_callV (v := some (.int (nI 0))) (As := [.ref (49 + 2 * a2k)]) (r0 := []) (cs2 := (ww im lf s d k ls rf rz ra rn rq lt m1 m2 m3 m4 bd fc hd sz el s g fm hm so si sh ce ca td wa kp la bf oo bo pw ow tr)) at_X5_copy_78 rfl rfl (Nat.le_of_ble_eq_true rfl) rfl (ab_rvOf (w_shv (j := a2k) (by omega) u21 u22) rfl) e7 (by decide) rfl ?_
                      refine E_if (t := 90) (b := true) at_X5_copy_81 rfl (by decide) ?_
                      refine E_iload at_X5_copy_90 rfl ?_
                      refine E_if (t := 101) (b := true) at_X5_copy_92 rfl ((cn_ge (nI_toInt (by omega)) (by decide : (0 : Int32).toInt = 0)).trans (decide_eq_true (by omega))) ?_
                      refine E_aload at_X5_copy_101 rfl ?_
                      refine E_iload_n at_X5_copy_103 rfl ?_
                      refine E_iload at_X5_copy_104 rfl ?_
                      have e8 : Ev ab_Z0 1 36 [.ref (49 + 2 * a1k), .int a3, .int (nI a5k)] (ww im lf s d k ls rf rz ra rn rq lt m1 m2 m3 m4 bd fc hd sz el s g fm hm so si sh ce ca td wa kp la bf oo bo pw ow tr) (some (.int (nI 0)), (ww im lf s d k ls rf rz ra rn rq lt m1 m2 m3 m4 bd fc hd sz el s g fm hm so si sh ce ca td wa kp la bf oo bo pw ow tr)) := by
                        refine Ef.in (md := mX3_hasStretch) (L := [some (.ref (49 + 2 * a1k)), some (.int a3), some (.int (nI a5k))]) rfl (Nat.le_of_ble_eq_true rfl) rfl ?_
                        refine E_iload_n at_X3_hasStretch_0 rfl ?_
                        refine E_if (t := 30) (b := true) at_X3_hasStretch_1 rfl ((cn_lt rfl (by decide : (0 : Int32).toInt = 0)).trans (decide_eq_true (by omega))) ?_
                        refine E_iconst (x := nI 0) at_X3_hasStretch_30 (by decide) ?_
                        exact E_iret at_X3_hasStretch_31 rfl
                      refine E_callV (v := some (.int (nI 0))) (As := [.ref (49 + 2 * a1k), .int a3, .int (nI a5k)]) (r0 := []) (cs2 := (ww im lf s d k ls rf rz ra rn rq lt m1 m2 m3 m4 bd fc hd sz el s g fm hm so si sh ce ca td wa kp la bf oo bo pw ow tr)) at_X5_copy_106 rfl rfl (Nat.le_of_ble_eq_true rfl) rfl (ab_rvOf (w_shv (j := a1k) (by omega) u1 u2) rfl) e8 (by decide) rfl ?_
                      refine E_if (t := 124) (b := true) at_X5_copy_109 rfl (by decide) ?_
                      refine E_aload_n at_X5_copy_124 rfl ?_
                      refine E_iconst (x := nI 5) at_X5_copy_125 (by decide) ?_
                      refine E_callV (v := some (.int (-5))) (As := [.ref 0, .int (nI 5)]) (r0 := []) (cs2 := (ww im lf s d k ls rf rz ra rn rq lt m1 m2 m3 m4 bd (fc.set 5 ((fc.getD 5 0) + (nI 1))) hd sz el s g fm hm so si sh ce ca td wa kp la bf oo bo pw ow tr)) at_X5_copy_126 rfl rfl (Nat.le_of_ble_eq_true rfl) rfl (ab_rvOf w0 rfl) (L18_X5_refuse (by omega)) (by decide) w_lens ?_
                      exact E_iret at_X5_copy_129 rfl
                    · show Ev ab_Z0 2 137 [.ref 65, .int (nI a1k), .int (nI a2k), .int a3, .int a4, .int (nI a5k)] (ww im lf s d k ls rf rz ra rn rq lt m1 m2 m3 m4 bd (fc.set 5 ((fc.getD 5 0) + (nI 1))) hd sz el s g fm hm so si sh ce ca td wa kp la bf oo bo pw ow tr) (some (.int (-5)), (ww im lf s d k ls rf rz ra rn rq lt m1 m2 m3 m4 bd (fc.set 5 ((fc.getD 5 0) + (nI 1))) hd sz el s g (fm.set 5 ((fm.getD 5 0) + (nI 1))) hm so si sh ce ca td wa kp la bf oo bo pw ow tr))
                      refine Ef.in (md := mX6_copy) (L := [some (.ref 65), some (.int (nI a1k)), some (.int (nI a2k)), some (.int a3), some (.int a4), some (.int (nI a5k)), none]) rfl (Nat.le_of_ble_eq_true rfl) rfl ?_
                      refine E_aload_n at_X6_copy_0 rfl ?_
                      refine E_iload_n at_X6_copy_1 rfl ?_
                      refine E_callV (v := some (.int (nI 1))) (As := [.ref 65, .int (nI a1k)]) (r0 := []) (cs2 := (ww im lf s d k ls rf rz ra rn rq lt m1 m2 m3 m4 bd (fc.set 5 ((fc.getD 5 0) + (nI 1))) hd sz el s g fm hm so si sh ce ca td wa kp la bf oo bo pw ow tr)) at_X6_copy_2 rfl rfl (Nat.le_of_ble_eq_true rfl) rfl (ab_rvOf w65 rfl) (L40_X6_isShelf (by omega) (by omega) (by omega)) (by decide) rfl ?_
                      refine E_if (t := 16) (b := false) at_X6_copy_5 rfl (by decide) ?_
                      refine E_aload_n at_X6_copy_8 rfl ?_
                      refine E_iload_n at_X6_copy_9 rfl ?_
                      refine E_callV (v := some (.int (nI 1))) (As := [.ref 65, .int (nI a2k)]) (r0 := []) (cs2 := (ww im lf s d k ls rf rz ra rn rq lt m1 m2 m3 m4 bd (fc.set 5 ((fc.getD 5 0) + (nI 1))) hd sz el s g fm hm so si sh ce ca td wa kp la bf oo bo pw ow tr)) at_X6_copy_10 rfl rfl (Nat.le_of_ble_eq_true rfl) rfl (ab_rvOf w65 rfl) (L40_X6_isShelf (by omega) (by omega) (by omega)) (by decide) rfl ?_
                      refine E_if (t := 22) (b := true) at_X6_copy_13 rfl (by decide) ?_
                      refine E_aload_n at_X6_copy_22 rfl ?_
                      refine E_getfield (v := .ref 76) at_X6_copy_23 w65 rfl (by decide) rfl ?_
                      refine E_iload_n at_X6_copy_26 rfl ?_
                      refine E_ialN (l := hm) (v := hm.getD a1k 0) at_X6_copy_27 w76 (by omega) (by omega) rfl ?_
                      refine E_iconst (x := nI 2) at_X6_copy_28 (by decide) ?_
                      refine E_ic (t := 77) (b := false) at_X6_copy_29 rfl ((cn_eq (nI_toInt (by omega)) (nI_toInt (by omega))).trans (decide_eq_false (by omega))) ?_
                      refine E_aload_n at_X6_copy_32 rfl ?_
                      refine E_getfield (v := .ref 76) at_X6_copy_33 w65 rfl (by decide) rfl ?_
                      refine E_iload_n at_X6_copy_36 rfl ?_
                      refine E_ialN (l := hm) (v := hm.getD a2k 0) at_X6_copy_37 w76 (by omega) (by omega) rfl ?_
                      refine E_iconst (x := nI 2) at_X6_copy_38 (by decide) ?_
                      refine E_ic (t := 77) (b := false) at_X6_copy_39 rfl ((cn_eq (nI_toInt (by omega)) (nI_toInt (by omega))).trans (decide_eq_false (by omega))) ?_
                      refine E_aload_n at_X6_copy_42 rfl ?_
                      refine E_getfield (v := .ref 76) at_X6_copy_43 w65 rfl (by decide) rfl ?_
                      refine E_iload_n at_X6_copy_46 rfl ?_
                      refine E_ialN (l := hm) (v := hm.getD a1k 0) at_X6_copy_47 w76 (by omega) (by omega) rfl ?_
                      refine E_iconst (x := nI 1) at_X6_copy_48 (by decide) ?_
                      refine E_ic (t := 84) (b := false) at_X6_copy_49 rfl ((cn_ne (nI_toInt (by omega)) (nI_toInt (by omega))).trans (decide_eq_false (by omega))) ?_
                      refine E_aload_n at_X6_copy_52 rfl ?_
                      refine E_getfield (v := .ref 76) at_X6_copy_53 w65 rfl (by decide) rfl ?_
                      refine E_iload_n at_X6_copy_56 rfl ?_
                      refine E_ialN (l := hm) (v := hm.getD a2k 0) at_X6_copy_57 w76 (by omega) (by omega) rfl ?_
                      refine E_iconst (x := nI 1) at_X6_copy_58 (by decide) ?_
                      refine E_ic (t := 84) (b := false) at_X6_copy_59 rfl ((cn_ne (nI_toInt (by omega)) (nI_toInt (by omega))).trans (decide_eq_false (by omega))) ?_
                      refine E_aload_n at_X6_copy_62 rfl ?_
                      refine E_getfield (v := .ref 77) at_X6_copy_63 w65 rfl (by decide) rfl ?_
                      refine E_iload_n at_X6_copy_66 rfl ?_
                      refine E_ialN (l := so) (v := so.getD a1k 0) at_X6_copy_67 w77 (by omega) (by omega) rfl ?_
                      refine E_aload_n at_X6_copy_68 rfl ?_
                      refine E_getfield (v := .ref 77) at_X6_copy_69 w65 rfl (by decide) rfl ?_
                      refine E_iload_n at_X6_copy_72 rfl ?_
                      refine E_ialN (l := so) (v := so.getD a2k 0) at_X6_copy_73 w77 (by omega) (by omega) rfl ?_
                      refine E_ic (t := 84) (b := true) at_X6_copy_74 rfl ((cn_eq (nI_toInt (by omega)) (nI_toInt (by omega))).trans (decide_eq_true (by omega))) ?_
                      refine E_aload_n at_X6_copy_84 rfl ?_
                      refine E_getfield (v := .ref 76) at_X6_copy_85 w65 rfl (by decide) rfl ?_
                      refine E_iload_n at_X6_copy_88 rfl ?_
                      refine E_ialN (l := hm) (v := hm.getD a1k 0) at_X6_copy_89 w76 (by omega) (by omega) rfl ?_
                      refine E_if (t := 102) (b := false) at_X6_copy_90 rfl ((cn_eq (nI_toInt (by omega)) (by decide : (0 : Int32).toInt = 0)).trans (decide_eq_false (by omega))) ?_
                      refine E_aload_n at_X6_copy_93 rfl ?_
                      refine E_getfield (v := .ref 76) at_X6_copy_94 w65 rfl (by decide) rfl ?_
                      refine E_iload_n at_X6_copy_97 rfl ?_
                      refine E_ialN (l := hm) (v := hm.getD a2k 0) at_X6_copy_98 w76 (by omega) (by omega) rfl ?_
                      refine E_if (t := 109) (b := true) at_X6_copy_99 rfl ((cn_ne (nI_toInt (by omega)) (by decide : (0 : Int32).toInt = 0)).trans (decide_eq_true (by omega))) ?_
                      refine E_iload at_X6_copy_109 rfl ?_
                      refine E_if (t := 121) (b := true) at_X6_copy_111 rfl ((cn_ge (nI_toInt (by omega)) (by decide : (0 : Int32).toInt = 0)).trans (decide_eq_true (by omega))) ?_
                      refine E_iload_n at_X6_copy_121 rfl ?_
                      refine E_if (t := 157) (b := true) at_X6_copy_122 rfl ((cn_lt rfl (by decide : (0 : Int32).toInt = 0)).trans (decide_eq_true (by omega))) ?_
                      refine E_aload_n at_X6_copy_157 rfl ?_
                      refine E_bipush (x := (-5)) at_X6_copy_158 (by decide) ?_
                      refine E_callV (v := some (.int (-5))) (As := [.ref 65, .int (-5)]) (r0 := []) (cs2 := (ww im lf s d k ls rf rz ra rn rq lt m1 m2 m3 m4 bd (fc.set 5 ((fc.getD 5 0) + (nI 1))) hd sz el s g (fm.set 5 ((fm.getD 5 0) + (nI 1))) hm so si sh ce ca td wa kp la bf oo bo pw ow tr)) at_X6_copy_160 rfl rfl (Nat.le_of_ble_eq_true rfl) rfl (ab_rvOf w65 rfl) (L19_X6_no (by omega)) (by decide) w_lens ?_
                      exact E_iret at_X6_copy_163 rfl
                    · exact ⟨I, rfl, hf, iQ, iM, iT, iS, l_el, (lr.1), (lr.2.1), (lr.2.2.1), (by simp only [List.length_set]; exact (lr.2.2.2.1)), (by simp only [List.length_set]; exact (lr.2.2.2.2.1)), (lr.2.2.2.2.2.1), (lr.2.2.2.2.2.2.1), (lr.2.2.2.2.2.2.2.1), (lr.2.2.2.2.2.2.2.2.1), (lr.2.2.2.2.2.2.2.2.2.1), (lr.2.2.2.2.2.2.2.2.2.2.1), (lr.2.2.2.2.2.2.2.2.2.2.2.1), (lr.2.2.2.2.2.2.2.2.2.2.2.2.1), (lr.2.2.2.2.2.2.2.2.2.2.2.2.2.1), (lr.2.2.2.2.2.2.2.2.2.2.2.2.2.2.1), (lr.2.2.2.2.2.2.2.2.2.2.2.2.2.2.2.1), (lr.2.2.2.2.2.2.2.2.2.2.2.2.2.2.2.2.1), (lr.2.2.2.2.2.2.2.2.2.2.2.2.2.2.2.2.2.1), (lr.2.2.2.2.2.2.2.2.2.2.2.2.2.2.2.2.2.2.1), (lr.2.2.2.2.2.2.2.2.2.2.2.2.2.2.2.2.2.2.2.1), (lr.2.2.2.2.2.2.2.2.2.2.2.2.2.2.2.2.2.2.2.2)⟩
                · refine ⟨(-4), (im, lf, s, d, k, ls, rf, rz, ra, rn, rq, lt, m1, m2, m3, m4, bd, (fc.set 4 ((fc.getD 4 0) + (nI 1))), hd, sz, el, s, g, fm, hm, so, si, sh, ce, ca, td, wa, kp, la, bf, oo, bo, pw, ow, tr), (im, lf, s, d, k, ls, rf, rz, ra, rn, rq, lt, m1, m2, m3, m4, bd, (fc.set 4 ((fc.getD 4 0) + (nI 1))), hd, sz, el, s, g, (fm.set 4 ((fm.getD 4 0) + (nI 1))), hm, so, si, sh, ce, ca, td, wa, kp, la, bf, oo, bo, pw, ow, tr), ?_, ?_, ?_⟩
                  · show Ev ab_Z0 3 78 [.ref 0, .int (nI a1k), .int (nI a2k), .int a3, .int a4, .int a5] (ww im lf s d k ls rf rz ra rn rq lt m1 m2 m3 m4 bd fc hd sz el s g fm hm so si sh ce ca td wa kp la bf oo bo pw ow tr) (some (.int (-4)), (ww im lf s d k ls rf rz ra rn rq lt m1 m2 m3 m4 bd (fc.set 4 ((fc.getD 4 0) + (nI 1))) hd sz el s g fm hm so si sh ce ca td wa kp la bf oo bo pw ow tr))
                    refine Ef.in (md := mX5_copy) (L := [some (.ref 0), some (.int (nI a1k)), some (.int (nI a2k)), some (.int a3), some (.int a4), some (.int a5), none, none]) rfl (Nat.le_of_ble_eq_true rfl) rfl ?_
                    refine E_iload_n at_X5_copy_0 rfl ?_
                    refine E_callS (v := some (.int (nI 1))) (As := [.int (nI a1k)]) (r0 := []) (cs2 := (ww im lf s d k ls rf rz ra rn rq lt m1 m2 m3 m4 bd fc hd sz el s g fm hm so si sh ce ca td wa kp la bf oo bo pw ow tr)) at_X5_copy_1 rfl rfl (Nat.le_of_ble_eq_true rfl) rfl (L39_X5_isShelf (by omega) (by omega) (by omega)) (by decide) rfl ?_
                    refine E_if (t := 14) (b := false) at_X5_copy_4 rfl (by decide) ?_
                    refine E_iload_n at_X5_copy_7 rfl ?_
                    refine E_callS (v := some (.int (nI 1))) (As := [.int (nI a2k)]) (r0 := []) (cs2 := (ww im lf s d k ls rf rz ra rn rq lt m1 m2 m3 m4 bd fc hd sz el s g fm hm so si sh ce ca td wa kp la bf oo bo pw ow tr)) at_X5_copy_8 rfl rfl (Nat.le_of_ble_eq_true rfl) rfl (L39_X5_isShelf (by omega) (by omega) (by omega)) (by decide) rfl ?_
                    refine E_if (t := 20) (b := true) at_X5_copy_11 rfl (by decide) ?_
                    refine E_aload_n at_X5_copy_20 rfl ?_
                    refine E_getfield (v := .ref 31) at_X5_copy_21 w0 rfl (by decide) rfl ?_
                    refine E_iload_n at_X5_copy_24 rfl ?_
                    refine E_aalN (b := 49 + 2 * a1k) at_X5_copy_25 w31 (by omega) (w_shs (by omega)) ?_
                    refine E_astore (L2 := [some (.ref 0), some (.int (nI a1k)), some (.int (nI a2k)), some (.int a3), some (.int a4), some (.int a5), some (.ref (49 + 2 * a1k)), none]) at_X5_copy_26 rfl ?_
                    refine E_aload_n at_X5_copy_28 rfl ?_
                    refine E_getfield (v := .ref 31) at_X5_copy_29 w0 rfl (by decide) rfl ?_
                    refine E_iload_n at_X5_copy_32 rfl ?_
                    refine E_aalN (b := 49 + 2 * a2k) at_X5_copy_33 w31 (by omega) (w_shs (by omega)) ?_
                    refine E_astore (L2 := [some (.ref 0), some (.int (nI a1k)), some (.int (nI a2k)), some (.int a3), some (.int a4), some (.int a5), some (.ref (49 + 2 * a1k)), some (.ref (49 + 2 * a2k))]) at_X5_copy_34 rfl ?_
                    refine E_aload at_X5_copy_36 rfl ?_
                    have e1 : Ev ab_Z0 1 33 [.ref (49 + 2 * a1k)] (ww im lf s d k ls rf rz ra rn rq lt m1 m2 m3 m4 bd fc hd sz el s g fm hm so si sh ce ca td wa kp la bf oo bo pw ow tr) (some (.int (nI 0)), (ww im lf s d k ls rf rz ra rn rq lt m1 m2 m3 m4 bd fc hd sz el s g fm hm so si sh ce ca td wa kp la bf oo bo pw ow tr)) := by
                      refine Ef.in (md := mX3_isOtherThanRow) (L := [some (.ref (49 + 2 * a1k))]) rfl (Nat.le_of_ble_eq_true rfl) rfl ?_
                      refine E_aload_n at_X3_isOtherThanRow_0 rfl ?_
                      refine E_getfield (v := .int (nI (100 + so.getD a1k 0))) at_X3_isOtherThanRow_1 (w_shv (j := a1k) (by omega) u1 u2) rfl (by decide) rfl ?_
                      refine E_if (t := 20) (b := false) at_X3_isOtherThanRow_4 rfl ((cn_lt (nI_toInt (by omega)) (by decide : (0 : Int32).toInt = 0)).trans (decide_eq_false (by omega))) ?_
                      refine E_aload_n at_X3_isOtherThanRow_7 rfl ?_
                      refine E_getfield (v := .int (nI (100 + so.getD a1k 0))) at_X3_isOtherThanRow_8 (w_shv (j := a1k) (by omega) u1 u2) rfl (by decide) rfl ?_
                      refine E_bipush (x := nI 100) at_X3_isOtherThanRow_11 (by decide) ?_
                      refine E_ic (t := 20) (b := true) at_X3_isOtherThanRow_13 rfl ((cn_ge (nI_toInt (by omega)) (nI_toInt (by omega))).trans (decide_eq_true (by omega))) ?_
                      refine E_iconst (x := nI 0) at_X3_isOtherThanRow_20 (by decide) ?_
                      exact E_iret at_X3_isOtherThanRow_21 rfl
                    refine E_callV (v := some (.int (nI 0))) (As := [.ref (49 + 2 * a1k)]) (r0 := []) (cs2 := (ww im lf s d k ls rf rz ra rn rq lt m1 m2 m3 m4 bd fc hd sz el s g fm hm so si sh ce ca td wa kp la bf oo bo pw ow tr)) at_X5_copy_38 rfl rfl (Nat.le_of_ble_eq_true rfl) rfl (ab_rvOf (w_shv (j := a1k) (by omega) u1 u2) rfl) e1 (by decide) rfl ?_
                    refine E_if (t := 62) (b := false) at_X5_copy_41 rfl (by decide) ?_
                    refine E_aload at_X5_copy_44 rfl ?_
                    have e2 : Ev ab_Z0 1 33 [.ref (49 + 2 * a2k)] (ww im lf s d k ls rf rz ra rn rq lt m1 m2 m3 m4 bd fc hd sz el s g fm hm so si sh ce ca td wa kp la bf oo bo pw ow tr) (some (.int (nI 0)), (ww im lf s d k ls rf rz ra rn rq lt m1 m2 m3 m4 bd fc hd sz el s g fm hm so si sh ce ca td wa kp la bf oo bo pw ow tr)) := by
                      refine Ef.in (md := mX3_isOtherThanRow) (L := [some (.ref (49 + 2 * a2k))]) rfl (Nat.le_of_ble_eq_true rfl) rfl ?_
                      refine E_aload_n at_X3_isOtherThanRow_0 rfl ?_
                      refine E_getfield (v := .int (nI (100 + so.getD a2k 0))) at_X3_isOtherThanRow_1 (w_shv (j := a2k) (by omega) u21 u22) rfl (by decide) rfl ?_
                      refine E_if (t := 20) (b := false) at_X3_isOtherThanRow_4 rfl ((cn_lt (nI_toInt (by omega)) (by decide : (0 : Int32).toInt = 0)).trans (decide_eq_false (by omega))) ?_
                      refine E_aload_n at_X3_isOtherThanRow_7 rfl ?_
                      refine E_getfield (v := .int (nI (100 + so.getD a2k 0))) at_X3_isOtherThanRow_8 (w_shv (j := a2k) (by omega) u21 u22) rfl (by decide) rfl ?_
                      refine E_bipush (x := nI 100) at_X3_isOtherThanRow_11 (by decide) ?_
                      refine E_ic (t := 20) (b := true) at_X3_isOtherThanRow_13 rfl ((cn_ge (nI_toInt (by omega)) (nI_toInt (by omega))).trans (decide_eq_true (by omega))) ?_
                      refine E_iconst (x := nI 0) at_X3_isOtherThanRow_20 (by decide) ?_
                      exact E_iret at_X3_isOtherThanRow_21 rfl
                    refine E_callV (v := some (.int (nI 0))) (As := [.ref (49 + 2 * a2k)]) (r0 := []) (cs2 := (ww im lf s d k ls rf rz ra rn rq lt m1 m2 m3 m4 bd fc hd sz el s g fm hm so si sh ce ca td wa kp la bf oo bo pw ow tr)) at_X5_copy_46 rfl rfl (Nat.le_of_ble_eq_true rfl) rfl (ab_rvOf (w_shv (j := a2k) (by omega) u21 u22) rfl) e2 (by decide) rfl ?_
                    refine E_if (t := 62) (b := false) at_X5_copy_49 rfl (by decide) ?_
                    refine E_aload at_X5_copy_52 rfl ?_
                    refine E_aload at_X5_copy_54 rfl ?_
                    have e5 : Ev ab_Z0 2 34 [.ref (49 + 2 * a1k), .ref (49 + 2 * a2k)] (ww im lf s d k ls rf rz ra rn rq lt m1 m2 m3 m4 bd fc hd sz el s g fm hm so si sh ce ca td wa kp la bf oo bo pw ow tr) (some (.int (nI 0)), (ww im lf s d k ls rf rz ra rn rq lt m1 m2 m3 m4 bd fc hd sz el s g fm hm so si sh ce ca td wa kp la bf oo bo pw ow tr)) := by
                      refine Ef.in (md := mX3_isOfOtherSort) (L := [some (.ref (49 + 2 * a1k)), some (.ref (49 + 2 * a2k))]) rfl (Nat.le_of_ble_eq_true rfl) rfl ?_
                      refine E_aload_n at_X3_isOfOtherSort_0 rfl ?_
                      have e3 : Ev ab_Z0 1 32 [.ref (49 + 2 * a1k)] (ww im lf s d k ls rf rz ra rn rq lt m1 m2 m3 m4 bd fc hd sz el s g fm hm so si sh ce ca td wa kp la bf oo bo pw ow tr) (some (.int (nI 0)), (ww im lf s d k ls rf rz ra rn rq lt m1 m2 m3 m4 bd fc hd sz el s g fm hm so si sh ce ca td wa kp la bf oo bo pw ow tr)) := by
                        refine Ef.in (md := mX3_isEmpty) (L := [some (.ref (49 + 2 * a1k))]) rfl (Nat.le_of_ble_eq_true rfl) rfl ?_
                        refine E_aload_n at_X3_isEmpty_0 rfl ?_
                        refine E_getfield (v := .int (nI (100 + so.getD a1k 0))) at_X3_isEmpty_1 (w_shv (j := a1k) (by omega) u1 u2) rfl (by decide) rfl ?_
                        refine E_iconst (x := (-1)) at_X3_isEmpty_4 (by decide) ?_
                        refine E_ic (t := 12) (b := true) at_X3_isEmpty_5 rfl ((cn_ne (nI_toInt (by omega)) (by decide : (-1 : Int32).toInt = -1)).trans (decide_eq_true (by omega))) ?_
                        refine E_iconst (x := nI 0) at_X3_isEmpty_12 (by decide) ?_
                        exact E_iret at_X3_isEmpty_13 rfl
                      refine E_callV (v := some (.int (nI 0))) (As := [.ref (49 + 2 * a1k)]) (r0 := []) (cs2 := (ww im lf s d k ls rf rz ra rn rq lt m1 m2 m3 m4 bd fc hd sz el s g fm hm so si sh ce ca td wa kp la bf oo bo pw ow tr)) at_X3_isOfOtherSort_1 rfl rfl (Nat.le_of_ble_eq_true rfl) rfl (ab_rvOf (w_shv (j := a1k) (by omega) u1 u2) rfl) e3 (by decide) rfl ?_
                      refine E_if (t := 29) (b := false) at_X3_isOfOtherSort_4 rfl (by decide) ?_
                      refine E_aload_n at_X3_isOfOtherSort_7 rfl ?_
                      have e4 : Ev ab_Z0 1 32 [.ref (49 + 2 * a2k)] (ww im lf s d k ls rf rz ra rn rq lt m1 m2 m3 m4 bd fc hd sz el s g fm hm so si sh ce ca td wa kp la bf oo bo pw ow tr) (some (.int (nI 0)), (ww im lf s d k ls rf rz ra rn rq lt m1 m2 m3 m4 bd fc hd sz el s g fm hm so si sh ce ca td wa kp la bf oo bo pw ow tr)) := by
                        refine Ef.in (md := mX3_isEmpty) (L := [some (.ref (49 + 2 * a2k))]) rfl (Nat.le_of_ble_eq_true rfl) rfl ?_
                        refine E_aload_n at_X3_isEmpty_0 rfl ?_
                        refine E_getfield (v := .int (nI (100 + so.getD a2k 0))) at_X3_isEmpty_1 (w_shv (j := a2k) (by omega) u21 u22) rfl (by decide) rfl ?_
                        refine E_iconst (x := (-1)) at_X3_isEmpty_4 (by decide) ?_
                        refine E_ic (t := 12) (b := true) at_X3_isEmpty_5 rfl ((cn_ne (nI_toInt (by omega)) (by decide : (-1 : Int32).toInt = -1)).trans (decide_eq_true (by omega))) ?_
                        refine E_iconst (x := nI 0) at_X3_isEmpty_12 (by decide) ?_
                        exact E_iret at_X3_isEmpty_13 rfl
                      refine E_callV (v := some (.int (nI 0))) (As := [.ref (49 + 2 * a2k)]) (r0 := []) (cs2 := (ww im lf s d k ls rf rz ra rn rq lt m1 m2 m3 m4 bd fc hd sz el s g fm hm so si sh ce ca td wa kp la bf oo bo pw ow tr)) at_X3_isOfOtherSort_8 rfl rfl (Nat.le_of_ble_eq_true rfl) rfl (ab_rvOf (w_shv (j := a2k) (by omega) u21 u22) rfl) e4 (by decide) rfl ?_
                      refine E_if (t := 29) (b := false) at_X3_isOfOtherSort_11 rfl (by decide) ?_
                      refine E_aload_n at_X3_isOfOtherSort_14 rfl ?_
                      refine E_getfield (v := .int (nI (100 + so.getD a1k 0))) at_X3_isOfOtherSort_15 (w_shv (j := a1k) (by omega) u1 u2) rfl (by decide) rfl ?_
                      refine E_aload_n at_X3_isOfOtherSort_18 rfl ?_
                      refine E_getfield (v := .int (nI (100 + so.getD a2k 0))) at_X3_isOfOtherSort_19 (w_shv (j := a2k) (by omega) u21 u22) rfl (by decide) rfl ?_
                      refine E_ic (t := 29) (b := true) at_X3_isOfOtherSort_22 rfl ((cn_eq (nI_toInt (by omega)) (nI_toInt (by omega))).trans (decide_eq_true (by omega))) ?_
                      refine E_iconst (x := nI 0) at_X3_isOfOtherSort_29 (by decide) ?_
                      exact E_iret at_X3_isOfOtherSort_30 rfl
                    refine E_callV (v := some (.int (nI 0))) (As := [.ref (49 + 2 * a1k), .ref (49 + 2 * a2k)]) (r0 := []) (cs2 := (ww im lf s d k ls rf rz ra rn rq lt m1 m2 m3 m4 bd fc hd sz el s g fm hm so si sh ce ca td wa kp la bf oo bo pw ow tr)) at_X5_copy_56 rfl rfl (Nat.le_of_ble_eq_true rfl) rfl (ab_rvOf (w_shv (j := a1k) (by omega) u1 u2) rfl) e5 (by decide) rfl ?_
                    refine E_if (t := 68) (b := true) at_X5_copy_59 rfl (by decide) ?_
                    refine E_aload at_X5_copy_68 rfl ?_
                    have e6 : Ev ab_Z0 1 32 [.ref (49 + 2 * a1k)] (ww im lf s d k ls rf rz ra rn rq lt m1 m2 m3 m4 bd fc hd sz el s g fm hm so si sh ce ca td wa kp la bf oo bo pw ow tr) (some (.int (nI 0)), (ww im lf s d k ls rf rz ra rn rq lt m1 m2 m3 m4 bd fc hd sz el s g fm hm so si sh ce ca td wa kp la bf oo bo pw ow tr)) := by
                      refine Ef.in (md := mX3_isEmpty) (L := [some (.ref (49 + 2 * a1k))]) rfl (Nat.le_of_ble_eq_true rfl) rfl ?_
                      refine E_aload_n at_X3_isEmpty_0 rfl ?_
                      refine E_getfield (v := .int (nI (100 + so.getD a1k 0))) at_X3_isEmpty_1 (w_shv (j := a1k) (by omega) u1 u2) rfl (by decide) rfl ?_
                      refine E_iconst (x := (-1)) at_X3_isEmpty_4 (by decide) ?_
                      refine E_ic (t := 12) (b := true) at_X3_isEmpty_5 rfl ((cn_ne (nI_toInt (by omega)) (by decide : (-1 : Int32).toInt = -1)).trans (decide_eq_true (by omega))) ?_
                      refine E_iconst (x := nI 0) at_X3_isEmpty_12 (by decide) ?_
                      exact E_iret at_X3_isEmpty_13 rfl
                    refine E_callV (v := some (.int (nI 0))) (As := [.ref (49 + 2 * a1k)]) (r0 := []) (cs2 := (ww im lf s d k ls rf rz ra rn rq lt m1 m2 m3 m4 bd fc hd sz el s g fm hm so si sh ce ca td wa kp la bf oo bo pw ow tr)) at_X5_copy_70 rfl rfl (Nat.le_of_ble_eq_true rfl) rfl (ab_rvOf (w_shv (j := a1k) (by omega) u1 u2) rfl) e6 (by decide) rfl ?_
                    refine E_if (t := 84) (b := false) at_X5_copy_73 rfl (by decide) ?_
                    refine E_aload at_X5_copy_76 rfl ?_
                    have e7 : Ev ab_Z0 1 32 [.ref (49 + 2 * a2k)] (ww im lf s d k ls rf rz ra rn rq lt m1 m2 m3 m4 bd fc hd sz el s g fm hm so si sh ce ca td wa kp la bf oo bo pw ow tr) (some (.int (nI 0)), (ww im lf s d k ls rf rz ra rn rq lt m1 m2 m3 m4 bd fc hd sz el s g fm hm so si sh ce ca td wa kp la bf oo bo pw ow tr)) := by
                      refine Ef.in (md := mX3_isEmpty) (L := [some (.ref (49 + 2 * a2k))]) rfl (Nat.le_of_ble_eq_true rfl) rfl ?_
                      refine E_aload_n at_X3_isEmpty_0 rfl ?_
                      refine E_getfield (v := .int (nI (100 + so.getD a2k 0))) at_X3_isEmpty_1 (w_shv (j := a2k) (by omega) u21 u22) rfl (by decide) rfl ?_
                      refine E_iconst (x := (-1)) at_X3_isEmpty_4 (by decide) ?_
                      refine E_ic (t := 12) (b := true) at_X3_isEmpty_5 rfl ((cn_ne (nI_toInt (by omega)) (by decide : (-1 : Int32).toInt = -1)).trans (decide_eq_true (by omega))) ?_
                      refine E_iconst (x := nI 0) at_X3_isEmpty_12 (by decide) ?_
                      exact E_iret at_X3_isEmpty_13 rfl
                    refine E_callV (v := some (.int (nI 0))) (As := [.ref (49 + 2 * a2k)]) (r0 := []) (cs2 := (ww im lf s d k ls rf rz ra rn rq lt m1 m2 m3 m4 bd fc hd sz el s g fm hm so si sh ce ca td wa kp la bf oo bo pw ow tr)) at_X5_copy_78 rfl rfl (Nat.le_of_ble_eq_true rfl) rfl (ab_rvOf (w_shv (j := a2k) (by omega) u21 u22) rfl) e7 (by decide) rfl ?_
                    refine E_if (t := 90) (b := true) at_X5_copy_81 rfl (by decide) ?_
                    refine E_iload at_X5_copy_90 rfl ?_
                    refine E_if (t := 101) (b := false) at_X5_copy_92 rfl ((cn_ge rfl (by decide : (0 : Int32).toInt = 0)).trans (decide_eq_false (by omega))) ?_
                    refine E_aload_n rfl rfl ?_
                    refine E_iconst (x := nI 4) rfl (by decide) ?_
                    refine E_callV (v := some (.int (-4))) (As := [.ref 0, .int (nI 4)]) (r0 := []) (cs2 := (ww im lf s d k ls rf rz ra rn rq lt m1 m2 m3 m4 bd (fc.set 4 ((fc.getD 4 0) + (nI 1))) hd sz el s g fm hm so si sh ce ca td wa kp la bf oo bo pw ow tr)) rfl rfl rfl (Nat.le_of_ble_eq_true rfl) rfl (ab_rvOf w0 rfl) (L45_X5_refuse (by omega)) (by decide) w_lens ?_
                    exact E_iret rfl rfl
                  · show Ev ab_Z0 2 137 [.ref 65, .int (nI a1k), .int (nI a2k), .int a3, .int a4, .int a5] (ww im lf s d k ls rf rz ra rn rq lt m1 m2 m3 m4 bd (fc.set 4 ((fc.getD 4 0) + (nI 1))) hd sz el s g fm hm so si sh ce ca td wa kp la bf oo bo pw ow tr) (some (.int (-4)), (ww im lf s d k ls rf rz ra rn rq lt m1 m2 m3 m4 bd (fc.set 4 ((fc.getD 4 0) + (nI 1))) hd sz el s g (fm.set 4 ((fm.getD 4 0) + (nI 1))) hm so si sh ce ca td wa kp la bf oo bo pw ow tr))
                    refine Ef.in (md := mX6_copy) (L := [some (.ref 65), some (.int (nI a1k)), some (.int (nI a2k)), some (.int a3), some (.int a4), some (.int a5), none]) rfl (Nat.le_of_ble_eq_true rfl) rfl ?_
                    refine E_aload_n at_X6_copy_0 rfl ?_
                    refine E_iload_n at_X6_copy_1 rfl ?_
                    refine E_callV (v := some (.int (nI 1))) (As := [.ref 65, .int (nI a1k)]) (r0 := []) (cs2 := (ww im lf s d k ls rf rz ra rn rq lt m1 m2 m3 m4 bd (fc.set 4 ((fc.getD 4 0) + (nI 1))) hd sz el s g fm hm so si sh ce ca td wa kp la bf oo bo pw ow tr)) at_X6_copy_2 rfl rfl (Nat.le_of_ble_eq_true rfl) rfl (ab_rvOf w65 rfl) (L40_X6_isShelf (by omega) (by omega) (by omega)) (by decide) rfl ?_
                    refine E_if (t := 16) (b := false) at_X6_copy_5 rfl (by decide) ?_
                    refine E_aload_n at_X6_copy_8 rfl ?_
                    refine E_iload_n at_X6_copy_9 rfl ?_
                    refine E_callV (v := some (.int (nI 1))) (As := [.ref 65, .int (nI a2k)]) (r0 := []) (cs2 := (ww im lf s d k ls rf rz ra rn rq lt m1 m2 m3 m4 bd (fc.set 4 ((fc.getD 4 0) + (nI 1))) hd sz el s g fm hm so si sh ce ca td wa kp la bf oo bo pw ow tr)) at_X6_copy_10 rfl rfl (Nat.le_of_ble_eq_true rfl) rfl (ab_rvOf w65 rfl) (L40_X6_isShelf (by omega) (by omega) (by omega)) (by decide) rfl ?_
                    refine E_if (t := 22) (b := true) at_X6_copy_13 rfl (by decide) ?_
                    refine E_aload_n at_X6_copy_22 rfl ?_
                    refine E_getfield (v := .ref 76) at_X6_copy_23 w65 rfl (by decide) rfl ?_
                    refine E_iload_n at_X6_copy_26 rfl ?_
                    refine E_ialN (l := hm) (v := hm.getD a1k 0) at_X6_copy_27 w76 (by omega) (by omega) rfl ?_
                    refine E_iconst (x := nI 2) at_X6_copy_28 (by decide) ?_
                    refine E_ic (t := 77) (b := false) at_X6_copy_29 rfl ((cn_eq (nI_toInt (by omega)) (nI_toInt (by omega))).trans (decide_eq_false (by omega))) ?_
                    refine E_aload_n at_X6_copy_32 rfl ?_
                    refine E_getfield (v := .ref 76) at_X6_copy_33 w65 rfl (by decide) rfl ?_
                    refine E_iload_n at_X6_copy_36 rfl ?_
                    refine E_ialN (l := hm) (v := hm.getD a2k 0) at_X6_copy_37 w76 (by omega) (by omega) rfl ?_
                    refine E_iconst (x := nI 2) at_X6_copy_38 (by decide) ?_
                    refine E_ic (t := 77) (b := false) at_X6_copy_39 rfl ((cn_eq (nI_toInt (by omega)) (nI_toInt (by omega))).trans (decide_eq_false (by omega))) ?_
                    refine E_aload_n at_X6_copy_42 rfl ?_
                    refine E_getfield (v := .ref 76) at_X6_copy_43 w65 rfl (by decide) rfl ?_
                    refine E_iload_n at_X6_copy_46 rfl ?_
                    refine E_ialN (l := hm) (v := hm.getD a1k 0) at_X6_copy_47 w76 (by omega) (by omega) rfl ?_
                    refine E_iconst (x := nI 1) at_X6_copy_48 (by decide) ?_
                    refine E_ic (t := 84) (b := false) at_X6_copy_49 rfl ((cn_ne (nI_toInt (by omega)) (nI_toInt (by omega))).trans (decide_eq_false (by omega))) ?_
                    refine E_aload_n at_X6_copy_52 rfl ?_
                    refine E_getfield (v := .ref 76) at_X6_copy_53 w65 rfl (by decide) rfl ?_
                    refine E_iload_n at_X6_copy_56 rfl ?_
                    refine E_ialN (l := hm) (v := hm.getD a2k 0) at_X6_copy_57 w76 (by omega) (by omega) rfl ?_
                    refine E_iconst (x := nI 1) at_X6_copy_58 (by decide) ?_
                    refine E_ic (t := 84) (b := false) at_X6_copy_59 rfl ((cn_ne (nI_toInt (by omega)) (nI_toInt (by omega))).trans (decide_eq_false (by omega))) ?_
                    refine E_aload_n at_X6_copy_62 rfl ?_
                    refine E_getfield (v := .ref 77) at_X6_copy_63 w65 rfl (by decide) rfl ?_
                    refine E_iload_n at_X6_copy_66 rfl ?_
                    refine E_ialN (l := so) (v := so.getD a1k 0) at_X6_copy_67 w77 (by omega) (by omega) rfl ?_
                    refine E_aload_n at_X6_copy_68 rfl ?_
                    refine E_getfield (v := .ref 77) at_X6_copy_69 w65 rfl (by decide) rfl ?_
                    refine E_iload_n at_X6_copy_72 rfl ?_
                    refine E_ialN (l := so) (v := so.getD a2k 0) at_X6_copy_73 w77 (by omega) (by omega) rfl ?_
                    refine E_ic (t := 84) (b := true) at_X6_copy_74 rfl ((cn_eq (nI_toInt (by omega)) (nI_toInt (by omega))).trans (decide_eq_true (by omega))) ?_
                    refine E_aload_n at_X6_copy_84 rfl ?_
                    refine E_getfield (v := .ref 76) at_X6_copy_85 w65 rfl (by decide) rfl ?_
                    refine E_iload_n at_X6_copy_88 rfl ?_
                    refine E_ialN (l := hm) (v := hm.getD a1k 0) at_X6_copy_89 w76 (by omega) (by omega) rfl ?_
                    refine E_if (t := 102) (b := false) at_X6_copy_90 rfl ((cn_eq (nI_toInt (by omega)) (by decide : (0 : Int32).toInt = 0)).trans (decide_eq_false (by omega))) ?_
                    refine E_aload_n at_X6_copy_93 rfl ?_
                    refine E_getfield (v := .ref 76) at_X6_copy_94 w65 rfl (by decide) rfl ?_
                    refine E_iload_n at_X6_copy_97 rfl ?_
                    refine E_ialN (l := hm) (v := hm.getD a2k 0) at_X6_copy_98 w76 (by omega) (by omega) rfl ?_
                    refine E_if (t := 109) (b := true) at_X6_copy_99 rfl ((cn_ne (nI_toInt (by omega)) (by decide : (0 : Int32).toInt = 0)).trans (decide_eq_true (by omega))) ?_
                    refine E_iload at_X6_copy_109 rfl ?_
                    refine E_if (t := 121) (b := false) at_X6_copy_111 rfl ((cn_ge rfl (by decide : (0 : Int32).toInt = 0)).trans (decide_eq_false (by omega))) ?_
                    refine E_aload_n rfl rfl ?_
                    refine E_bipush (x := (-4)) rfl (by decide) ?_
                    refine E_callV (v := some (.int (-4))) (As := [.ref 65, .int (-4)]) (r0 := []) (cs2 := (ww im lf s d k ls rf rz ra rn rq lt m1 m2 m3 m4 bd (fc.set 4 ((fc.getD 4 0) + (nI 1))) hd sz el s g (fm.set 4 ((fm.getD 4 0) + (nI 1))) hm so si sh ce ca td wa kp la bf oo bo pw ow tr)) rfl rfl rfl (Nat.le_of_ble_eq_true rfl) rfl (ab_rvOf w65 rfl) (L46_X6_no (by omega)) (by decide) w_lens ?_
                    exact E_iret rfl rfl
                  · exact ⟨I, rfl, hf, iQ, iM, iT, iS, l_el, (lr.1), (lr.2.1), (lr.2.2.1), (by simp only [List.length_set]; exact (lr.2.2.2.1)), (by simp only [List.length_set]; exact (lr.2.2.2.2.1)), (lr.2.2.2.2.2.1), (lr.2.2.2.2.2.2.1), (lr.2.2.2.2.2.2.2.1), (lr.2.2.2.2.2.2.2.2.1), (lr.2.2.2.2.2.2.2.2.2.1), (lr.2.2.2.2.2.2.2.2.2.2.1), (lr.2.2.2.2.2.2.2.2.2.2.2.1), (lr.2.2.2.2.2.2.2.2.2.2.2.2.1), (lr.2.2.2.2.2.2.2.2.2.2.2.2.2.1), (lr.2.2.2.2.2.2.2.2.2.2.2.2.2.2.1), (lr.2.2.2.2.2.2.2.2.2.2.2.2.2.2.2.1), (lr.2.2.2.2.2.2.2.2.2.2.2.2.2.2.2.2.1), (lr.2.2.2.2.2.2.2.2.2.2.2.2.2.2.2.2.2.1), (lr.2.2.2.2.2.2.2.2.2.2.2.2.2.2.2.2.2.2.1), (lr.2.2.2.2.2.2.2.2.2.2.2.2.2.2.2.2.2.2.2.1), (lr.2.2.2.2.2.2.2.2.2.2.2.2.2.2.2.2.2.2.2.2)⟩
              · refine ⟨(-2), (im, lf, s, d, k, ls, rf, rz, ra, rn, rq, lt, m1, m2, m3, m4, bd, (fc.set 2 ((fc.getD 2 0) + (nI 1))), hd, sz, el, s, g, fm, hm, so, si, sh, ce, ca, td, wa, kp, la, bf, oo, bo, pw, ow, tr), (im, lf, s, d, k, ls, rf, rz, ra, rn, rq, lt, m1, m2, m3, m4, bd, (fc.set 2 ((fc.getD 2 0) + (nI 1))), hd, sz, el, s, g, (fm.set 2 ((fm.getD 2 0) + (nI 1))), hm, so, si, sh, ce, ca, td, wa, kp, la, bf, oo, bo, pw, ow, tr), ?_, ?_, ?_⟩
                · show Ev ab_Z0 3 78 [.ref 0, .int (nI a1k), .int (nI a2k), .int a3, .int a4, .int a5] (ww im lf s d k ls rf rz ra rn rq lt m1 m2 m3 m4 bd fc hd sz el s g fm hm so si sh ce ca td wa kp la bf oo bo pw ow tr) (some (.int (-2)), (ww im lf s d k ls rf rz ra rn rq lt m1 m2 m3 m4 bd (fc.set 2 ((fc.getD 2 0) + (nI 1))) hd sz el s g fm hm so si sh ce ca td wa kp la bf oo bo pw ow tr))
                  refine Ef.in (md := mX5_copy) (L := [some (.ref 0), some (.int (nI a1k)), some (.int (nI a2k)), some (.int a3), some (.int a4), some (.int a5), none, none]) rfl (Nat.le_of_ble_eq_true rfl) rfl ?_
                  refine E_iload_n at_X5_copy_0 rfl ?_
                  refine E_callS (v := some (.int (nI 1))) (As := [.int (nI a1k)]) (r0 := []) (cs2 := (ww im lf s d k ls rf rz ra rn rq lt m1 m2 m3 m4 bd fc hd sz el s g fm hm so si sh ce ca td wa kp la bf oo bo pw ow tr)) at_X5_copy_1 rfl rfl (Nat.le_of_ble_eq_true rfl) rfl (L39_X5_isShelf (by omega) (by omega) (by omega)) (by decide) rfl ?_
                  refine E_if (t := 14) (b := false) at_X5_copy_4 rfl (by decide) ?_
                  refine E_iload_n at_X5_copy_7 rfl ?_
                  refine E_callS (v := some (.int (nI 1))) (As := [.int (nI a2k)]) (r0 := []) (cs2 := (ww im lf s d k ls rf rz ra rn rq lt m1 m2 m3 m4 bd fc hd sz el s g fm hm so si sh ce ca td wa kp la bf oo bo pw ow tr)) at_X5_copy_8 rfl rfl (Nat.le_of_ble_eq_true rfl) rfl (L39_X5_isShelf (by omega) (by omega) (by omega)) (by decide) rfl ?_
                  refine E_if (t := 20) (b := true) at_X5_copy_11 rfl (by decide) ?_
                  refine E_aload_n at_X5_copy_20 rfl ?_
                  refine E_getfield (v := .ref 31) at_X5_copy_21 w0 rfl (by decide) rfl ?_
                  refine E_iload_n at_X5_copy_24 rfl ?_
                  refine E_aalN (b := 49 + 2 * a1k) at_X5_copy_25 w31 (by omega) (w_shs (by omega)) ?_
                  refine E_astore (L2 := [some (.ref 0), some (.int (nI a1k)), some (.int (nI a2k)), some (.int a3), some (.int a4), some (.int a5), some (.ref (49 + 2 * a1k)), none]) at_X5_copy_26 rfl ?_
                  refine E_aload_n at_X5_copy_28 rfl ?_
                  refine E_getfield (v := .ref 31) at_X5_copy_29 w0 rfl (by decide) rfl ?_
                  refine E_iload_n at_X5_copy_32 rfl ?_
                  refine E_aalN (b := 49 + 2 * a2k) at_X5_copy_33 w31 (by omega) (w_shs (by omega)) ?_
                  refine E_astore (L2 := [some (.ref 0), some (.int (nI a1k)), some (.int (nI a2k)), some (.int a3), some (.int a4), some (.int a5), some (.ref (49 + 2 * a1k)), some (.ref (49 + 2 * a2k))]) at_X5_copy_34 rfl ?_
                  refine E_aload at_X5_copy_36 rfl ?_
                  have e1 : Ev ab_Z0 1 33 [.ref (49 + 2 * a1k)] (ww im lf s d k ls rf rz ra rn rq lt m1 m2 m3 m4 bd fc hd sz el s g fm hm so si sh ce ca td wa kp la bf oo bo pw ow tr) (some (.int (nI 0)), (ww im lf s d k ls rf rz ra rn rq lt m1 m2 m3 m4 bd fc hd sz el s g fm hm so si sh ce ca td wa kp la bf oo bo pw ow tr)) := by
                    refine Ef.in (md := mX3_isOtherThanRow) (L := [some (.ref (49 + 2 * a1k))]) rfl (Nat.le_of_ble_eq_true rfl) rfl ?_
                    refine E_aload_n at_X3_isOtherThanRow_0 rfl ?_
                    refine E_getfield (v := .int (nI (100 + so.getD a1k 0))) at_X3_isOtherThanRow_1 (w_shv (j := a1k) (by omega) u1 u2) rfl (by decide) rfl ?_
                    refine E_if (t := 20) (b := false) at_X3_isOtherThanRow_4 rfl ((cn_lt (nI_toInt (by omega)) (by decide : (0 : Int32).toInt = 0)).trans (decide_eq_false (by omega))) ?_
                    refine E_aload_n at_X3_isOtherThanRow_7 rfl ?_
                    refine E_getfield (v := .int (nI (100 + so.getD a1k 0))) at_X3_isOtherThanRow_8 (w_shv (j := a1k) (by omega) u1 u2) rfl (by decide) rfl ?_
                    refine E_bipush (x := nI 100) at_X3_isOtherThanRow_11 (by decide) ?_
                    refine E_ic (t := 20) (b := true) at_X3_isOtherThanRow_13 rfl ((cn_ge (nI_toInt (by omega)) (nI_toInt (by omega))).trans (decide_eq_true (by omega))) ?_
                    refine E_iconst (x := nI 0) at_X3_isOtherThanRow_20 (by decide) ?_
                    exact E_iret at_X3_isOtherThanRow_21 rfl
                  refine E_callV (v := some (.int (nI 0))) (As := [.ref (49 + 2 * a1k)]) (r0 := []) (cs2 := (ww im lf s d k ls rf rz ra rn rq lt m1 m2 m3 m4 bd fc hd sz el s g fm hm so si sh ce ca td wa kp la bf oo bo pw ow tr)) at_X5_copy_38 rfl rfl (Nat.le_of_ble_eq_true rfl) rfl (ab_rvOf (w_shv (j := a1k) (by omega) u1 u2) rfl) e1 (by decide) rfl ?_
                  refine E_if (t := 62) (b := false) at_X5_copy_41 rfl (by decide) ?_
                  refine E_aload at_X5_copy_44 rfl ?_
                  have e2 : Ev ab_Z0 1 33 [.ref (49 + 2 * a2k)] (ww im lf s d k ls rf rz ra rn rq lt m1 m2 m3 m4 bd fc hd sz el s g fm hm so si sh ce ca td wa kp la bf oo bo pw ow tr) (some (.int (nI 0)), (ww im lf s d k ls rf rz ra rn rq lt m1 m2 m3 m4 bd fc hd sz el s g fm hm so si sh ce ca td wa kp la bf oo bo pw ow tr)) := by
                    refine Ef.in (md := mX3_isOtherThanRow) (L := [some (.ref (49 + 2 * a2k))]) rfl (Nat.le_of_ble_eq_true rfl) rfl ?_
                    refine E_aload_n at_X3_isOtherThanRow_0 rfl ?_
                    refine E_getfield (v := .int (nI (100 + so.getD a2k 0))) at_X3_isOtherThanRow_1 (w_shv (j := a2k) (by omega) u21 u22) rfl (by decide) rfl ?_
                    refine E_if (t := 20) (b := false) at_X3_isOtherThanRow_4 rfl ((cn_lt (nI_toInt (by omega)) (by decide : (0 : Int32).toInt = 0)).trans (decide_eq_false (by omega))) ?_
                    refine E_aload_n at_X3_isOtherThanRow_7 rfl ?_
                    refine E_getfield (v := .int (nI (100 + so.getD a2k 0))) at_X3_isOtherThanRow_8 (w_shv (j := a2k) (by omega) u21 u22) rfl (by decide) rfl ?_
                    refine E_bipush (x := nI 100) at_X3_isOtherThanRow_11 (by decide) ?_
                    refine E_ic (t := 20) (b := true) at_X3_isOtherThanRow_13 rfl ((cn_ge (nI_toInt (by omega)) (nI_toInt (by omega))).trans (decide_eq_true (by omega))) ?_
                    refine E_iconst (x := nI 0) at_X3_isOtherThanRow_20 (by decide) ?_
                    exact E_iret at_X3_isOtherThanRow_21 rfl
                  refine E_callV (v := some (.int (nI 0))) (As := [.ref (49 + 2 * a2k)]) (r0 := []) (cs2 := (ww im lf s d k ls rf rz ra rn rq lt m1 m2 m3 m4 bd fc hd sz el s g fm hm so si sh ce ca td wa kp la bf oo bo pw ow tr)) at_X5_copy_46 rfl rfl (Nat.le_of_ble_eq_true rfl) rfl (ab_rvOf (w_shv (j := a2k) (by omega) u21 u22) rfl) e2 (by decide) rfl ?_
                  refine E_if (t := 62) (b := false) at_X5_copy_49 rfl (by decide) ?_
                  refine E_aload at_X5_copy_52 rfl ?_
                  refine E_aload at_X5_copy_54 rfl ?_
                  have e5 : Ev ab_Z0 2 34 [.ref (49 + 2 * a1k), .ref (49 + 2 * a2k)] (ww im lf s d k ls rf rz ra rn rq lt m1 m2 m3 m4 bd fc hd sz el s g fm hm so si sh ce ca td wa kp la bf oo bo pw ow tr) (some (.int (nI 1)), (ww im lf s d k ls rf rz ra rn rq lt m1 m2 m3 m4 bd fc hd sz el s g fm hm so si sh ce ca td wa kp la bf oo bo pw ow tr)) := by
                    refine Ef.in (md := mX3_isOfOtherSort) (L := [some (.ref (49 + 2 * a1k)), some (.ref (49 + 2 * a2k))]) rfl (Nat.le_of_ble_eq_true rfl) rfl ?_
                    refine E_aload_n at_X3_isOfOtherSort_0 rfl ?_
                    have e3 : Ev ab_Z0 1 32 [.ref (49 + 2 * a1k)] (ww im lf s d k ls rf rz ra rn rq lt m1 m2 m3 m4 bd fc hd sz el s g fm hm so si sh ce ca td wa kp la bf oo bo pw ow tr) (some (.int (nI 0)), (ww im lf s d k ls rf rz ra rn rq lt m1 m2 m3 m4 bd fc hd sz el s g fm hm so si sh ce ca td wa kp la bf oo bo pw ow tr)) := by
                      refine Ef.in (md := mX3_isEmpty) (L := [some (.ref (49 + 2 * a1k))]) rfl (Nat.le_of_ble_eq_true rfl) rfl ?_
                      refine E_aload_n at_X3_isEmpty_0 rfl ?_
                      refine E_getfield (v := .int (nI (100 + so.getD a1k 0))) at_X3_isEmpty_1 (w_shv (j := a1k) (by omega) u1 u2) rfl (by decide) rfl ?_
                      refine E_iconst (x := (-1)) at_X3_isEmpty_4 (by decide) ?_
                      refine E_ic (t := 12) (b := true) at_X3_isEmpty_5 rfl ((cn_ne (nI_toInt (by omega)) (by decide : (-1 : Int32).toInt = -1)).trans (decide_eq_true (by omega))) ?_
                      refine E_iconst (x := nI 0) at_X3_isEmpty_12 (by decide) ?_
                      exact E_iret at_X3_isEmpty_13 rfl
                    refine E_callV (v := some (.int (nI 0))) (As := [.ref (49 + 2 * a1k)]) (r0 := []) (cs2 := (ww im lf s d k ls rf rz ra rn rq lt m1 m2 m3 m4 bd fc hd sz el s g fm hm so si sh ce ca td wa kp la bf oo bo pw ow tr)) at_X3_isOfOtherSort_1 rfl rfl (Nat.le_of_ble_eq_true rfl) rfl (ab_rvOf (w_shv (j := a1k) (by omega) u1 u2) rfl) e3 (by decide) rfl ?_
                    refine E_if (t := 29) (b := false) at_X3_isOfOtherSort_4 rfl (by decide) ?_
                    refine E_aload_n at_X3_isOfOtherSort_7 rfl ?_
                    have e4 : Ev ab_Z0 1 32 [.ref (49 + 2 * a2k)] (ww im lf s d k ls rf rz ra rn rq lt m1 m2 m3 m4 bd fc hd sz el s g fm hm so si sh ce ca td wa kp la bf oo bo pw ow tr) (some (.int (nI 0)), (ww im lf s d k ls rf rz ra rn rq lt m1 m2 m3 m4 bd fc hd sz el s g fm hm so si sh ce ca td wa kp la bf oo bo pw ow tr)) := by
                      refine Ef.in (md := mX3_isEmpty) (L := [some (.ref (49 + 2 * a2k))]) rfl (Nat.le_of_ble_eq_true rfl) rfl ?_
                      refine E_aload_n at_X3_isEmpty_0 rfl ?_
                      refine E_getfield (v := .int (nI (100 + so.getD a2k 0))) at_X3_isEmpty_1 (w_shv (j := a2k) (by omega) u21 u22) rfl (by decide) rfl ?_
                      refine E_iconst (x := (-1)) at_X3_isEmpty_4 (by decide) ?_
                      refine E_ic (t := 12) (b := true) at_X3_isEmpty_5 rfl ((cn_ne (nI_toInt (by omega)) (by decide : (-1 : Int32).toInt = -1)).trans (decide_eq_true (by omega))) ?_
                      refine E_iconst (x := nI 0) at_X3_isEmpty_12 (by decide) ?_
                      exact E_iret at_X3_isEmpty_13 rfl
                    refine E_callV (v := some (.int (nI 0))) (As := [.ref (49 + 2 * a2k)]) (r0 := []) (cs2 := (ww im lf s d k ls rf rz ra rn rq lt m1 m2 m3 m4 bd fc hd sz el s g fm hm so si sh ce ca td wa kp la bf oo bo pw ow tr)) at_X3_isOfOtherSort_8 rfl rfl (Nat.le_of_ble_eq_true rfl) rfl (ab_rvOf (w_shv (j := a2k) (by omega) u21 u22) rfl) e4 (by decide) rfl ?_
                    refine E_if (t := 29) (b := false) at_X3_isOfOtherSort_11 rfl (by decide) ?_
                    refine E_aload_n at_X3_isOfOtherSort_14 rfl ?_
                    refine E_getfield (v := .int (nI (100 + so.getD a1k 0))) at_X3_isOfOtherSort_15 (w_shv (j := a1k) (by omega) u1 u2) rfl (by decide) rfl ?_
                    refine E_aload_n at_X3_isOfOtherSort_18 rfl ?_
                    refine E_getfield (v := .int (nI (100 + so.getD a2k 0))) at_X3_isOfOtherSort_19 (w_shv (j := a2k) (by omega) u21 u22) rfl (by decide) rfl ?_
                    refine E_ic (t := 29) (b := false) at_X3_isOfOtherSort_22 rfl ((cn_eq (nI_toInt (by omega)) (nI_toInt (by omega))).trans (decide_eq_false (by omega))) ?_
                    refine E_iconst (x := nI 1) rfl (by decide) ?_
                    refine E_goto (t := 30) rfl rfl ?_
                    exact E_iret at_X3_isOfOtherSort_30 rfl
                  refine E_callV (v := some (.int (nI 1))) (As := [.ref (49 + 2 * a1k), .ref (49 + 2 * a2k)]) (r0 := []) (cs2 := (ww im lf s d k ls rf rz ra rn rq lt m1 m2 m3 m4 bd fc hd sz el s g fm hm so si sh ce ca td wa kp la bf oo bo pw ow tr)) at_X5_copy_56 rfl rfl (Nat.le_of_ble_eq_true rfl) rfl (ab_rvOf (w_shv (j := a1k) (by omega) u1 u2) rfl) e5 (by decide) rfl ?_
                  refine E_if (t := 68) (b := false) at_X5_copy_59 rfl (by decide) ?_
                  refine E_aload_n at_X5_copy_62 rfl ?_
                  refine E_iconst (x := nI 2) at_X5_copy_63 (by decide) ?_
                  refine E_callV (v := some (.int (-2))) (As := [.ref 0, .int (nI 2)]) (r0 := []) (cs2 := (ww im lf s d k ls rf rz ra rn rq lt m1 m2 m3 m4 bd (fc.set 2 ((fc.getD 2 0) + (nI 1))) hd sz el s g fm hm so si sh ce ca td wa kp la bf oo bo pw ow tr)) at_X5_copy_64 rfl rfl (Nat.le_of_ble_eq_true rfl) rfl (ab_rvOf w0 rfl) (L55_X5_refuse (by omega)) (by decide) w_lens ?_
                  exact E_iret at_X5_copy_67 rfl
                · show Ev ab_Z0 2 137 [.ref 65, .int (nI a1k), .int (nI a2k), .int a3, .int a4, .int a5] (ww im lf s d k ls rf rz ra rn rq lt m1 m2 m3 m4 bd (fc.set 2 ((fc.getD 2 0) + (nI 1))) hd sz el s g fm hm so si sh ce ca td wa kp la bf oo bo pw ow tr) (some (.int (-2)), (ww im lf s d k ls rf rz ra rn rq lt m1 m2 m3 m4 bd (fc.set 2 ((fc.getD 2 0) + (nI 1))) hd sz el s g (fm.set 2 ((fm.getD 2 0) + (nI 1))) hm so si sh ce ca td wa kp la bf oo bo pw ow tr))
                  refine Ef.in (md := mX6_copy) (L := [some (.ref 65), some (.int (nI a1k)), some (.int (nI a2k)), some (.int a3), some (.int a4), some (.int a5), none]) rfl (Nat.le_of_ble_eq_true rfl) rfl ?_
                  refine E_aload_n at_X6_copy_0 rfl ?_
                  refine E_iload_n at_X6_copy_1 rfl ?_
                  refine E_callV (v := some (.int (nI 1))) (As := [.ref 65, .int (nI a1k)]) (r0 := []) (cs2 := (ww im lf s d k ls rf rz ra rn rq lt m1 m2 m3 m4 bd (fc.set 2 ((fc.getD 2 0) + (nI 1))) hd sz el s g fm hm so si sh ce ca td wa kp la bf oo bo pw ow tr)) at_X6_copy_2 rfl rfl (Nat.le_of_ble_eq_true rfl) rfl (ab_rvOf w65 rfl) (L40_X6_isShelf (by omega) (by omega) (by omega)) (by decide) rfl ?_
                  refine E_if (t := 16) (b := false) at_X6_copy_5 rfl (by decide) ?_
                  refine E_aload_n at_X6_copy_8 rfl ?_
                  refine E_iload_n at_X6_copy_9 rfl ?_
                  refine E_callV (v := some (.int (nI 1))) (As := [.ref 65, .int (nI a2k)]) (r0 := []) (cs2 := (ww im lf s d k ls rf rz ra rn rq lt m1 m2 m3 m4 bd (fc.set 2 ((fc.getD 2 0) + (nI 1))) hd sz el s g fm hm so si sh ce ca td wa kp la bf oo bo pw ow tr)) at_X6_copy_10 rfl rfl (Nat.le_of_ble_eq_true rfl) rfl (ab_rvOf w65 rfl) (L40_X6_isShelf (by omega) (by omega) (by omega)) (by decide) rfl ?_
                  refine E_if (t := 22) (b := true) at_X6_copy_13 rfl (by decide) ?_
                  refine E_aload_n at_X6_copy_22 rfl ?_
                  refine E_getfield (v := .ref 76) at_X6_copy_23 w65 rfl (by decide) rfl ?_
                  refine E_iload_n at_X6_copy_26 rfl ?_
                  refine E_ialN (l := hm) (v := hm.getD a1k 0) at_X6_copy_27 w76 (by omega) (by omega) rfl ?_
                  refine E_iconst (x := nI 2) at_X6_copy_28 (by decide) ?_
                  refine E_ic (t := 77) (b := false) at_X6_copy_29 rfl ((cn_eq (nI_toInt (by omega)) (nI_toInt (by omega))).trans (decide_eq_false (by omega))) ?_
                  refine E_aload_n at_X6_copy_32 rfl ?_
                  refine E_getfield (v := .ref 76) at_X6_copy_33 w65 rfl (by decide) rfl ?_
                  refine E_iload_n at_X6_copy_36 rfl ?_
                  refine E_ialN (l := hm) (v := hm.getD a2k 0) at_X6_copy_37 w76 (by omega) (by omega) rfl ?_
                  refine E_iconst (x := nI 2) at_X6_copy_38 (by decide) ?_
                  refine E_ic (t := 77) (b := false) at_X6_copy_39 rfl ((cn_eq (nI_toInt (by omega)) (nI_toInt (by omega))).trans (decide_eq_false (by omega))) ?_
                  refine E_aload_n at_X6_copy_42 rfl ?_
                  refine E_getfield (v := .ref 76) at_X6_copy_43 w65 rfl (by decide) rfl ?_
                  refine E_iload_n at_X6_copy_46 rfl ?_
                  refine E_ialN (l := hm) (v := hm.getD a1k 0) at_X6_copy_47 w76 (by omega) (by omega) rfl ?_
                  refine E_iconst (x := nI 1) at_X6_copy_48 (by decide) ?_
                  refine E_ic (t := 84) (b := false) at_X6_copy_49 rfl ((cn_ne (nI_toInt (by omega)) (nI_toInt (by omega))).trans (decide_eq_false (by omega))) ?_
                  refine E_aload_n at_X6_copy_52 rfl ?_
                  refine E_getfield (v := .ref 76) at_X6_copy_53 w65 rfl (by decide) rfl ?_
                  refine E_iload_n at_X6_copy_56 rfl ?_
                  refine E_ialN (l := hm) (v := hm.getD a2k 0) at_X6_copy_57 w76 (by omega) (by omega) rfl ?_
                  refine E_iconst (x := nI 1) at_X6_copy_58 (by decide) ?_
                  refine E_ic (t := 84) (b := false) at_X6_copy_59 rfl ((cn_ne (nI_toInt (by omega)) (nI_toInt (by omega))).trans (decide_eq_false (by omega))) ?_
                  refine E_aload_n at_X6_copy_62 rfl ?_
                  refine E_getfield (v := .ref 77) at_X6_copy_63 w65 rfl (by decide) rfl ?_
                  refine E_iload_n at_X6_copy_66 rfl ?_
                  refine E_ialN (l := so) (v := so.getD a1k 0) at_X6_copy_67 w77 (by omega) (by omega) rfl ?_
                  refine E_aload_n at_X6_copy_68 rfl ?_
                  refine E_getfield (v := .ref 77) at_X6_copy_69 w65 rfl (by decide) rfl ?_
                  refine E_iload_n at_X6_copy_72 rfl ?_
                  refine E_ialN (l := so) (v := so.getD a2k 0) at_X6_copy_73 w77 (by omega) (by omega) rfl ?_
                  refine E_ic (t := 84) (b := false) at_X6_copy_74 rfl ((cn_eq (nI_toInt (by omega)) (nI_toInt (by omega))).trans (decide_eq_false (by omega))) ?_
                  refine E_aload_n at_X6_copy_77 rfl ?_
                  refine E_bipush (x := (-2)) at_X6_copy_78 (by decide) ?_
                  refine E_callV (v := some (.int (-2))) (As := [.ref 65, .int (-2)]) (r0 := []) (cs2 := (ww im lf s d k ls rf rz ra rn rq lt m1 m2 m3 m4 bd (fc.set 2 ((fc.getD 2 0) + (nI 1))) hd sz el s g (fm.set 2 ((fm.getD 2 0) + (nI 1))) hm so si sh ce ca td wa kp la bf oo bo pw ow tr)) at_X6_copy_80 rfl rfl (Nat.le_of_ble_eq_true rfl) rfl (ab_rvOf w65 rfl) (L56_X6_no (by omega)) (by decide) w_lens ?_
                  exact E_iret at_X6_copy_83 rfl
                · exact ⟨I, rfl, hf, iQ, iM, iT, iS, l_el, (lr.1), (lr.2.1), (lr.2.2.1), (by simp only [List.length_set]; exact (lr.2.2.2.1)), (by simp only [List.length_set]; exact (lr.2.2.2.2.1)), (lr.2.2.2.2.2.1), (lr.2.2.2.2.2.2.1), (lr.2.2.2.2.2.2.2.1), (lr.2.2.2.2.2.2.2.2.1), (lr.2.2.2.2.2.2.2.2.2.1), (lr.2.2.2.2.2.2.2.2.2.2.1), (lr.2.2.2.2.2.2.2.2.2.2.2.1), (lr.2.2.2.2.2.2.2.2.2.2.2.2.1), (lr.2.2.2.2.2.2.2.2.2.2.2.2.2.1), (lr.2.2.2.2.2.2.2.2.2.2.2.2.2.2.1), (lr.2.2.2.2.2.2.2.2.2.2.2.2.2.2.2.1), (lr.2.2.2.2.2.2.2.2.2.2.2.2.2.2.2.2.1), (lr.2.2.2.2.2.2.2.2.2.2.2.2.2.2.2.2.2.1), (lr.2.2.2.2.2.2.2.2.2.2.2.2.2.2.2.2.2.2.1), (lr.2.2.2.2.2.2.2.2.2.2.2.2.2.2.2.2.2.2.2.1), (lr.2.2.2.2.2.2.2.2.2.2.2.2.2.2.2.2.2.2.2.2)⟩
        · refine ⟨(-1), (im, lf, s, d, k, ls, rf, rz, ra, rn, rq, lt, m1, m2, m3, m4, bd, (fc.set 1 ((fc.getD 1 0) + (nI 1))), hd, sz, el, s, g, fm, hm, so, si, sh, ce, ca, td, wa, kp, la, bf, oo, bo, pw, ow, tr), (im, lf, s, d, k, ls, rf, rz, ra, rn, rq, lt, m1, m2, m3, m4, bd, (fc.set 1 ((fc.getD 1 0) + (nI 1))), hd, sz, el, s, g, (fm.set 1 ((fm.getD 1 0) + (nI 1))), hm, so, si, sh, ce, ca, td, wa, kp, la, bf, oo, bo, pw, ow, tr), ?_, ?_, ?_⟩
          · show Ev ab_Z0 3 78 [.ref 0, .int (nI a1k), .int (nI a2k), .int a3, .int a4, .int a5] (ww im lf s d k ls rf rz ra rn rq lt m1 m2 m3 m4 bd fc hd sz el s g fm hm so si sh ce ca td wa kp la bf oo bo pw ow tr) (some (.int (-1)), (ww im lf s d k ls rf rz ra rn rq lt m1 m2 m3 m4 bd (fc.set 1 ((fc.getD 1 0) + (nI 1))) hd sz el s g fm hm so si sh ce ca td wa kp la bf oo bo pw ow tr))
            refine Ef.in (md := mX5_copy) (L := [some (.ref 0), some (.int (nI a1k)), some (.int (nI a2k)), some (.int a3), some (.int a4), some (.int a5), none, none]) rfl (Nat.le_of_ble_eq_true rfl) rfl ?_
            refine E_iload_n at_X5_copy_0 rfl ?_
            refine E_callS (v := some (.int (nI 1))) (As := [.int (nI a1k)]) (r0 := []) (cs2 := (ww im lf s d k ls rf rz ra rn rq lt m1 m2 m3 m4 bd fc hd sz el s g fm hm so si sh ce ca td wa kp la bf oo bo pw ow tr)) at_X5_copy_1 rfl rfl (Nat.le_of_ble_eq_true rfl) rfl (L39_X5_isShelf (by omega) (by omega) (by omega)) (by decide) rfl ?_
            refine E_if (t := 14) (b := false) at_X5_copy_4 rfl (by decide) ?_
            refine E_iload_n at_X5_copy_7 rfl ?_
            refine E_callS (v := some (.int (nI 0))) (As := [.int (nI a2k)]) (r0 := []) (cs2 := (ww im lf s d k ls rf rz ra rn rq lt m1 m2 m3 m4 bd fc hd sz el s g fm hm so si sh ce ca td wa kp la bf oo bo pw ow tr)) at_X5_copy_8 rfl rfl (Nat.le_of_ble_eq_true rfl) rfl (L47_X5_isShelf (by omega) (by omega) (by omega)) (by decide) rfl ?_
            refine E_if (t := 20) (b := false) at_X5_copy_11 rfl (by decide) ?_
            refine E_aload_n at_X5_copy_14 rfl ?_
            refine E_iconst (x := nI 1) at_X5_copy_15 (by decide) ?_
            refine E_callV (v := some (.int (-1))) (As := [.ref 0, .int (nI 1)]) (r0 := []) (cs2 := (ww im lf s d k ls rf rz ra rn rq lt m1 m2 m3 m4 bd (fc.set 1 ((fc.getD 1 0) + (nI 1))) hd sz el s g fm hm so si sh ce ca td wa kp la bf oo bo pw ow tr)) at_X5_copy_16 rfl rfl (Nat.le_of_ble_eq_true rfl) rfl (ab_rvOf w0 rfl) (L6_X5_refuse (by omega)) (by decide) w_lens ?_
            exact E_iret at_X5_copy_19 rfl
          · show Ev ab_Z0 2 137 [.ref 65, .int (nI a1k), .int (nI a2k), .int a3, .int a4, .int a5] (ww im lf s d k ls rf rz ra rn rq lt m1 m2 m3 m4 bd (fc.set 1 ((fc.getD 1 0) + (nI 1))) hd sz el s g fm hm so si sh ce ca td wa kp la bf oo bo pw ow tr) (some (.int (-1)), (ww im lf s d k ls rf rz ra rn rq lt m1 m2 m3 m4 bd (fc.set 1 ((fc.getD 1 0) + (nI 1))) hd sz el s g (fm.set 1 ((fm.getD 1 0) + (nI 1))) hm so si sh ce ca td wa kp la bf oo bo pw ow tr))
            refine Ef.in (md := mX6_copy) (L := [some (.ref 65), some (.int (nI a1k)), some (.int (nI a2k)), some (.int a3), some (.int a4), some (.int a5), none]) rfl (Nat.le_of_ble_eq_true rfl) rfl ?_
            refine E_aload_n at_X6_copy_0 rfl ?_
            refine E_iload_n at_X6_copy_1 rfl ?_
            refine E_callV (v := some (.int (nI 1))) (As := [.ref 65, .int (nI a1k)]) (r0 := []) (cs2 := (ww im lf s d k ls rf rz ra rn rq lt m1 m2 m3 m4 bd (fc.set 1 ((fc.getD 1 0) + (nI 1))) hd sz el s g fm hm so si sh ce ca td wa kp la bf oo bo pw ow tr)) at_X6_copy_2 rfl rfl (Nat.le_of_ble_eq_true rfl) rfl (ab_rvOf w65 rfl) (L40_X6_isShelf (by omega) (by omega) (by omega)) (by decide) rfl ?_
            refine E_if (t := 16) (b := false) at_X6_copy_5 rfl (by decide) ?_
            refine E_aload_n at_X6_copy_8 rfl ?_
            refine E_iload_n at_X6_copy_9 rfl ?_
            refine E_callV (v := some (.int (nI 0))) (As := [.ref 65, .int (nI a2k)]) (r0 := []) (cs2 := (ww im lf s d k ls rf rz ra rn rq lt m1 m2 m3 m4 bd (fc.set 1 ((fc.getD 1 0) + (nI 1))) hd sz el s g fm hm so si sh ce ca td wa kp la bf oo bo pw ow tr)) at_X6_copy_10 rfl rfl (Nat.le_of_ble_eq_true rfl) rfl (ab_rvOf w65 rfl) (L48_X6_isShelf (by omega) (by omega) (by omega)) (by decide) rfl ?_
            refine E_if (t := 22) (b := false) at_X6_copy_13 rfl (by decide) ?_
            refine E_aload_n at_X6_copy_16 rfl ?_
            refine E_iconst (x := (-1)) at_X6_copy_17 (by decide) ?_
            refine E_callV (v := some (.int (-1))) (As := [.ref 65, .int (-1)]) (r0 := []) (cs2 := (ww im lf s d k ls rf rz ra rn rq lt m1 m2 m3 m4 bd (fc.set 1 ((fc.getD 1 0) + (nI 1))) hd sz el s g (fm.set 1 ((fm.getD 1 0) + (nI 1))) hm so si sh ce ca td wa kp la bf oo bo pw ow tr)) at_X6_copy_18 rfl rfl (Nat.le_of_ble_eq_true rfl) rfl (ab_rvOf w65 rfl) (L8_X6_no (by omega)) (by decide) w_lens ?_
            exact E_iret at_X6_copy_21 rfl
          · exact ⟨I, rfl, hf, iQ, iM, iT, iS, l_el, (lr.1), (lr.2.1), (lr.2.2.1), (by simp only [List.length_set]; exact (lr.2.2.2.1)), (by simp only [List.length_set]; exact (lr.2.2.2.2.1)), (lr.2.2.2.2.2.1), (lr.2.2.2.2.2.2.1), (lr.2.2.2.2.2.2.2.1), (lr.2.2.2.2.2.2.2.2.1), (lr.2.2.2.2.2.2.2.2.2.1), (lr.2.2.2.2.2.2.2.2.2.2.1), (lr.2.2.2.2.2.2.2.2.2.2.2.1), (lr.2.2.2.2.2.2.2.2.2.2.2.2.1), (lr.2.2.2.2.2.2.2.2.2.2.2.2.2.1), (lr.2.2.2.2.2.2.2.2.2.2.2.2.2.2.1), (lr.2.2.2.2.2.2.2.2.2.2.2.2.2.2.2.1), (lr.2.2.2.2.2.2.2.2.2.2.2.2.2.2.2.2.1), (lr.2.2.2.2.2.2.2.2.2.2.2.2.2.2.2.2.2.1), (lr.2.2.2.2.2.2.2.2.2.2.2.2.2.2.2.2.2.2.1), (lr.2.2.2.2.2.2.2.2.2.2.2.2.2.2.2.2.2.2.2.1), (lr.2.2.2.2.2.2.2.2.2.2.2.2.2.2.2.2.2.2.2.2)⟩
      · refine ⟨(-1), (im, lf, s, d, k, ls, rf, rz, ra, rn, rq, lt, m1, m2, m3, m4, bd, (fc.set 1 ((fc.getD 1 0) + (nI 1))), hd, sz, el, s, g, fm, hm, so, si, sh, ce, ca, td, wa, kp, la, bf, oo, bo, pw, ow, tr), (im, lf, s, d, k, ls, rf, rz, ra, rn, rq, lt, m1, m2, m3, m4, bd, (fc.set 1 ((fc.getD 1 0) + (nI 1))), hd, sz, el, s, g, (fm.set 1 ((fm.getD 1 0) + (nI 1))), hm, so, si, sh, ce, ca, td, wa, kp, la, bf, oo, bo, pw, ow, tr), ?_, ?_, ?_⟩
        · show Ev ab_Z0 3 78 [.ref 0, .int (nI a1k), .int a2, .int a3, .int a4, .int a5] (ww im lf s d k ls rf rz ra rn rq lt m1 m2 m3 m4 bd fc hd sz el s g fm hm so si sh ce ca td wa kp la bf oo bo pw ow tr) (some (.int (-1)), (ww im lf s d k ls rf rz ra rn rq lt m1 m2 m3 m4 bd (fc.set 1 ((fc.getD 1 0) + (nI 1))) hd sz el s g fm hm so si sh ce ca td wa kp la bf oo bo pw ow tr))
          refine Ef.in (md := mX5_copy) (L := [some (.ref 0), some (.int (nI a1k)), some (.int a2), some (.int a3), some (.int a4), some (.int a5), none, none]) rfl (Nat.le_of_ble_eq_true rfl) rfl ?_
          refine E_iload_n at_X5_copy_0 rfl ?_
          refine E_callS (v := some (.int (nI 1))) (As := [.int (nI a1k)]) (r0 := []) (cs2 := (ww im lf s d k ls rf rz ra rn rq lt m1 m2 m3 m4 bd fc hd sz el s g fm hm so si sh ce ca td wa kp la bf oo bo pw ow tr)) at_X5_copy_1 rfl rfl (Nat.le_of_ble_eq_true rfl) rfl (L39_X5_isShelf (by omega) (by omega) (by omega)) (by decide) rfl ?_
          refine E_if (t := 14) (b := false) at_X5_copy_4 rfl (by decide) ?_
          refine E_iload_n at_X5_copy_7 rfl ?_
          refine E_callS (v := some (.int (nI 0))) (As := [.int a2]) (r0 := []) (cs2 := (ww im lf s d k ls rf rz ra rn rq lt m1 m2 m3 m4 bd fc hd sz el s g fm hm so si sh ce ca td wa kp la bf oo bo pw ow tr)) at_X5_copy_8 rfl rfl (Nat.le_of_ble_eq_true rfl) rfl (L49_X5_isShelf (by omega) (by omega)) (by decide) rfl ?_
          refine E_if (t := 20) (b := false) at_X5_copy_11 rfl (by decide) ?_
          refine E_aload_n at_X5_copy_14 rfl ?_
          refine E_iconst (x := nI 1) at_X5_copy_15 (by decide) ?_
          refine E_callV (v := some (.int (-1))) (As := [.ref 0, .int (nI 1)]) (r0 := []) (cs2 := (ww im lf s d k ls rf rz ra rn rq lt m1 m2 m3 m4 bd (fc.set 1 ((fc.getD 1 0) + (nI 1))) hd sz el s g fm hm so si sh ce ca td wa kp la bf oo bo pw ow tr)) at_X5_copy_16 rfl rfl (Nat.le_of_ble_eq_true rfl) rfl (ab_rvOf w0 rfl) (L6_X5_refuse (by omega)) (by decide) w_lens ?_
          exact E_iret at_X5_copy_19 rfl
        · show Ev ab_Z0 2 137 [.ref 65, .int (nI a1k), .int a2, .int a3, .int a4, .int a5] (ww im lf s d k ls rf rz ra rn rq lt m1 m2 m3 m4 bd (fc.set 1 ((fc.getD 1 0) + (nI 1))) hd sz el s g fm hm so si sh ce ca td wa kp la bf oo bo pw ow tr) (some (.int (-1)), (ww im lf s d k ls rf rz ra rn rq lt m1 m2 m3 m4 bd (fc.set 1 ((fc.getD 1 0) + (nI 1))) hd sz el s g (fm.set 1 ((fm.getD 1 0) + (nI 1))) hm so si sh ce ca td wa kp la bf oo bo pw ow tr))
          refine Ef.in (md := mX6_copy) (L := [some (.ref 65), some (.int (nI a1k)), some (.int a2), some (.int a3), some (.int a4), some (.int a5), none]) rfl (Nat.le_of_ble_eq_true rfl) rfl ?_
          refine E_aload_n at_X6_copy_0 rfl ?_
          refine E_iload_n at_X6_copy_1 rfl ?_
          refine E_callV (v := some (.int (nI 1))) (As := [.ref 65, .int (nI a1k)]) (r0 := []) (cs2 := (ww im lf s d k ls rf rz ra rn rq lt m1 m2 m3 m4 bd (fc.set 1 ((fc.getD 1 0) + (nI 1))) hd sz el s g fm hm so si sh ce ca td wa kp la bf oo bo pw ow tr)) at_X6_copy_2 rfl rfl (Nat.le_of_ble_eq_true rfl) rfl (ab_rvOf w65 rfl) (L40_X6_isShelf (by omega) (by omega) (by omega)) (by decide) rfl ?_
          refine E_if (t := 16) (b := false) at_X6_copy_5 rfl (by decide) ?_
          refine E_aload_n at_X6_copy_8 rfl ?_
          refine E_iload_n at_X6_copy_9 rfl ?_
          refine E_callV (v := some (.int (nI 0))) (As := [.ref 65, .int a2]) (r0 := []) (cs2 := (ww im lf s d k ls rf rz ra rn rq lt m1 m2 m3 m4 bd (fc.set 1 ((fc.getD 1 0) + (nI 1))) hd sz el s g fm hm so si sh ce ca td wa kp la bf oo bo pw ow tr)) at_X6_copy_10 rfl rfl (Nat.le_of_ble_eq_true rfl) rfl (ab_rvOf w65 rfl) (L50_X6_isShelf (by omega) (by omega)) (by decide) rfl ?_
          refine E_if (t := 22) (b := false) at_X6_copy_13 rfl (by decide) ?_
          refine E_aload_n at_X6_copy_16 rfl ?_
          refine E_iconst (x := (-1)) at_X6_copy_17 (by decide) ?_
          refine E_callV (v := some (.int (-1))) (As := [.ref 65, .int (-1)]) (r0 := []) (cs2 := (ww im lf s d k ls rf rz ra rn rq lt m1 m2 m3 m4 bd (fc.set 1 ((fc.getD 1 0) + (nI 1))) hd sz el s g (fm.set 1 ((fm.getD 1 0) + (nI 1))) hm so si sh ce ca td wa kp la bf oo bo pw ow tr)) at_X6_copy_18 rfl rfl (Nat.le_of_ble_eq_true rfl) rfl (ab_rvOf w65 rfl) (L8_X6_no (by omega)) (by decide) w_lens ?_
          exact E_iret at_X6_copy_21 rfl
        · exact ⟨I, rfl, hf, iQ, iM, iT, iS, l_el, (lr.1), (lr.2.1), (lr.2.2.1), (by simp only [List.length_set]; exact (lr.2.2.2.1)), (by simp only [List.length_set]; exact (lr.2.2.2.2.1)), (lr.2.2.2.2.2.1), (lr.2.2.2.2.2.2.1), (lr.2.2.2.2.2.2.2.1), (lr.2.2.2.2.2.2.2.2.1), (lr.2.2.2.2.2.2.2.2.2.1), (lr.2.2.2.2.2.2.2.2.2.2.1), (lr.2.2.2.2.2.2.2.2.2.2.2.1), (lr.2.2.2.2.2.2.2.2.2.2.2.2.1), (lr.2.2.2.2.2.2.2.2.2.2.2.2.2.1), (lr.2.2.2.2.2.2.2.2.2.2.2.2.2.2.1), (lr.2.2.2.2.2.2.2.2.2.2.2.2.2.2.2.1), (lr.2.2.2.2.2.2.2.2.2.2.2.2.2.2.2.2.1), (lr.2.2.2.2.2.2.2.2.2.2.2.2.2.2.2.2.2.1), (lr.2.2.2.2.2.2.2.2.2.2.2.2.2.2.2.2.2.2.1), (lr.2.2.2.2.2.2.2.2.2.2.2.2.2.2.2.2.2.2.2.1), (lr.2.2.2.2.2.2.2.2.2.2.2.2.2.2.2.2.2.2.2.2)⟩
    · refine ⟨(-1), (im, lf, s, d, k, ls, rf, rz, ra, rn, rq, lt, m1, m2, m3, m4, bd, (fc.set 1 ((fc.getD 1 0) + (nI 1))), hd, sz, el, s, g, fm, hm, so, si, sh, ce, ca, td, wa, kp, la, bf, oo, bo, pw, ow, tr), (im, lf, s, d, k, ls, rf, rz, ra, rn, rq, lt, m1, m2, m3, m4, bd, (fc.set 1 ((fc.getD 1 0) + (nI 1))), hd, sz, el, s, g, (fm.set 1 ((fm.getD 1 0) + (nI 1))), hm, so, si, sh, ce, ca, td, wa, kp, la, bf, oo, bo, pw, ow, tr), ?_, ?_, ?_⟩
      · show Ev ab_Z0 3 78 [.ref 0, .int (nI a1k), .int a2, .int a3, .int a4, .int a5] (ww im lf s d k ls rf rz ra rn rq lt m1 m2 m3 m4 bd fc hd sz el s g fm hm so si sh ce ca td wa kp la bf oo bo pw ow tr) (some (.int (-1)), (ww im lf s d k ls rf rz ra rn rq lt m1 m2 m3 m4 bd (fc.set 1 ((fc.getD 1 0) + (nI 1))) hd sz el s g fm hm so si sh ce ca td wa kp la bf oo bo pw ow tr))
        refine Ef.in (md := mX5_copy) (L := [some (.ref 0), some (.int (nI a1k)), some (.int a2), some (.int a3), some (.int a4), some (.int a5), none, none]) rfl (Nat.le_of_ble_eq_true rfl) rfl ?_
        refine E_iload_n at_X5_copy_0 rfl ?_
        refine E_callS (v := some (.int (nI 0))) (As := [.int (nI a1k)]) (r0 := []) (cs2 := (ww im lf s d k ls rf rz ra rn rq lt m1 m2 m3 m4 bd fc hd sz el s g fm hm so si sh ce ca td wa kp la bf oo bo pw ow tr)) at_X5_copy_1 rfl rfl (Nat.le_of_ble_eq_true rfl) rfl (L47_X5_isShelf (by omega) (by omega) (by omega)) (by decide) rfl ?_
        refine E_if (t := 14) (b := true) at_X5_copy_4 rfl (by decide) ?_
        refine E_aload_n at_X5_copy_14 rfl ?_
        refine E_iconst (x := nI 1) at_X5_copy_15 (by decide) ?_
        refine E_callV (v := some (.int (-1))) (As := [.ref 0, .int (nI 1)]) (r0 := []) (cs2 := (ww im lf s d k ls rf rz ra rn rq lt m1 m2 m3 m4 bd (fc.set 1 ((fc.getD 1 0) + (nI 1))) hd sz el s g fm hm so si sh ce ca td wa kp la bf oo bo pw ow tr)) at_X5_copy_16 rfl rfl (Nat.le_of_ble_eq_true rfl) rfl (ab_rvOf w0 rfl) (L6_X5_refuse (by omega)) (by decide) w_lens ?_
        exact E_iret at_X5_copy_19 rfl
      · show Ev ab_Z0 2 137 [.ref 65, .int (nI a1k), .int a2, .int a3, .int a4, .int a5] (ww im lf s d k ls rf rz ra rn rq lt m1 m2 m3 m4 bd (fc.set 1 ((fc.getD 1 0) + (nI 1))) hd sz el s g fm hm so si sh ce ca td wa kp la bf oo bo pw ow tr) (some (.int (-1)), (ww im lf s d k ls rf rz ra rn rq lt m1 m2 m3 m4 bd (fc.set 1 ((fc.getD 1 0) + (nI 1))) hd sz el s g (fm.set 1 ((fm.getD 1 0) + (nI 1))) hm so si sh ce ca td wa kp la bf oo bo pw ow tr))
        refine Ef.in (md := mX6_copy) (L := [some (.ref 65), some (.int (nI a1k)), some (.int a2), some (.int a3), some (.int a4), some (.int a5), none]) rfl (Nat.le_of_ble_eq_true rfl) rfl ?_
        refine E_aload_n at_X6_copy_0 rfl ?_
        refine E_iload_n at_X6_copy_1 rfl ?_
        refine E_callV (v := some (.int (nI 0))) (As := [.ref 65, .int (nI a1k)]) (r0 := []) (cs2 := (ww im lf s d k ls rf rz ra rn rq lt m1 m2 m3 m4 bd (fc.set 1 ((fc.getD 1 0) + (nI 1))) hd sz el s g fm hm so si sh ce ca td wa kp la bf oo bo pw ow tr)) at_X6_copy_2 rfl rfl (Nat.le_of_ble_eq_true rfl) rfl (ab_rvOf w65 rfl) (L48_X6_isShelf (by omega) (by omega) (by omega)) (by decide) rfl ?_
        refine E_if (t := 16) (b := true) at_X6_copy_5 rfl (by decide) ?_
        refine E_aload_n at_X6_copy_16 rfl ?_
        refine E_iconst (x := (-1)) at_X6_copy_17 (by decide) ?_
        refine E_callV (v := some (.int (-1))) (As := [.ref 65, .int (-1)]) (r0 := []) (cs2 := (ww im lf s d k ls rf rz ra rn rq lt m1 m2 m3 m4 bd (fc.set 1 ((fc.getD 1 0) + (nI 1))) hd sz el s g (fm.set 1 ((fm.getD 1 0) + (nI 1))) hm so si sh ce ca td wa kp la bf oo bo pw ow tr)) at_X6_copy_18 rfl rfl (Nat.le_of_ble_eq_true rfl) rfl (ab_rvOf w65 rfl) (L8_X6_no (by omega)) (by decide) w_lens ?_
        exact E_iret at_X6_copy_21 rfl
      · exact ⟨I, rfl, hf, iQ, iM, iT, iS, l_el, (lr.1), (lr.2.1), (lr.2.2.1), (by simp only [List.length_set]; exact (lr.2.2.2.1)), (by simp only [List.length_set]; exact (lr.2.2.2.2.1)), (lr.2.2.2.2.2.1), (lr.2.2.2.2.2.2.1), (lr.2.2.2.2.2.2.2.1), (lr.2.2.2.2.2.2.2.2.1), (lr.2.2.2.2.2.2.2.2.2.1), (lr.2.2.2.2.2.2.2.2.2.2.1), (lr.2.2.2.2.2.2.2.2.2.2.2.1), (lr.2.2.2.2.2.2.2.2.2.2.2.2.1), (lr.2.2.2.2.2.2.2.2.2.2.2.2.2.1), (lr.2.2.2.2.2.2.2.2.2.2.2.2.2.2.1), (lr.2.2.2.2.2.2.2.2.2.2.2.2.2.2.2.1), (lr.2.2.2.2.2.2.2.2.2.2.2.2.2.2.2.2.1), (lr.2.2.2.2.2.2.2.2.2.2.2.2.2.2.2.2.2.1), (lr.2.2.2.2.2.2.2.2.2.2.2.2.2.2.2.2.2.2.1), (lr.2.2.2.2.2.2.2.2.2.2.2.2.2.2.2.2.2.2.2.1), (lr.2.2.2.2.2.2.2.2.2.2.2.2.2.2.2.2.2.2.2.2)⟩
  · refine ⟨(-1), (im, lf, s, d, k, ls, rf, rz, ra, rn, rq, lt, m1, m2, m3, m4, bd, (fc.set 1 ((fc.getD 1 0) + (nI 1))), hd, sz, el, s, g, fm, hm, so, si, sh, ce, ca, td, wa, kp, la, bf, oo, bo, pw, ow, tr), (im, lf, s, d, k, ls, rf, rz, ra, rn, rq, lt, m1, m2, m3, m4, bd, (fc.set 1 ((fc.getD 1 0) + (nI 1))), hd, sz, el, s, g, (fm.set 1 ((fm.getD 1 0) + (nI 1))), hm, so, si, sh, ce, ca, td, wa, kp, la, bf, oo, bo, pw, ow, tr), ?_, ?_, ?_⟩
    · show Ev ab_Z0 3 78 [.ref 0, .int a1, .int a2, .int a3, .int a4, .int a5] (ww im lf s d k ls rf rz ra rn rq lt m1 m2 m3 m4 bd fc hd sz el s g fm hm so si sh ce ca td wa kp la bf oo bo pw ow tr) (some (.int (-1)), (ww im lf s d k ls rf rz ra rn rq lt m1 m2 m3 m4 bd (fc.set 1 ((fc.getD 1 0) + (nI 1))) hd sz el s g fm hm so si sh ce ca td wa kp la bf oo bo pw ow tr))
      refine Ef.in (md := mX5_copy) (L := [some (.ref 0), some (.int a1), some (.int a2), some (.int a3), some (.int a4), some (.int a5), none, none]) rfl (Nat.le_of_ble_eq_true rfl) rfl ?_
      refine E_iload_n at_X5_copy_0 rfl ?_
      refine E_callS (v := some (.int (nI 0))) (As := [.int a1]) (r0 := []) (cs2 := (ww im lf s d k ls rf rz ra rn rq lt m1 m2 m3 m4 bd fc hd sz el s g fm hm so si sh ce ca td wa kp la bf oo bo pw ow tr)) at_X5_copy_1 rfl rfl (Nat.le_of_ble_eq_true rfl) rfl (L49_X5_isShelf (by omega) (by omega)) (by decide) rfl ?_
      refine E_if (t := 14) (b := true) at_X5_copy_4 rfl (by decide) ?_
      refine E_aload_n at_X5_copy_14 rfl ?_
      refine E_iconst (x := nI 1) at_X5_copy_15 (by decide) ?_
      refine E_callV (v := some (.int (-1))) (As := [.ref 0, .int (nI 1)]) (r0 := []) (cs2 := (ww im lf s d k ls rf rz ra rn rq lt m1 m2 m3 m4 bd (fc.set 1 ((fc.getD 1 0) + (nI 1))) hd sz el s g fm hm so si sh ce ca td wa kp la bf oo bo pw ow tr)) at_X5_copy_16 rfl rfl (Nat.le_of_ble_eq_true rfl) rfl (ab_rvOf w0 rfl) (L6_X5_refuse (by omega)) (by decide) w_lens ?_
      exact E_iret at_X5_copy_19 rfl
    · show Ev ab_Z0 2 137 [.ref 65, .int a1, .int a2, .int a3, .int a4, .int a5] (ww im lf s d k ls rf rz ra rn rq lt m1 m2 m3 m4 bd (fc.set 1 ((fc.getD 1 0) + (nI 1))) hd sz el s g fm hm so si sh ce ca td wa kp la bf oo bo pw ow tr) (some (.int (-1)), (ww im lf s d k ls rf rz ra rn rq lt m1 m2 m3 m4 bd (fc.set 1 ((fc.getD 1 0) + (nI 1))) hd sz el s g (fm.set 1 ((fm.getD 1 0) + (nI 1))) hm so si sh ce ca td wa kp la bf oo bo pw ow tr))
      refine Ef.in (md := mX6_copy) (L := [some (.ref 65), some (.int a1), some (.int a2), some (.int a3), some (.int a4), some (.int a5), none]) rfl (Nat.le_of_ble_eq_true rfl) rfl ?_
      refine E_aload_n at_X6_copy_0 rfl ?_
      refine E_iload_n at_X6_copy_1 rfl ?_
      refine E_callV (v := some (.int (nI 0))) (As := [.ref 65, .int a1]) (r0 := []) (cs2 := (ww im lf s d k ls rf rz ra rn rq lt m1 m2 m3 m4 bd (fc.set 1 ((fc.getD 1 0) + (nI 1))) hd sz el s g fm hm so si sh ce ca td wa kp la bf oo bo pw ow tr)) at_X6_copy_2 rfl rfl (Nat.le_of_ble_eq_true rfl) rfl (ab_rvOf w65 rfl) (L50_X6_isShelf (by omega) (by omega)) (by decide) rfl ?_
      refine E_if (t := 16) (b := true) at_X6_copy_5 rfl (by decide) ?_
      refine E_aload_n at_X6_copy_16 rfl ?_
      refine E_iconst (x := (-1)) at_X6_copy_17 (by decide) ?_
      refine E_callV (v := some (.int (-1))) (As := [.ref 65, .int (-1)]) (r0 := []) (cs2 := (ww im lf s d k ls rf rz ra rn rq lt m1 m2 m3 m4 bd (fc.set 1 ((fc.getD 1 0) + (nI 1))) hd sz el s g (fm.set 1 ((fm.getD 1 0) + (nI 1))) hm so si sh ce ca td wa kp la bf oo bo pw ow tr)) at_X6_copy_18 rfl rfl (Nat.le_of_ble_eq_true rfl) rfl (ab_rvOf w65 rfl) (L8_X6_no (by omega)) (by decide) w_lens ?_
      exact E_iret at_X6_copy_21 rfl
    · exact ⟨I, rfl, hf, iQ, iM, iT, iS, l_el, (lr.1), (lr.2.1), (lr.2.2.1), (by simp only [List.length_set]; exact (lr.2.2.2.1)), (by simp only [List.length_set]; exact (lr.2.2.2.2.1)), (lr.2.2.2.2.2.1), (lr.2.2.2.2.2.2.1), (lr.2.2.2.2.2.2.2.1), (lr.2.2.2.2.2.2.2.2.1), (lr.2.2.2.2.2.2.2.2.2.1), (lr.2.2.2.2.2.2.2.2.2.2.1), (lr.2.2.2.2.2.2.2.2.2.2.2.1), (lr.2.2.2.2.2.2.2.2.2.2.2.2.1), (lr.2.2.2.2.2.2.2.2.2.2.2.2.2.1), (lr.2.2.2.2.2.2.2.2.2.2.2.2.2.2.1), (lr.2.2.2.2.2.2.2.2.2.2.2.2.2.2.2.1), (lr.2.2.2.2.2.2.2.2.2.2.2.2.2.2.2.2.1), (lr.2.2.2.2.2.2.2.2.2.2.2.2.2.2.2.2.2.1), (lr.2.2.2.2.2.2.2.2.2.2.2.2.2.2.2.2.2.2.1), (lr.2.2.2.2.2.2.2.2.2.2.2.2.2.2.2.2.2.2.2.1), (lr.2.2.2.2.2.2.2.2.2.2.2.2.2.2.2.2.2.2.2.2)⟩
