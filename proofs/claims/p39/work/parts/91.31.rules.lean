/-! rules; by program (wip/tools/op.py) -/
set_option maxHeartbeats 4000000 in
theorem op_rules (x : St) (hx : wI x) (a1 : Int32) (a2 : Int32) : ∃ (r : Int32) (x1 x2 : St), Ev ab_Z0 5 99 [.ref 0, .int a1, .int a2] (wt x) (some (.int r), wt x1) ∧ Ev ab_Z0 4 187 [.ref 65, .int a1, .int a2] (wt x1) (some (.int r), wt x2) ∧ wI x2 := by
  obtain ⟨im, lf, s, d, k, ls, rf, rz, ra, rn, rq, lt, m1, m2, m3, m4, bd, fc, hd, sz, el, t, g, fm, hm, so, si, sh, ce, ca, td, wa, kp, la, bf, oo, bo, pw, ow, tr⟩ := x
  obtain ⟨I, ts, hf, iQ, iM, iT, iS, l_el, lr⟩ := hx
  replace lr : Hd _ := lr
  have l_fc := lr.2.2.2.1
  have l_fm := lr.2.2.2.2.1
  have l_hm := lr.2.2.2.2.2.1
  have l_si := lr.2.2.2.2.2.2.2.1
  subst ts
  obtain ⟨⟨i0, i1, i2, i3⟩, ⟨i4, i5, i6, i7, i8⟩, ⟨i9, i10⟩, I1, I2, I3, I4⟩ := id I
  rcases ab_int a1 with ⟨a1k, f0, rfl⟩ | f0
  · by_cases f1 : a1k < 8
    · rcases iS a1k (by omega) with ⟨u1, u2, u3⟩ | ⟨xq, u1, u2, u3, u4, u5⟩ | ⟨u1, u2, u3, u4, u5, u6⟩
      · rcases ab_int a2 with ⟨a2k, f3, rfl⟩ | f3
        · by_cases f4 : 0 < a2k
          · refine ⟨(-3), (im, lf, s, d, k, ls, rf, rz, ra, rn, rq, lt, m1, m2, m3, m4, bd, (fc.set 3 ((fc.getD 3 0) + (nI 1))), hd, sz, el, s, g, fm, hm, so, si, sh, ce, ca, td, wa, kp, la, bf, oo, bo, pw, ow, tr), (im, lf, s, d, k, ls, rf, rz, ra, rn, rq, lt, m1, m2, m3, m4, bd, (fc.set 3 ((fc.getD 3 0) + (nI 1))), hd, sz, el, s, g, (fm.set 3 ((fm.getD 3 0) + (nI 1))), hm, so, si, sh, ce, ca, td, wa, kp, la, bf, oo, bo, pw, ow, tr), ?_, ?_, ?_⟩
            · show Ev ab_Z0 5 99 [.ref 0, .int (nI a1k), .int (nI a2k)] (ww im lf s d k ls rf rz ra rn rq lt m1 m2 m3 m4 bd fc hd sz el s g fm hm so si sh ce ca td wa kp la bf oo bo pw ow tr) (some (.int (-3)), (ww im lf s d k ls rf rz ra rn rq lt m1 m2 m3 m4 bd (fc.set 3 ((fc.getD 3 0) + (nI 1))) hd sz el s g fm hm so si sh ce ca td wa kp la bf oo bo pw ow tr))
              refine Ef.in (md := mX5_rules) (L := [some (.ref 0), some (.int (nI a1k)), some (.int (nI a2k)), none, none, none, none, none]) rfl (Nat.le_of_ble_eq_true rfl) rfl ?_
              refine E_aload_n at_X5_rules_0 rfl ?_
              refine E_iload_n at_X5_rules_1 rfl ?_
              refine E_iload_n at_X5_rules_2 rfl ?_
              refine E_bipush (x := nI 40) at_X5_rules_3 (by decide) ?_
              refine E_iconst (x := nI 0) at_X5_rules_5 (by decide) ?_
              have e4 : Ev ab_Z0 3 120 [.ref 0, .int (nI a1k), .int (nI a2k), .int (nI 40), .int (nI 0)] (ww im lf s d k ls rf rz ra rn rq lt m1 m2 m3 m4 bd fc hd sz el s g fm hm so si sh ce ca td wa kp la bf oo bo pw ow tr) (some (.int (nI 3)), (ww im lf s d k ls rf rz ra rn rq lt m1 m2 m3 m4 bd fc hd sz el s g fm hm so si sh ce ca td wa kp la bf oo bo pw ow tr)) := by
                refine Ef.in (md := mX5_whyNoTwos) (L := [some (.ref 0), some (.int (nI a1k)), some (.int (nI a2k)), some (.int (nI 40)), some (.int (nI 0)), none]) rfl (Nat.le_of_ble_eq_true rfl) rfl ?_
                refine E_aload_n at_X5_whyNoTwos_0 rfl ?_
                refine E_iload_n at_X5_whyNoTwos_1 rfl ?_
                have e3 : Ev ab_Z0 2 119 [.ref 0, .int (nI a1k)] (ww im lf s d k ls rf rz ra rn rq lt m1 m2 m3 m4 bd fc hd sz el s g fm hm so si sh ce ca td wa kp la bf oo bo pw ow tr) (some (.int (nI 3)), (ww im lf s d k ls rf rz ra rn rq lt m1 m2 m3 m4 bd fc hd sz el s g fm hm so si sh ce ca td wa kp la bf oo bo pw ow tr)) := by
                  refine Ef.in (md := mX5_whyNoRow) (L := [some (.ref 0), some (.int (nI a1k))]) rfl (Nat.le_of_ble_eq_true rfl) rfl ?_
                  refine E_iload_n at_X5_whyNoRow_0 rfl ?_
                  refine E_callS (v := some (.int (nI 1))) (As := [.int (nI a1k)]) (r0 := []) (cs2 := (ww im lf s d k ls rf rz ra rn rq lt m1 m2 m3 m4 bd fc hd sz el s g fm hm so si sh ce ca td wa kp la bf oo bo pw ow tr)) at_X5_whyNoRow_1 rfl rfl (Nat.le_of_ble_eq_true rfl) rfl (L39_X5_isShelf (by omega) (by omega) (by omega)) (by decide) rfl ?_
                  refine E_if (t := 9) (b := true) at_X5_whyNoRow_4 rfl (by decide) ?_
                  refine E_aload_n at_X5_whyNoRow_9 rfl ?_
                  refine E_getfield (v := .ref 31) at_X5_whyNoRow_10 w0 rfl (by decide) rfl ?_
                  refine E_iload_n at_X5_whyNoRow_13 rfl ?_
                  refine E_aalN (b := 49 + 2 * a1k) at_X5_whyNoRow_14 w31 (by omega) (w_shs (by omega)) ?_
                  have e1 : Ev ab_Z0 1 33 [.ref (49 + 2 * a1k)] (ww im lf s d k ls rf rz ra rn rq lt m1 m2 m3 m4 bd fc hd sz el s g fm hm so si sh ce ca td wa kp la bf oo bo pw ow tr) (some (.int (nI 0)), (ww im lf s d k ls rf rz ra rn rq lt m1 m2 m3 m4 bd fc hd sz el s g fm hm so si sh ce ca td wa kp la bf oo bo pw ow tr)) := by
                    refine Ef.in (md := mX3_isOtherThanRow) (L := [some (.ref (49 + 2 * a1k))]) rfl (Nat.le_of_ble_eq_true rfl) rfl ?_
                    refine E_aload_n at_X3_isOtherThanRow_0 rfl ?_
                    refine E_getfield (v := .int (-1)) at_X3_isOtherThanRow_1 (w_shv (j := a1k) (by omega) u1 u2) rfl (by decide) rfl ?_
                    refine E_if (t := 20) (b := true) at_X3_isOtherThanRow_4 rfl (by decide) ?_
                    refine E_iconst (x := nI 0) at_X3_isOtherThanRow_20 (by decide) ?_
                    exact E_iret at_X3_isOtherThanRow_21 rfl
                  refine E_callV (v := some (.int (nI 0))) (As := [.ref (49 + 2 * a1k)]) (r0 := []) (cs2 := (ww im lf s d k ls rf rz ra rn rq lt m1 m2 m3 m4 bd fc hd sz el s g fm hm so si sh ce ca td wa kp la bf oo bo pw ow tr)) at_X5_whyNoRow_15 rfl rfl (Nat.le_of_ble_eq_true rfl) rfl (ab_rvOf (w_shv (j := a1k) (by omega) u1 u2) rfl) e1 (by decide) rfl ?_
                  refine E_if (t := 23) (b := true) at_X5_whyNoRow_18 rfl (by decide) ?_
                  refine E_aload_n at_X5_whyNoRow_23 rfl ?_
                  refine E_getfield (v := .ref 31) at_X5_whyNoRow_24 w0 rfl (by decide) rfl ?_
                  refine E_iload_n at_X5_whyNoRow_27 rfl ?_
                  refine E_aalN (b := 49 + 2 * a1k) at_X5_whyNoRow_28 w31 (by omega) (w_shs (by omega)) ?_
                  have e2 : Ev ab_Z0 1 32 [.ref (49 + 2 * a1k)] (ww im lf s d k ls rf rz ra rn rq lt m1 m2 m3 m4 bd fc hd sz el s g fm hm so si sh ce ca td wa kp la bf oo bo pw ow tr) (some (.int (nI 1)), (ww im lf s d k ls rf rz ra rn rq lt m1 m2 m3 m4 bd fc hd sz el s g fm hm so si sh ce ca td wa kp la bf oo bo pw ow tr)) := by
                    refine Ef.in (md := mX3_isEmpty) (L := [some (.ref (49 + 2 * a1k))]) rfl (Nat.le_of_ble_eq_true rfl) rfl ?_
                    refine E_aload_n at_X3_isEmpty_0 rfl ?_
                    refine E_getfield (v := .int (-1)) at_X3_isEmpty_1 (w_shv (j := a1k) (by omega) u1 u2) rfl (by decide) rfl ?_
                    refine E_iconst (x := (-1)) at_X3_isEmpty_4 (by decide) ?_
                    refine E_ic (t := 12) (b := false) at_X3_isEmpty_5 rfl (by decide) ?_
                    refine E_iconst (x := nI 1) at_X3_isEmpty_8 (by decide) ?_
                    refine E_goto (t := 13) at_X3_isEmpty_9 rfl ?_
                    exact E_iret at_X3_isEmpty_13 rfl
                  refine E_callV (v := some (.int (nI 1))) (As := [.ref (49 + 2 * a1k)]) (r0 := []) (cs2 := (ww im lf s d k ls rf rz ra rn rq lt m1 m2 m3 m4 bd fc hd sz el s g fm hm so si sh ce ca td wa kp la bf oo bo pw ow tr)) at_X5_whyNoRow_29 rfl rfl (Nat.le_of_ble_eq_true rfl) rfl (ab_rvOf (w_shv (j := a1k) (by omega) u1 u2) rfl) e2 (by decide) rfl ?_
                  refine E_if (t := 39) (b := false) at_X5_whyNoRow_32 rfl (by decide) ?_
                  refine E_iconst (x := nI 3) at_X5_whyNoRow_35 (by decide) ?_
                  refine E_goto (t := 40) at_X5_whyNoRow_36 rfl ?_
                  exact E_iret at_X5_whyNoRow_40 rfl
                refine E_callV (v := some (.int (nI 3))) (As := [.ref 0, .int (nI a1k)]) (r0 := []) (cs2 := (ww im lf s d k ls rf rz ra rn rq lt m1 m2 m3 m4 bd fc hd sz el s g fm hm so si sh ce ca td wa kp la bf oo bo pw ow tr)) at_X5_whyNoTwos_2 rfl rfl (Nat.le_of_ble_eq_true rfl) rfl (ab_rvOf w0 rfl) e3 (by decide) rfl ?_
                refine E_istore (L2 := [some (.ref 0), some (.int (nI a1k)), some (.int (nI a2k)), some (.int (nI 40)), some (.int (nI 0)), some (.int (nI 3))]) at_X5_whyNoTwos_5 rfl ?_
                refine E_iload at_X5_whyNoTwos_7 rfl ?_
                refine E_if (t := 15) (b := false) at_X5_whyNoTwos_9 rfl (by decide) ?_
                refine E_iload at_X5_whyNoTwos_12 rfl ?_
                exact E_iret at_X5_whyNoTwos_14 rfl
              refine E_callV (v := some (.int (nI 3))) (As := [.ref 0, .int (nI a1k), .int (nI a2k), .int (nI 40), .int (nI 0)]) (r0 := []) (cs2 := (ww im lf s d k ls rf rz ra rn rq lt m1 m2 m3 m4 bd fc hd sz el s g fm hm so si sh ce ca td wa kp la bf oo bo pw ow tr)) at_X5_rules_6 rfl rfl (Nat.le_of_ble_eq_true rfl) rfl (ab_rvOf w0 rfl) e4 (by decide) rfl ?_
              refine E_istore_n (L2 := [some (.ref 0), some (.int (nI a1k)), some (.int (nI a2k)), some (.int (nI 3)), none, none, none, none]) at_X5_rules_9 rfl ?_
              refine E_iload_n at_X5_rules_10 rfl ?_
              refine E_if (t := 20) (b := false) at_X5_rules_11 rfl (by decide) ?_
              refine E_aload_n at_X5_rules_14 rfl ?_
              refine E_iload_n at_X5_rules_15 rfl ?_
              refine E_callV (v := some (.int (-3))) (As := [.ref 0, .int (nI 3)]) (r0 := []) (cs2 := (ww im lf s d k ls rf rz ra rn rq lt m1 m2 m3 m4 bd (fc.set 3 ((fc.getD 3 0) + (nI 1))) hd sz el s g fm hm so si sh ce ca td wa kp la bf oo bo pw ow tr)) at_X5_rules_16 rfl rfl (Nat.le_of_ble_eq_true rfl) rfl (ab_rvOf w0 rfl) (L52_X5_refuse (by omega)) (by decide) w_lens ?_
              exact E_iret at_X5_rules_19 rfl
            · show Ev ab_Z0 4 187 [.ref 65, .int (nI a1k), .int (nI a2k)] (ww im lf s d k ls rf rz ra rn rq lt m1 m2 m3 m4 bd (fc.set 3 ((fc.getD 3 0) + (nI 1))) hd sz el s g fm hm so si sh ce ca td wa kp la bf oo bo pw ow tr) (some (.int (-3)), (ww im lf s d k ls rf rz ra rn rq lt m1 m2 m3 m4 bd (fc.set 3 ((fc.getD 3 0) + (nI 1))) hd sz el s g (fm.set 3 ((fm.getD 3 0) + (nI 1))) hm so si sh ce ca td wa kp la bf oo bo pw ow tr))
              refine Ef.in (md := mX6_rules) (L := [some (.ref 65), some (.int (nI a1k)), some (.int (nI a2k)), none, none, none, none, none]) rfl (Nat.le_of_ble_eq_true rfl) rfl ?_
              refine E_aload_n at_X6_rules_0 rfl ?_
              refine E_iload_n at_X6_rules_1 rfl ?_
              refine E_iload_n at_X6_rules_2 rfl ?_
              refine E_bipush (x := nI 40) at_X6_rules_3 (by decide) ?_
              refine E_iconst (x := nI 1) at_X6_rules_5 (by decide) ?_
              have e6 : Ev ab_Z0 3 186 [.ref 65, .int (nI a1k), .int (nI a2k), .int (nI 40), .int (nI 1)] (ww im lf s d k ls rf rz ra rn rq lt m1 m2 m3 m4 bd (fc.set 3 ((fc.getD 3 0) + (nI 1))) hd sz el s g fm hm so si sh ce ca td wa kp la bf oo bo pw ow tr) (some (.int (-3)), (ww im lf s d k ls rf rz ra rn rq lt m1 m2 m3 m4 bd (fc.set 3 ((fc.getD 3 0) + (nI 1))) hd sz el s g fm hm so si sh ce ca td wa kp la bf oo bo pw ow tr)) := by
                refine Ef.in (md := mX6_barsOf) (L := [some (.ref 65), some (.int (nI a1k)), some (.int (nI a2k)), some (.int (nI 40)), some (.int (nI 1)), none]) rfl (Nat.le_of_ble_eq_true rfl) rfl ?_
                refine E_aload_n at_X6_barsOf_0 rfl ?_
                refine E_iload_n at_X6_barsOf_1 rfl ?_
                have e5 : Ev ab_Z0 2 142 [.ref 65, .int (nI a1k)] (ww im lf s d k ls rf rz ra rn rq lt m1 m2 m3 m4 bd (fc.set 3 ((fc.getD 3 0) + (nI 1))) hd sz el s g fm hm so si sh ce ca td wa kp la bf oo bo pw ow tr) (some (.int (-3)), (ww im lf s d k ls rf rz ra rn rq lt m1 m2 m3 m4 bd (fc.set 3 ((fc.getD 3 0) + (nI 1))) hd sz el s g fm hm so si sh ce ca td wa kp la bf oo bo pw ow tr)) := by
                  refine Ef.in (md := mX6_wanted) (L := [some (.ref 65), some (.int (nI a1k))]) rfl (Nat.le_of_ble_eq_true rfl) rfl ?_
                  refine E_aload_n at_X6_wanted_0 rfl ?_
                  refine E_iload_n at_X6_wanted_1 rfl ?_
                  refine E_callV (v := some (.int (nI 1))) (As := [.ref 65, .int (nI a1k)]) (r0 := []) (cs2 := (ww im lf s d k ls rf rz ra rn rq lt m1 m2 m3 m4 bd (fc.set 3 ((fc.getD 3 0) + (nI 1))) hd sz el s g fm hm so si sh ce ca td wa kp la bf oo bo pw ow tr)) at_X6_wanted_2 rfl rfl (Nat.le_of_ble_eq_true rfl) rfl (ab_rvOf w65 rfl) (L40_X6_isShelf (by omega) (by omega) (by omega)) (by decide) rfl ?_
                  refine E_if (t := 12) (b := true) at_X6_wanted_5 rfl (by decide) ?_
                  refine E_aload_n at_X6_wanted_12 rfl ?_
                  refine E_getfield (v := .ref 76) at_X6_wanted_13 w65 rfl (by decide) rfl ?_
                  refine E_iload_n at_X6_wanted_16 rfl ?_
                  refine E_ialN (l := hm) (v := hm.getD a1k 0) at_X6_wanted_17 w76 (by omega) (by omega) rfl ?_
                  refine E_iconst (x := nI 2) at_X6_wanted_18 (by decide) ?_
                  refine E_ic (t := 27) (b := true) at_X6_wanted_19 rfl ((cn_ne (nI_toInt (by omega)) (nI_toInt (by omega))).trans (decide_eq_true (by omega))) ?_
                  refine E_aload_n at_X6_wanted_27 rfl ?_
                  refine E_getfield (v := .ref 76) at_X6_wanted_28 w65 rfl (by decide) rfl ?_
                  refine E_iload_n at_X6_wanted_31 rfl ?_
                  refine E_ialN (l := hm) (v := hm.getD a1k 0) at_X6_wanted_32 w76 (by omega) (by omega) rfl ?_
                  refine E_if (t := 41) (b := false) at_X6_wanted_33 rfl ((cn_ne (nI_toInt (by omega)) (by decide : (0 : Int32).toInt = 0)).trans (decide_eq_false (by omega))) ?_
                  refine E_bipush (x := (-3)) at_X6_wanted_36 (by decide) ?_
                  refine E_goto (t := 42) at_X6_wanted_38 rfl ?_
                  exact E_iret at_X6_wanted_42 rfl
                refine E_callV (v := some (.int (-3))) (As := [.ref 65, .int (nI a1k)]) (r0 := []) (cs2 := (ww im lf s d k ls rf rz ra rn rq lt m1 m2 m3 m4 bd (fc.set 3 ((fc.getD 3 0) + (nI 1))) hd sz el s g fm hm so si sh ce ca td wa kp la bf oo bo pw ow tr)) at_X6_barsOf_2 rfl rfl (Nat.le_of_ble_eq_true rfl) rfl (ab_rvOf w65 rfl) e5 (by decide) rfl ?_
                refine E_istore (L2 := [some (.ref 65), some (.int (nI a1k)), some (.int (nI a2k)), some (.int (nI 40)), some (.int (nI 1)), some (.int (-3))]) at_X6_barsOf_5 rfl ?_
                refine E_iload at_X6_barsOf_7 rfl ?_
                refine E_if (t := 17) (b := false) at_X6_barsOf_9 rfl (by decide) ?_
                refine E_iload at_X6_barsOf_12 rfl ?_
                refine E_goto (t := 59) at_X6_barsOf_14 rfl ?_
                exact E_iret at_X6_barsOf_59 rfl
              refine E_callV (v := some (.int (-3))) (As := [.ref 65, .int (nI a1k), .int (nI a2k), .int (nI 40), .int (nI 1)]) (r0 := []) (cs2 := (ww im lf s d k ls rf rz ra rn rq lt m1 m2 m3 m4 bd (fc.set 3 ((fc.getD 3 0) + (nI 1))) hd sz el s g fm hm so si sh ce ca td wa kp la bf oo bo pw ow tr)) at_X6_rules_6 rfl rfl (Nat.le_of_ble_eq_true rfl) rfl (ab_rvOf w65 rfl) e6 (by decide) rfl ?_
              refine E_istore_n (L2 := [some (.ref 65), some (.int (nI a1k)), some (.int (nI a2k)), some (.int (-3)), none, none, none, none]) at_X6_rules_9 rfl ?_
              refine E_iconst (x := nI 0) at_X6_rules_10 (by decide) ?_
              refine E_istore (L2 := [some (.ref 65), some (.int (nI a1k)), some (.int (nI a2k)), some (.int (-3)), some (.int (nI 0)), none, none, none]) at_X6_rules_11 rfl ?_
              refine E_iload at_X6_rules_13 rfl ?_
              refine E_iload_n at_X6_rules_15 rfl ?_
              refine E_ic (t := 51) (b := false) at_X6_rules_16 rfl ((cn_ge (nI_toInt (by omega)) (nI_toInt (by omega))).trans (decide_eq_false (by omega))) ?_
              refine E_iload_n at_X6_rules_19 rfl ?_
              refine E_if (t := 51) (b := true) at_X6_rules_20 rfl (by decide) ?_
              refine E_iload_n at_X6_rules_51 rfl ?_
              refine E_if (t := 61) (b := false) at_X6_rules_52 rfl (by decide) ?_
              refine E_aload_n at_X6_rules_55 rfl ?_
              refine E_iload_n at_X6_rules_56 rfl ?_
              refine E_callV (v := some (.int (-3))) (As := [.ref 65, .int (-3)]) (r0 := []) (cs2 := (ww im lf s d k ls rf rz ra rn rq lt m1 m2 m3 m4 bd (fc.set 3 ((fc.getD 3 0) + (nI 1))) hd sz el s g (fm.set 3 ((fm.getD 3 0) + (nI 1))) hm so si sh ce ca td wa kp la bf oo bo pw ow tr)) at_X6_rules_57 rfl rfl (Nat.le_of_ble_eq_true rfl) rfl (ab_rvOf w65 rfl) (L53_X6_no (by omega)) (by decide) w_lens ?_
              exact E_iret at_X6_rules_60 rfl
            · exact ⟨I, rfl, hf, iQ, iM, iT, iS, l_el, (lr.1), (lr.2.1), (lr.2.2.1), (by simp only [List.length_set]; exact (lr.2.2.2.1)), (by simp only [List.length_set]; exact (lr.2.2.2.2.1)), (lr.2.2.2.2.2.1), (lr.2.2.2.2.2.2.1), (lr.2.2.2.2.2.2.2.1), (lr.2.2.2.2.2.2.2.2.1), (lr.2.2.2.2.2.2.2.2.2.1), (lr.2.2.2.2.2.2.2.2.2.2.1), (lr.2.2.2.2.2.2.2.2.2.2.2.1), (lr.2.2.2.2.2.2.2.2.2.2.2.2.1), (lr.2.2.2.2.2.2.2.2.2.2.2.2.2.1), (lr.2.2.2.2.2.2.2.2.2.2.2.2.2.2.1), (lr.2.2.2.2.2.2.2.2.2.2.2.2.2.2.2.1), (lr.2.2.2.2.2.2.2.2.2.2.2.2.2.2.2.2.1), (lr.2.2.2.2.2.2.2.2.2.2.2.2.2.2.2.2.2.1), (lr.2.2.2.2.2.2.2.2.2.2.2.2.2.2.2.2.2.2.1), (lr.2.2.2.2.2.2.2.2.2.2.2.2.2.2.2.2.2.2.2.1), (lr.2.2.2.2.2.2.2.2.2.2.2.2.2.2.2.2.2.2.2.2)⟩
          · refine ⟨(-3), (im, lf, s, d, k, ls, rf, rz, ra, rn, rq, lt, m1, m2, m3, m4, bd, (fc.set 3 ((fc.getD 3 0) + (nI 1))), hd, sz, el, s, g, fm, hm, so, si, sh, ce, ca, td, wa, kp, la, bf, oo, bo, pw, ow, tr), (im, lf, s, d, k, ls, rf, rz, ra, rn, rq, lt, m1, m2, m3, m4, bd, (fc.set 3 ((fc.getD 3 0) + (nI 1))), hd, sz, el, s, g, (fm.set 3 ((fm.getD 3 0) + (nI 1))), hm, so, si, sh, ce, ca, td, wa, kp, la, bf, oo, bo, pw, ow, tr), ?_, ?_, ?_⟩
            · show Ev ab_Z0 5 99 [.ref 0, .int (nI a1k), .int (nI a2k)] (ww im lf s d k ls rf rz ra rn rq lt m1 m2 m3 m4 bd fc hd sz el s g fm hm so si sh ce ca td wa kp la bf oo bo pw ow tr) (some (.int (-3)), (ww im lf s d k ls rf rz ra rn rq lt m1 m2 m3 m4 bd (fc.set 3 ((fc.getD 3 0) + (nI 1))) hd sz el s g fm hm so si sh ce ca td wa kp la bf oo bo pw ow tr))
              refine Ef.in (md := mX5_rules) (L := [some (.ref 0), some (.int (nI a1k)), some (.int (nI a2k)), none, none, none, none, none]) rfl (Nat.le_of_ble_eq_true rfl) rfl ?_
              refine E_aload_n at_X5_rules_0 rfl ?_
              refine E_iload_n at_X5_rules_1 rfl ?_
              refine E_iload_n at_X5_rules_2 rfl ?_
              refine E_bipush (x := nI 40) at_X5_rules_3 (by decide) ?_
              refine E_iconst (x := nI 0) at_X5_rules_5 (by decide) ?_
              have e4 : Ev ab_Z0 3 120 [.ref 0, .int (nI a1k), .int (nI a2k), .int (nI 40), .int (nI 0)] (ww im lf s d k ls rf rz ra rn rq lt m1 m2 m3 m4 bd fc hd sz el s g fm hm so si sh ce ca td wa kp la bf oo bo pw ow tr) (some (.int (nI 3)), (ww im lf s d k ls rf rz ra rn rq lt m1 m2 m3 m4 bd fc hd sz el s g fm hm so si sh ce ca td wa kp la bf oo bo pw ow tr)) := by
                refine Ef.in (md := mX5_whyNoTwos) (L := [some (.ref 0), some (.int (nI a1k)), some (.int (nI a2k)), some (.int (nI 40)), some (.int (nI 0)), none]) rfl (Nat.le_of_ble_eq_true rfl) rfl ?_
                refine E_aload_n at_X5_whyNoTwos_0 rfl ?_
                refine E_iload_n at_X5_whyNoTwos_1 rfl ?_
                have e3 : Ev ab_Z0 2 119 [.ref 0, .int (nI a1k)] (ww im lf s d k ls rf rz ra rn rq lt m1 m2 m3 m4 bd fc hd sz el s g fm hm so si sh ce ca td wa kp la bf oo bo pw ow tr) (some (.int (nI 3)), (ww im lf s d k ls rf rz ra rn rq lt m1 m2 m3 m4 bd fc hd sz el s g fm hm so si sh ce ca td wa kp la bf oo bo pw ow tr)) := by
                  refine Ef.in (md := mX5_whyNoRow) (L := [some (.ref 0), some (.int (nI a1k))]) rfl (Nat.le_of_ble_eq_true rfl) rfl ?_
                  refine E_iload_n at_X5_whyNoRow_0 rfl ?_
                  refine E_callS (v := some (.int (nI 1))) (As := [.int (nI a1k)]) (r0 := []) (cs2 := (ww im lf s d k ls rf rz ra rn rq lt m1 m2 m3 m4 bd fc hd sz el s g fm hm so si sh ce ca td wa kp la bf oo bo pw ow tr)) at_X5_whyNoRow_1 rfl rfl (Nat.le_of_ble_eq_true rfl) rfl (L39_X5_isShelf (by omega) (by omega) (by omega)) (by decide) rfl ?_
                  refine E_if (t := 9) (b := true) at_X5_whyNoRow_4 rfl (by decide) ?_
                  refine E_aload_n at_X5_whyNoRow_9 rfl ?_
                  refine E_getfield (v := .ref 31) at_X5_whyNoRow_10 w0 rfl (by decide) rfl ?_
                  refine E_iload_n at_X5_whyNoRow_13 rfl ?_
                  refine E_aalN (b := 49 + 2 * a1k) at_X5_whyNoRow_14 w31 (by omega) (w_shs (by omega)) ?_
                  have e1 : Ev ab_Z0 1 33 [.ref (49 + 2 * a1k)] (ww im lf s d k ls rf rz ra rn rq lt m1 m2 m3 m4 bd fc hd sz el s g fm hm so si sh ce ca td wa kp la bf oo bo pw ow tr) (some (.int (nI 0)), (ww im lf s d k ls rf rz ra rn rq lt m1 m2 m3 m4 bd fc hd sz el s g fm hm so si sh ce ca td wa kp la bf oo bo pw ow tr)) := by
                    refine Ef.in (md := mX3_isOtherThanRow) (L := [some (.ref (49 + 2 * a1k))]) rfl (Nat.le_of_ble_eq_true rfl) rfl ?_
                    refine E_aload_n at_X3_isOtherThanRow_0 rfl ?_
                    refine E_getfield (v := .int (-1)) at_X3_isOtherThanRow_1 (w_shv (j := a1k) (by omega) u1 u2) rfl (by decide) rfl ?_
                    refine E_if (t := 20) (b := true) at_X3_isOtherThanRow_4 rfl (by decide) ?_
                    refine E_iconst (x := nI 0) at_X3_isOtherThanRow_20 (by decide) ?_
                    exact E_iret at_X3_isOtherThanRow_21 rfl
                  refine E_callV (v := some (.int (nI 0))) (As := [.ref (49 + 2 * a1k)]) (r0 := []) (cs2 := (ww im lf s d k ls rf rz ra rn rq lt m1 m2 m3 m4 bd fc hd sz el s g fm hm so si sh ce ca td wa kp la bf oo bo pw ow tr)) at_X5_whyNoRow_15 rfl rfl (Nat.le_of_ble_eq_true rfl) rfl (ab_rvOf (w_shv (j := a1k) (by omega) u1 u2) rfl) e1 (by decide) rfl ?_
                  refine E_if (t := 23) (b := true) at_X5_whyNoRow_18 rfl (by decide) ?_
                  refine E_aload_n at_X5_whyNoRow_23 rfl ?_
                  refine E_getfield (v := .ref 31) at_X5_whyNoRow_24 w0 rfl (by decide) rfl ?_
                  refine E_iload_n at_X5_whyNoRow_27 rfl ?_
                  refine E_aalN (b := 49 + 2 * a1k) at_X5_whyNoRow_28 w31 (by omega) (w_shs (by omega)) ?_
                  have e2 : Ev ab_Z0 1 32 [.ref (49 + 2 * a1k)] (ww im lf s d k ls rf rz ra rn rq lt m1 m2 m3 m4 bd fc hd sz el s g fm hm so si sh ce ca td wa kp la bf oo bo pw ow tr) (some (.int (nI 1)), (ww im lf s d k ls rf rz ra rn rq lt m1 m2 m3 m4 bd fc hd sz el s g fm hm so si sh ce ca td wa kp la bf oo bo pw ow tr)) := by
                    refine Ef.in (md := mX3_isEmpty) (L := [some (.ref (49 + 2 * a1k))]) rfl (Nat.le_of_ble_eq_true rfl) rfl ?_
                    refine E_aload_n at_X3_isEmpty_0 rfl ?_
                    refine E_getfield (v := .int (-1)) at_X3_isEmpty_1 (w_shv (j := a1k) (by omega) u1 u2) rfl (by decide) rfl ?_
                    refine E_iconst (x := (-1)) at_X3_isEmpty_4 (by decide) ?_
                    refine E_ic (t := 12) (b := false) at_X3_isEmpty_5 rfl (by decide) ?_
                    refine E_iconst (x := nI 1) at_X3_isEmpty_8 (by decide) ?_
                    refine E_goto (t := 13) at_X3_isEmpty_9 rfl ?_
                    exact E_iret at_X3_isEmpty_13 rfl
                  refine E_callV (v := some (.int (nI 1))) (As := [.ref (49 + 2 * a1k)]) (r0 := []) (cs2 := (ww im lf s d k ls rf rz ra rn rq lt m1 m2 m3 m4 bd fc hd sz el s g fm hm so si sh ce ca td wa kp la bf oo bo pw ow tr)) at_X5_whyNoRow_29 rfl rfl (Nat.le_of_ble_eq_true rfl) rfl (ab_rvOf (w_shv (j := a1k) (by omega) u1 u2) rfl) e2 (by decide) rfl ?_
                  refine E_if (t := 39) (b := false) at_X5_whyNoRow_32 rfl (by decide) ?_
                  refine E_iconst (x := nI 3) at_X5_whyNoRow_35 (by decide) ?_
                  refine E_goto (t := 40) at_X5_whyNoRow_36 rfl ?_
                  exact E_iret at_X5_whyNoRow_40 rfl
                refine E_callV (v := some (.int (nI 3))) (As := [.ref 0, .int (nI a1k)]) (r0 := []) (cs2 := (ww im lf s d k ls rf rz ra rn rq lt m1 m2 m3 m4 bd fc hd sz el s g fm hm so si sh ce ca td wa kp la bf oo bo pw ow tr)) at_X5_whyNoTwos_2 rfl rfl (Nat.le_of_ble_eq_true rfl) rfl (ab_rvOf w0 rfl) e3 (by decide) rfl ?_
                refine E_istore (L2 := [some (.ref 0), some (.int (nI a1k)), some (.int (nI a2k)), some (.int (nI 40)), some (.int (nI 0)), some (.int (nI 3))]) at_X5_whyNoTwos_5 rfl ?_
                refine E_iload at_X5_whyNoTwos_7 rfl ?_
                refine E_if (t := 15) (b := false) at_X5_whyNoTwos_9 rfl (by decide) ?_
                refine E_iload at_X5_whyNoTwos_12 rfl ?_
                exact E_iret at_X5_whyNoTwos_14 rfl
              refine E_callV (v := some (.int (nI 3))) (As := [.ref 0, .int (nI a1k), .int (nI a2k), .int (nI 40), .int (nI 0)]) (r0 := []) (cs2 := (ww im lf s d k ls rf rz ra rn rq lt m1 m2 m3 m4 bd fc hd sz el s g fm hm so si sh ce ca td wa kp la bf oo bo pw ow tr)) at_X5_rules_6 rfl rfl (Nat.le_of_ble_eq_true rfl) rfl (ab_rvOf w0 rfl) e4 (by decide) rfl ?_
              refine E_istore_n (L2 := [some (.ref 0), some (.int (nI a1k)), some (.int (nI a2k)), some (.int (nI 3)), none, none, none, none]) at_X5_rules_9 rfl ?_
              refine E_iload_n at_X5_rules_10 rfl ?_
              refine E_if (t := 20) (b := false) at_X5_rules_11 rfl (by decide) ?_
              refine E_aload_n at_X5_rules_14 rfl ?_
              refine E_iload_n at_X5_rules_15 rfl ?_
              refine E_callV (v := some (.int (-3))) (As := [.ref 0, .int (nI 3)]) (r0 := []) (cs2 := (ww im lf s d k ls rf rz ra rn rq lt m1 m2 m3 m4 bd (fc.set 3 ((fc.getD 3 0) + (nI 1))) hd sz el s g fm hm so si sh ce ca td wa kp la bf oo bo pw ow tr)) at_X5_rules_16 rfl rfl (Nat.le_of_ble_eq_true rfl) rfl (ab_rvOf w0 rfl) (L52_X5_refuse (by omega)) (by decide) w_lens ?_
              exact E_iret at_X5_rules_19 rfl
            · show Ev ab_Z0 4 187 [.ref 65, .int (nI a1k), .int (nI a2k)] (ww im lf s d k ls rf rz ra rn rq lt m1 m2 m3 m4 bd (fc.set 3 ((fc.getD 3 0) + (nI 1))) hd sz el s g fm hm so si sh ce ca td wa kp la bf oo bo pw ow tr) (some (.int (-3)), (ww im lf s d k ls rf rz ra rn rq lt m1 m2 m3 m4 bd (fc.set 3 ((fc.getD 3 0) + (nI 1))) hd sz el s g (fm.set 3 ((fm.getD 3 0) + (nI 1))) hm so si sh ce ca td wa kp la bf oo bo pw ow tr))
              refine Ef.in (md := mX6_rules) (L := [some (.ref 65), some (.int (nI a1k)), some (.int (nI a2k)), none, none, none, none, none]) rfl (Nat.le_of_ble_eq_true rfl) rfl ?_
              refine E_aload_n at_X6_rules_0 rfl ?_
              refine E_iload_n at_X6_rules_1 rfl ?_
              refine E_iload_n at_X6_rules_2 rfl ?_
              refine E_bipush (x := nI 40) at_X6_rules_3 (by decide) ?_
              refine E_iconst (x := nI 1) at_X6_rules_5 (by decide) ?_
              have e6 : Ev ab_Z0 3 186 [.ref 65, .int (nI a1k), .int (nI a2k), .int (nI 40), .int (nI 1)] (ww im lf s d k ls rf rz ra rn rq lt m1 m2 m3 m4 bd (fc.set 3 ((fc.getD 3 0) + (nI 1))) hd sz el s g fm hm so si sh ce ca td wa kp la bf oo bo pw ow tr) (some (.int (-3)), (ww im lf s d k ls rf rz ra rn rq lt m1 m2 m3 m4 bd (fc.set 3 ((fc.getD 3 0) + (nI 1))) hd sz el s g fm hm so si sh ce ca td wa kp la bf oo bo pw ow tr)) := by
                refine Ef.in (md := mX6_barsOf) (L := [some (.ref 65), some (.int (nI a1k)), some (.int (nI a2k)), some (.int (nI 40)), some (.int (nI 1)), none]) rfl (Nat.le_of_ble_eq_true rfl) rfl ?_
                refine E_aload_n at_X6_barsOf_0 rfl ?_
                refine E_iload_n at_X6_barsOf_1 rfl ?_
                have e5 : Ev ab_Z0 2 142 [.ref 65, .int (nI a1k)] (ww im lf s d k ls rf rz ra rn rq lt m1 m2 m3 m4 bd (fc.set 3 ((fc.getD 3 0) + (nI 1))) hd sz el s g fm hm so si sh ce ca td wa kp la bf oo bo pw ow tr) (some (.int (-3)), (ww im lf s d k ls rf rz ra rn rq lt m1 m2 m3 m4 bd (fc.set 3 ((fc.getD 3 0) + (nI 1))) hd sz el s g fm hm so si sh ce ca td wa kp la bf oo bo pw ow tr)) := by
                  refine Ef.in (md := mX6_wanted) (L := [some (.ref 65), some (.int (nI a1k))]) rfl (Nat.le_of_ble_eq_true rfl) rfl ?_
                  refine E_aload_n at_X6_wanted_0 rfl ?_
                  refine E_iload_n at_X6_wanted_1 rfl ?_
                  refine E_callV (v := some (.int (nI 1))) (As := [.ref 65, .int (nI a1k)]) (r0 := []) (cs2 := (ww im lf s d k ls rf rz ra rn rq lt m1 m2 m3 m4 bd (fc.set 3 ((fc.getD 3 0) + (nI 1))) hd sz el s g fm hm so si sh ce ca td wa kp la bf oo bo pw ow tr)) at_X6_wanted_2 rfl rfl (Nat.le_of_ble_eq_true rfl) rfl (ab_rvOf w65 rfl) (L40_X6_isShelf (by omega) (by omega) (by omega)) (by decide) rfl ?_
                  refine E_if (t := 12) (b := true) at_X6_wanted_5 rfl (by decide) ?_
                  refine E_aload_n at_X6_wanted_12 rfl ?_
                  refine E_getfield (v := .ref 76) at_X6_wanted_13 w65 rfl (by decide) rfl ?_
                  refine E_iload_n at_X6_wanted_16 rfl ?_
                  refine E_ialN (l := hm) (v := hm.getD a1k 0) at_X6_wanted_17 w76 (by omega) (by omega) rfl ?_
                  refine E_iconst (x := nI 2) at_X6_wanted_18 (by decide) ?_
                  refine E_ic (t := 27) (b := true) at_X6_wanted_19 rfl ((cn_ne (nI_toInt (by omega)) (nI_toInt (by omega))).trans (decide_eq_true (by omega))) ?_
                  refine E_aload_n at_X6_wanted_27 rfl ?_
                  refine E_getfield (v := .ref 76) at_X6_wanted_28 w65 rfl (by decide) rfl ?_
                  refine E_iload_n at_X6_wanted_31 rfl ?_
                  refine E_ialN (l := hm) (v := hm.getD a1k 0) at_X6_wanted_32 w76 (by omega) (by omega) rfl ?_
                  refine E_if (t := 41) (b := false) at_X6_wanted_33 rfl ((cn_ne (nI_toInt (by omega)) (by decide : (0 : Int32).toInt = 0)).trans (decide_eq_false (by omega))) ?_
                  refine E_bipush (x := (-3)) at_X6_wanted_36 (by decide) ?_
                  refine E_goto (t := 42) at_X6_wanted_38 rfl ?_
                  exact E_iret at_X6_wanted_42 rfl
                refine E_callV (v := some (.int (-3))) (As := [.ref 65, .int (nI a1k)]) (r0 := []) (cs2 := (ww im lf s d k ls rf rz ra rn rq lt m1 m2 m3 m4 bd (fc.set 3 ((fc.getD 3 0) + (nI 1))) hd sz el s g fm hm so si sh ce ca td wa kp la bf oo bo pw ow tr)) at_X6_barsOf_2 rfl rfl (Nat.le_of_ble_eq_true rfl) rfl (ab_rvOf w65 rfl) e5 (by decide) rfl ?_
                refine E_istore (L2 := [some (.ref 65), some (.int (nI a1k)), some (.int (nI a2k)), some (.int (nI 40)), some (.int (nI 1)), some (.int (-3))]) at_X6_barsOf_5 rfl ?_
                refine E_iload at_X6_barsOf_7 rfl ?_
                refine E_if (t := 17) (b := false) at_X6_barsOf_9 rfl (by decide) ?_
                refine E_iload at_X6_barsOf_12 rfl ?_
                refine E_goto (t := 59) at_X6_barsOf_14 rfl ?_
                exact E_iret at_X6_barsOf_59 rfl
              refine E_callV (v := some (.int (-3))) (As := [.ref 65, .int (nI a1k), .int (nI a2k), .int (nI 40), .int (nI 1)]) (r0 := []) (cs2 := (ww im lf s d k ls rf rz ra rn rq lt m1 m2 m3 m4 bd (fc.set 3 ((fc.getD 3 0) + (nI 1))) hd sz el s g fm hm so si sh ce ca td wa kp la bf oo bo pw ow tr)) at_X6_rules_6 rfl rfl (Nat.le_of_ble_eq_true rfl) rfl (ab_rvOf w65 rfl) e6 (by decide) rfl ?_
              refine E_istore_n (L2 := [some (.ref 65), some (.int (nI a1k)), some (.int (nI a2k)), some (.int (-3)), none, none, none, none]) at_X6_rules_9 rfl ?_
              refine E_iconst (x := nI 0) at_X6_rules_10 (by decide) ?_
              refine E_istore (L2 := [some (.ref 65), some (.int (nI a1k)), some (.int (nI a2k)), some (.int (-3)), some (.int (nI 0)), none, none, none]) at_X6_rules_11 rfl ?_
              refine E_iload at_X6_rules_13 rfl ?_
              refine E_iload_n at_X6_rules_15 rfl ?_
              refine E_ic (t := 51) (b := true) at_X6_rules_16 rfl ((cn_ge (nI_toInt (by omega)) (nI_toInt (by omega))).trans (decide_eq_true (by omega))) ?_
              refine E_iload_n at_X6_rules_51 rfl ?_
              refine E_if (t := 61) (b := false) at_X6_rules_52 rfl (by decide) ?_
              refine E_aload_n at_X6_rules_55 rfl ?_
              refine E_iload_n at_X6_rules_56 rfl ?_
              refine E_callV (v := some (.int (-3))) (As := [.ref 65, .int (-3)]) (r0 := []) (cs2 := (ww im lf s d k ls rf rz ra rn rq lt m1 m2 m3 m4 bd (fc.set 3 ((fc.getD 3 0) + (nI 1))) hd sz el s g (fm.set 3 ((fm.getD 3 0) + (nI 1))) hm so si sh ce ca td wa kp la bf oo bo pw ow tr)) at_X6_rules_57 rfl rfl (Nat.le_of_ble_eq_true rfl) rfl (ab_rvOf w65 rfl) (L53_X6_no (by omega)) (by decide) w_lens ?_
              exact E_iret at_X6_rules_60 rfl
            · exact ⟨I, rfl, hf, iQ, iM, iT, iS, l_el, (lr.1), (lr.2.1), (lr.2.2.1), (by simp only [List.length_set]; exact (lr.2.2.2.1)), (by simp only [List.length_set]; exact (lr.2.2.2.2.1)), (lr.2.2.2.2.2.1), (lr.2.2.2.2.2.2.1), (lr.2.2.2.2.2.2.2.1), (lr.2.2.2.2.2.2.2.2.1), (lr.2.2.2.2.2.2.2.2.2.1), (lr.2.2.2.2.2.2.2.2.2.2.1), (lr.2.2.2.2.2.2.2.2.2.2.2.1), (lr.2.2.2.2.2.2.2.2.2.2.2.2.1), (lr.2.2.2.2.2.2.2.2.2.2.2.2.2.1), (lr.2.2.2.2.2.2.2.2.2.2.2.2.2.2.1), (lr.2.2.2.2.2.2.2.2.2.2.2.2.2.2.2.1), (lr.2.2.2.2.2.2.2.2.2.2.2.2.2.2.2.2.1), (lr.2.2.2.2.2.2.2.2.2.2.2.2.2.2.2.2.2.1), (lr.2.2.2.2.2.2.2.2.2.2.2.2.2.2.2.2.2.2.1), (lr.2.2.2.2.2.2.2.2.2.2.2.2.2.2.2.2.2.2.2.1), (lr.2.2.2.2.2.2.2.2.2.2.2.2.2.2.2.2.2.2.2.2)⟩
        · refine ⟨(-3), (im, lf, s, d, k, ls, rf, rz, ra, rn, rq, lt, m1, m2, m3, m4, bd, (fc.set 3 ((fc.getD 3 0) + (nI 1))), hd, sz, el, s, g, fm, hm, so, si, sh, ce, ca, td, wa, kp, la, bf, oo, bo, pw, ow, tr), (im, lf, s, d, k, ls, rf, rz, ra, rn, rq, lt, m1, m2, m3, m4, bd, (fc.set 3 ((fc.getD 3 0) + (nI 1))), hd, sz, el, s, g, (fm.set 3 ((fm.getD 3 0) + (nI 1))), hm, so, si, sh, ce, ca, td, wa, kp, la, bf, oo, bo, pw, ow, tr), ?_, ?_, ?_⟩
          · show Ev ab_Z0 5 99 [.ref 0, .int (nI a1k), .int a2] (ww im lf s d k ls rf rz ra rn rq lt m1 m2 m3 m4 bd fc hd sz el s g fm hm so si sh ce ca td wa kp la bf oo bo pw ow tr) (some (.int (-3)), (ww im lf s d k ls rf rz ra rn rq lt m1 m2 m3 m4 bd (fc.set 3 ((fc.getD 3 0) + (nI 1))) hd sz el s g fm hm so si sh ce ca td wa kp la bf oo bo pw ow tr))
            refine Ef.in (md := mX5_rules) (L := [some (.ref 0), some (.int (nI a1k)), some (.int a2), none, none, none, none, none]) rfl (Nat.le_of_ble_eq_true rfl) rfl ?_
            refine E_aload_n at_X5_rules_0 rfl ?_
            refine E_iload_n at_X5_rules_1 rfl ?_
            refine E_iload_n at_X5_rules_2 rfl ?_
            refine E_bipush (x := nI 40) at_X5_rules_3 (by decide) ?_
            refine E_iconst (x := nI 0) at_X5_rules_5 (by decide) ?_
            have e4 : Ev ab_Z0 3 120 [.ref 0, .int (nI a1k), .int a2, .int (nI 40), .int (nI 0)] (ww im lf s d k ls rf rz ra rn rq lt m1 m2 m3 m4 bd fc hd sz el s g fm hm so si sh ce ca td wa kp la bf oo bo pw ow tr) (some (.int (nI 3)), (ww im lf s d k ls rf rz ra rn rq lt m1 m2 m3 m4 bd fc hd sz el s g fm hm so si sh ce ca td wa kp la bf oo bo pw ow tr)) := by
              refine Ef.in (md := mX5_whyNoTwos) (L := [some (.ref 0), some (.int (nI a1k)), some (.int a2), some (.int (nI 40)), some (.int (nI 0)), none]) rfl (Nat.le_of_ble_eq_true rfl) rfl ?_
              refine E_aload_n at_X5_whyNoTwos_0 rfl ?_
              refine E_iload_n at_X5_whyNoTwos_1 rfl ?_
              have e3 : Ev ab_Z0 2 119 [.ref 0, .int (nI a1k)] (ww im lf s d k ls rf rz ra rn rq lt m1 m2 m3 m4 bd fc hd sz el s g fm hm so si sh ce ca td wa kp la bf oo bo pw ow tr) (some (.int (nI 3)), (ww im lf s d k ls rf rz ra rn rq lt m1 m2 m3 m4 bd fc hd sz el s g fm hm so si sh ce ca td wa kp la bf oo bo pw ow tr)) := by
                refine Ef.in (md := mX5_whyNoRow) (L := [some (.ref 0), some (.int (nI a1k))]) rfl (Nat.le_of_ble_eq_true rfl) rfl ?_
                refine E_iload_n at_X5_whyNoRow_0 rfl ?_
                refine E_callS (v := some (.int (nI 1))) (As := [.int (nI a1k)]) (r0 := []) (cs2 := (ww im lf s d k ls rf rz ra rn rq lt m1 m2 m3 m4 bd fc hd sz el s g fm hm so si sh ce ca td wa kp la bf oo bo pw ow tr)) at_X5_whyNoRow_1 rfl rfl (Nat.le_of_ble_eq_true rfl) rfl (L39_X5_isShelf (by omega) (by omega) (by omega)) (by decide) rfl ?_
                refine E_if (t := 9) (b := true) at_X5_whyNoRow_4 rfl (by decide) ?_
                refine E_aload_n at_X5_whyNoRow_9 rfl ?_
                refine E_getfield (v := .ref 31) at_X5_whyNoRow_10 w0 rfl (by decide) rfl ?_
                refine E_iload_n at_X5_whyNoRow_13 rfl ?_
                refine E_aalN (b := 49 + 2 * a1k) at_X5_whyNoRow_14 w31 (by omega) (w_shs (by omega)) ?_
                have e1 : Ev ab_Z0 1 33 [.ref (49 + 2 * a1k)] (ww im lf s d k ls rf rz ra rn rq lt m1 m2 m3 m4 bd fc hd sz el s g fm hm so si sh ce ca td wa kp la bf oo bo pw ow tr) (some (.int (nI 0)), (ww im lf s d k ls rf rz ra rn rq lt m1 m2 m3 m4 bd fc hd sz el s g fm hm so si sh ce ca td wa kp la bf oo bo pw ow tr)) := by
                  refine Ef.in (md := mX3_isOtherThanRow) (L := [some (.ref (49 + 2 * a1k))]) rfl (Nat.le_of_ble_eq_true rfl) rfl ?_
                  refine E_aload_n at_X3_isOtherThanRow_0 rfl ?_
                  refine E_getfield (v := .int (-1)) at_X3_isOtherThanRow_1 (w_shv (j := a1k) (by omega) u1 u2) rfl (by decide) rfl ?_
                  refine E_if (t := 20) (b := true) at_X3_isOtherThanRow_4 rfl (by decide) ?_
                  refine E_iconst (x := nI 0) at_X3_isOtherThanRow_20 (by decide) ?_
                  exact E_iret at_X3_isOtherThanRow_21 rfl
                refine E_callV (v := some (.int (nI 0))) (As := [.ref (49 + 2 * a1k)]) (r0 := []) (cs2 := (ww im lf s d k ls rf rz ra rn rq lt m1 m2 m3 m4 bd fc hd sz el s g fm hm so si sh ce ca td wa kp la bf oo bo pw ow tr)) at_X5_whyNoRow_15 rfl rfl (Nat.le_of_ble_eq_true rfl) rfl (ab_rvOf (w_shv (j := a1k) (by omega) u1 u2) rfl) e1 (by decide) rfl ?_
                refine E_if (t := 23) (b := true) at_X5_whyNoRow_18 rfl (by decide) ?_
                refine E_aload_n at_X5_whyNoRow_23 rfl ?_
                refine E_getfield (v := .ref 31) at_X5_whyNoRow_24 w0 rfl (by decide) rfl ?_
                refine E_iload_n at_X5_whyNoRow_27 rfl ?_
                refine E_aalN (b := 49 + 2 * a1k) at_X5_whyNoRow_28 w31 (by omega) (w_shs (by omega)) ?_
                have e2 : Ev ab_Z0 1 32 [.ref (49 + 2 * a1k)] (ww im lf s d k ls rf rz ra rn rq lt m1 m2 m3 m4 bd fc hd sz el s g fm hm so si sh ce ca td wa kp la bf oo bo pw ow tr) (some (.int (nI 1)), (ww im lf s d k ls rf rz ra rn rq lt m1 m2 m3 m4 bd fc hd sz el s g fm hm so si sh ce ca td wa kp la bf oo bo pw ow tr)) := by
                  refine Ef.in (md := mX3_isEmpty) (L := [some (.ref (49 + 2 * a1k))]) rfl (Nat.le_of_ble_eq_true rfl) rfl ?_
                  refine E_aload_n at_X3_isEmpty_0 rfl ?_
                  refine E_getfield (v := .int (-1)) at_X3_isEmpty_1 (w_shv (j := a1k) (by omega) u1 u2) rfl (by decide) rfl ?_
                  refine E_iconst (x := (-1)) at_X3_isEmpty_4 (by decide) ?_
                  refine E_ic (t := 12) (b := false) at_X3_isEmpty_5 rfl (by decide) ?_
                  refine E_iconst (x := nI 1) at_X3_isEmpty_8 (by decide) ?_
                  refine E_goto (t := 13) at_X3_isEmpty_9 rfl ?_
                  exact E_iret at_X3_isEmpty_13 rfl
                refine E_callV (v := some (.int (nI 1))) (As := [.ref (49 + 2 * a1k)]) (r0 := []) (cs2 := (ww im lf s d k ls rf rz ra rn rq lt m1 m2 m3 m4 bd fc hd sz el s g fm hm so si sh ce ca td wa kp la bf oo bo pw ow tr)) at_X5_whyNoRow_29 rfl rfl (Nat.le_of_ble_eq_true rfl) rfl (ab_rvOf (w_shv (j := a1k) (by omega) u1 u2) rfl) e2 (by decide) rfl ?_
                refine E_if (t := 39) (b := false) at_X5_whyNoRow_32 rfl (by decide) ?_
                refine E_iconst (x := nI 3) at_X5_whyNoRow_35 (by decide) ?_
                refine E_goto (t := 40) at_X5_whyNoRow_36 rfl ?_
                exact E_iret at_X5_whyNoRow_40 rfl
              refine E_callV (v := some (.int (nI 3))) (As := [.ref 0, .int (nI a1k)]) (r0 := []) (cs2 := (ww im lf s d k ls rf rz ra rn rq lt m1 m2 m3 m4 bd fc hd sz el s g fm hm so si sh ce ca td wa kp la bf oo bo pw ow tr)) at_X5_whyNoTwos_2 rfl rfl (Nat.le_of_ble_eq_true rfl) rfl (ab_rvOf w0 rfl) e3 (by decide) rfl ?_
              refine E_istore (L2 := [some (.ref 0), some (.int (nI a1k)), some (.int a2), some (.int (nI 40)), some (.int (nI 0)), some (.int (nI 3))]) at_X5_whyNoTwos_5 rfl ?_
              refine E_iload at_X5_whyNoTwos_7 rfl ?_
              refine E_if (t := 15) (b := false) at_X5_whyNoTwos_9 rfl (by decide) ?_
              refine E_iload at_X5_whyNoTwos_12 rfl ?_
              exact E_iret at_X5_whyNoTwos_14 rfl
            refine E_callV (v := some (.int (nI 3))) (As := [.ref 0, .int (nI a1k), .int a2, .int (nI 40), .int (nI 0)]) (r0 := []) (cs2 := (ww im lf s d k ls rf rz ra rn rq lt m1 m2 m3 m4 bd fc hd sz el s g fm hm so si sh ce ca td wa kp la bf oo bo pw ow tr)) at_X5_rules_6 rfl rfl (Nat.le_of_ble_eq_true rfl) rfl (ab_rvOf w0 rfl) e4 (by decide) rfl ?_
            refine E_istore_n (L2 := [some (.ref 0), some (.int (nI a1k)), some (.int a2), some (.int (nI 3)), none, none, none, none]) at_X5_rules_9 rfl ?_
            refine E_iload_n at_X5_rules_10 rfl ?_
            refine E_if (t := 20) (b := false) at_X5_rules_11 rfl (by decide) ?_
            refine E_aload_n at_X5_rules_14 rfl ?_
            refine E_iload_n at_X5_rules_15 rfl ?_
            refine E_callV (v := some (.int (-3))) (As := [.ref 0, .int (nI 3)]) (r0 := []) (cs2 := (ww im lf s d k ls rf rz ra rn rq lt m1 m2 m3 m4 bd (fc.set 3 ((fc.getD 3 0) + (nI 1))) hd sz el s g fm hm so si sh ce ca td wa kp la bf oo bo pw ow tr)) at_X5_rules_16 rfl rfl (Nat.le_of_ble_eq_true rfl) rfl (ab_rvOf w0 rfl) (L52_X5_refuse (by omega)) (by decide) w_lens ?_
            exact E_iret at_X5_rules_19 rfl
          · show Ev ab_Z0 4 187 [.ref 65, .int (nI a1k), .int a2] (ww im lf s d k ls rf rz ra rn rq lt m1 m2 m3 m4 bd (fc.set 3 ((fc.getD 3 0) + (nI 1))) hd sz el s g fm hm so si sh ce ca td wa kp la bf oo bo pw ow tr) (some (.int (-3)), (ww im lf s d k ls rf rz ra rn rq lt m1 m2 m3 m4 bd (fc.set 3 ((fc.getD 3 0) + (nI 1))) hd sz el s g (fm.set 3 ((fm.getD 3 0) + (nI 1))) hm so si sh ce ca td wa kp la bf oo bo pw ow tr))
            refine Ef.in (md := mX6_rules) (L := [some (.ref 65), some (.int (nI a1k)), some (.int a2), none, none, none, none, none]) rfl (Nat.le_of_ble_eq_true rfl) rfl ?_
            refine E_aload_n at_X6_rules_0 rfl ?_
            refine E_iload_n at_X6_rules_1 rfl ?_
            refine E_iload_n at_X6_rules_2 rfl ?_
            refine E_bipush (x := nI 40) at_X6_rules_3 (by decide) ?_
            refine E_iconst (x := nI 1) at_X6_rules_5 (by decide) ?_
            have e6 : Ev ab_Z0 3 186 [.ref 65, .int (nI a1k), .int a2, .int (nI 40), .int (nI 1)] (ww im lf s d k ls rf rz ra rn rq lt m1 m2 m3 m4 bd (fc.set 3 ((fc.getD 3 0) + (nI 1))) hd sz el s g fm hm so si sh ce ca td wa kp la bf oo bo pw ow tr) (some (.int (-3)), (ww im lf s d k ls rf rz ra rn rq lt m1 m2 m3 m4 bd (fc.set 3 ((fc.getD 3 0) + (nI 1))) hd sz el s g fm hm so si sh ce ca td wa kp la bf oo bo pw ow tr)) := by
              refine Ef.in (md := mX6_barsOf) (L := [some (.ref 65), some (.int (nI a1k)), some (.int a2), some (.int (nI 40)), some (.int (nI 1)), none]) rfl (Nat.le_of_ble_eq_true rfl) rfl ?_
              refine E_aload_n at_X6_barsOf_0 rfl ?_
              refine E_iload_n at_X6_barsOf_1 rfl ?_
              have e5 : Ev ab_Z0 2 142 [.ref 65, .int (nI a1k)] (ww im lf s d k ls rf rz ra rn rq lt m1 m2 m3 m4 bd (fc.set 3 ((fc.getD 3 0) + (nI 1))) hd sz el s g fm hm so si sh ce ca td wa kp la bf oo bo pw ow tr) (some (.int (-3)), (ww im lf s d k ls rf rz ra rn rq lt m1 m2 m3 m4 bd (fc.set 3 ((fc.getD 3 0) + (nI 1))) hd sz el s g fm hm so si sh ce ca td wa kp la bf oo bo pw ow tr)) := by
                refine Ef.in (md := mX6_wanted) (L := [some (.ref 65), some (.int (nI a1k))]) rfl (Nat.le_of_ble_eq_true rfl) rfl ?_
                refine E_aload_n at_X6_wanted_0 rfl ?_
                refine E_iload_n at_X6_wanted_1 rfl ?_
                refine E_callV (v := some (.int (nI 1))) (As := [.ref 65, .int (nI a1k)]) (r0 := []) (cs2 := (ww im lf s d k ls rf rz ra rn rq lt m1 m2 m3 m4 bd (fc.set 3 ((fc.getD 3 0) + (nI 1))) hd sz el s g fm hm so si sh ce ca td wa kp la bf oo bo pw ow tr)) at_X6_wanted_2 rfl rfl (Nat.le_of_ble_eq_true rfl) rfl (ab_rvOf w65 rfl) (L40_X6_isShelf (by omega) (by omega) (by omega)) (by decide) rfl ?_
                refine E_if (t := 12) (b := true) at_X6_wanted_5 rfl (by decide) ?_
                refine E_aload_n at_X6_wanted_12 rfl ?_
                refine E_getfield (v := .ref 76) at_X6_wanted_13 w65 rfl (by decide) rfl ?_
                refine E_iload_n at_X6_wanted_16 rfl ?_
                refine E_ialN (l := hm) (v := hm.getD a1k 0) at_X6_wanted_17 w76 (by omega) (by omega) rfl ?_
                refine E_iconst (x := nI 2) at_X6_wanted_18 (by decide) ?_
                refine E_ic (t := 27) (b := true) at_X6_wanted_19 rfl ((cn_ne (nI_toInt (by omega)) (nI_toInt (by omega))).trans (decide_eq_true (by omega))) ?_
                refine E_aload_n at_X6_wanted_27 rfl ?_
                refine E_getfield (v := .ref 76) at_X6_wanted_28 w65 rfl (by decide) rfl ?_
                refine E_iload_n at_X6_wanted_31 rfl ?_
                refine E_ialN (l := hm) (v := hm.getD a1k 0) at_X6_wanted_32 w76 (by omega) (by omega) rfl ?_
                refine E_if (t := 41) (b := false) at_X6_wanted_33 rfl ((cn_ne (nI_toInt (by omega)) (by decide : (0 : Int32).toInt = 0)).trans (decide_eq_false (by omega))) ?_
                refine E_bipush (x := (-3)) at_X6_wanted_36 (by decide) ?_
                refine E_goto (t := 42) at_X6_wanted_38 rfl ?_
                exact E_iret at_X6_wanted_42 rfl
              refine E_callV (v := some (.int (-3))) (As := [.ref 65, .int (nI a1k)]) (r0 := []) (cs2 := (ww im lf s d k ls rf rz ra rn rq lt m1 m2 m3 m4 bd (fc.set 3 ((fc.getD 3 0) + (nI 1))) hd sz el s g fm hm so si sh ce ca td wa kp la bf oo bo pw ow tr)) at_X6_barsOf_2 rfl rfl (Nat.le_of_ble_eq_true rfl) rfl (ab_rvOf w65 rfl) e5 (by decide) rfl ?_
              refine E_istore (L2 := [some (.ref 65), some (.int (nI a1k)), some (.int a2), some (.int (nI 40)), some (.int (nI 1)), some (.int (-3))]) at_X6_barsOf_5 rfl ?_
              refine E_iload at_X6_barsOf_7 rfl ?_
              refine E_if (t := 17) (b := false) at_X6_barsOf_9 rfl (by decide) ?_
              refine E_iload at_X6_barsOf_12 rfl ?_
              refine E_goto (t := 59) at_X6_barsOf_14 rfl ?_
              exact E_iret at_X6_barsOf_59 rfl
            refine E_callV (v := some (.int (-3))) (As := [.ref 65, .int (nI a1k), .int a2, .int (nI 40), .int (nI 1)]) (r0 := []) (cs2 := (ww im lf s d k ls rf rz ra rn rq lt m1 m2 m3 m4 bd (fc.set 3 ((fc.getD 3 0) + (nI 1))) hd sz el s g fm hm so si sh ce ca td wa kp la bf oo bo pw ow tr)) at_X6_rules_6 rfl rfl (Nat.le_of_ble_eq_true rfl) rfl (ab_rvOf w65 rfl) e6 (by decide) rfl ?_
            refine E_istore_n (L2 := [some (.ref 65), some (.int (nI a1k)), some (.int a2), some (.int (-3)), none, none, none, none]) at_X6_rules_9 rfl ?_
            refine E_iconst (x := nI 0) at_X6_rules_10 (by decide) ?_
            refine E_istore (L2 := [some (.ref 65), some (.int (nI a1k)), some (.int a2), some (.int (-3)), some (.int (nI 0)), none, none, none]) at_X6_rules_11 rfl ?_
            refine E_iload at_X6_rules_13 rfl ?_
            refine E_iload_n at_X6_rules_15 rfl ?_
            refine E_ic (t := 51) (b := true) at_X6_rules_16 rfl ((cn_ge (nI_toInt (by omega)) rfl).trans (decide_eq_true (by omega))) ?_
            refine E_iload_n at_X6_rules_51 rfl ?_
            refine E_if (t := 61) (b := false) at_X6_rules_52 rfl (by decide) ?_
            refine E_aload_n at_X6_rules_55 rfl ?_
            refine E_iload_n at_X6_rules_56 rfl ?_
            refine E_callV (v := some (.int (-3))) (As := [.ref 65, .int (-3)]) (r0 := []) (cs2 := (ww im lf s d k ls rf rz ra rn rq lt m1 m2 m3 m4 bd (fc.set 3 ((fc.getD 3 0) + (nI 1))) hd sz el s g (fm.set 3 ((fm.getD 3 0) + (nI 1))) hm so si sh ce ca td wa kp la bf oo bo pw ow tr)) at_X6_rules_57 rfl rfl (Nat.le_of_ble_eq_true rfl) rfl (ab_rvOf w65 rfl) (L53_X6_no (by omega)) (by decide) w_lens ?_
            exact E_iret at_X6_rules_60 rfl
          · exact ⟨I, rfl, hf, iQ, iM, iT, iS, l_el, (lr.1), (lr.2.1), (lr.2.2.1), (by simp only [List.length_set]; exact (lr.2.2.2.1)), (by simp only [List.length_set]; exact (lr.2.2.2.2.1)), (lr.2.2.2.2.2.1), (lr.2.2.2.2.2.2.1), (lr.2.2.2.2.2.2.2.1), (lr.2.2.2.2.2.2.2.2.1), (lr.2.2.2.2.2.2.2.2.2.1), (lr.2.2.2.2.2.2.2.2.2.2.1), (lr.2.2.2.2.2.2.2.2.2.2.2.1), (lr.2.2.2.2.2.2.2.2.2.2.2.2.1), (lr.2.2.2.2.2.2.2.2.2.2.2.2.2.1), (lr.2.2.2.2.2.2.2.2.2.2.2.2.2.2.1), (lr.2.2.2.2.2.2.2.2.2.2.2.2.2.2.2.1), (lr.2.2.2.2.2.2.2.2.2.2.2.2.2.2.2.2.1), (lr.2.2.2.2.2.2.2.2.2.2.2.2.2.2.2.2.2.1), (lr.2.2.2.2.2.2.2.2.2.2.2.2.2.2.2.2.2.2.1), (lr.2.2.2.2.2.2.2.2.2.2.2.2.2.2.2.2.2.2.2.1), (lr.2.2.2.2.2.2.2.2.2.2.2.2.2.2.2.2.2.2.2.2)⟩
      · rcases ab_int a2 with ⟨a2k, f3, rfl⟩ | f3
        · by_cases f4 : 0 < a2k
          · refine ⟨(-2), (im, lf, s, d, k, ls, rf, rz, ra, rn, rq, lt, m1, m2, m3, m4, bd, (fc.set 2 ((fc.getD 2 0) + (nI 1))), hd, sz, el, s, g, fm, hm, so, si, sh, ce, ca, td, wa, kp, la, bf, oo, bo, pw, ow, tr), (im, lf, s, d, k, ls, rf, rz, ra, rn, rq, lt, m1, m2, m3, m4, bd, (fc.set 2 ((fc.getD 2 0) + (nI 1))), hd, sz, el, s, g, (fm.set 2 ((fm.getD 2 0) + (nI 1))), hm, so, si, sh, ce, ca, td, wa, kp, la, bf, oo, bo, pw, ow, tr), ?_, ?_, ?_⟩
            · show Ev ab_Z0 5 99 [.ref 0, .int (nI a1k), .int (nI a2k)] (ww im lf s d k ls rf rz ra rn rq lt m1 m2 m3 m4 bd fc hd sz el s g fm hm so si sh ce ca td wa kp la bf oo bo pw ow tr) (some (.int (-2)), (ww im lf s d k ls rf rz ra rn rq lt m1 m2 m3 m4 bd (fc.set 2 ((fc.getD 2 0) + (nI 1))) hd sz el s g fm hm so si sh ce ca td wa kp la bf oo bo pw ow tr))
              refine Ef.in (md := mX5_rules) (L := [some (.ref 0), some (.int (nI a1k)), some (.int (nI a2k)), none, none, none, none, none]) rfl (Nat.le_of_ble_eq_true rfl) rfl ?_
              refine E_aload_n at_X5_rules_0 rfl ?_
              refine E_iload_n at_X5_rules_1 rfl ?_
              refine E_iload_n at_X5_rules_2 rfl ?_
              refine E_bipush (x := nI 40) at_X5_rules_3 (by decide) ?_
              refine E_iconst (x := nI 0) at_X5_rules_5 (by decide) ?_
              have e3 : Ev ab_Z0 3 120 [.ref 0, .int (nI a1k), .int (nI a2k), .int (nI 40), .int (nI 0)] (ww im lf s d k ls rf rz ra rn rq lt m1 m2 m3 m4 bd fc hd sz el s g fm hm so si sh ce ca td wa kp la bf oo bo pw ow tr) (some (.int (nI 2)), (ww im lf s d k ls rf rz ra rn rq lt m1 m2 m3 m4 bd fc hd sz el s g fm hm so si sh ce ca td wa kp la bf oo bo pw ow tr)) := by
                refine Ef.in (md := mX5_whyNoTwos) (L := [some (.ref 0), some (.int (nI a1k)), some (.int (nI a2k)), some (.int (nI 40)), some (.int (nI 0)), none]) rfl (Nat.le_of_ble_eq_true rfl) rfl ?_
                refine E_aload_n at_X5_whyNoTwos_0 rfl ?_
                refine E_iload_n at_X5_whyNoTwos_1 rfl ?_
                have e2 : Ev ab_Z0 2 119 [.ref 0, .int (nI a1k)] (ww im lf s d k ls rf rz ra rn rq lt m1 m2 m3 m4 bd fc hd sz el s g fm hm so si sh ce ca td wa kp la bf oo bo pw ow tr) (some (.int (nI 2)), (ww im lf s d k ls rf rz ra rn rq lt m1 m2 m3 m4 bd fc hd sz el s g fm hm so si sh ce ca td wa kp la bf oo bo pw ow tr)) := by
                  refine Ef.in (md := mX5_whyNoRow) (L := [some (.ref 0), some (.int (nI a1k))]) rfl (Nat.le_of_ble_eq_true rfl) rfl ?_
                  refine E_iload_n at_X5_whyNoRow_0 rfl ?_
                  refine E_callS (v := some (.int (nI 1))) (As := [.int (nI a1k)]) (r0 := []) (cs2 := (ww im lf s d k ls rf rz ra rn rq lt m1 m2 m3 m4 bd fc hd sz el s g fm hm so si sh ce ca td wa kp la bf oo bo pw ow tr)) at_X5_whyNoRow_1 rfl rfl (Nat.le_of_ble_eq_true rfl) rfl (L39_X5_isShelf (by omega) (by omega) (by omega)) (by decide) rfl ?_
                  refine E_if (t := 9) (b := true) at_X5_whyNoRow_4 rfl (by decide) ?_
                  refine E_aload_n at_X5_whyNoRow_9 rfl ?_
                  refine E_getfield (v := .ref 31) at_X5_whyNoRow_10 w0 rfl (by decide) rfl ?_
                  refine E_iload_n at_X5_whyNoRow_13 rfl ?_
                  refine E_aalN (b := 49 + 2 * a1k) at_X5_whyNoRow_14 w31 (by omega) (w_shs (by omega)) ?_
                  have e1 : Ev ab_Z0 1 33 [.ref (49 + 2 * a1k)] (ww im lf s d k ls rf rz ra rn rq lt m1 m2 m3 m4 bd fc hd sz el s g fm hm so si sh ce ca td wa kp la bf oo bo pw ow tr) (some (.int (nI 1)), (ww im lf s d k ls rf rz ra rn rq lt m1 m2 m3 m4 bd fc hd sz el s g fm hm so si sh ce ca td wa kp la bf oo bo pw ow tr)) := by
                    refine Ef.in (md := mX3_isOtherThanRow) (L := [some (.ref (49 + 2 * a1k))]) rfl (Nat.le_of_ble_eq_true rfl) rfl ?_
                    refine E_aload_n at_X3_isOtherThanRow_0 rfl ?_
                    refine E_getfield (v := .int (nI xq)) at_X3_isOtherThanRow_1 (w_shv (j := a1k) (by omega) u2 u3) rfl (by decide) rfl ?_
                    refine E_if (t := 20) (b := false) at_X3_isOtherThanRow_4 rfl ((cn_lt (nI_toInt (by omega)) (by decide : (0 : Int32).toInt = 0)).trans (decide_eq_false (by omega))) ?_
                    refine E_aload_n at_X3_isOtherThanRow_7 rfl ?_
                    refine E_getfield (v := .int (nI xq)) at_X3_isOtherThanRow_8 (w_shv (j := a1k) (by omega) u2 u3) rfl (by decide) rfl ?_
                    refine E_bipush (x := nI 100) at_X3_isOtherThanRow_11 (by decide) ?_
                    refine E_ic (t := 20) (b := false) at_X3_isOtherThanRow_13 rfl ((cn_ge (nI_toInt (by omega)) (nI_toInt (by omega))).trans (decide_eq_false (by omega))) ?_
                    refine E_iconst (x := nI 1) at_X3_isOtherThanRow_16 (by decide) ?_
                    refine E_goto (t := 21) at_X3_isOtherThanRow_17 rfl ?_
                    exact E_iret at_X3_isOtherThanRow_21 rfl
                  refine E_callV (v := some (.int (nI 1))) (As := [.ref (49 + 2 * a1k)]) (r0 := []) (cs2 := (ww im lf s d k ls rf rz ra rn rq lt m1 m2 m3 m4 bd fc hd sz el s g fm hm so si sh ce ca td wa kp la bf oo bo pw ow tr)) at_X5_whyNoRow_15 rfl rfl (Nat.le_of_ble_eq_true rfl) rfl (ab_rvOf (w_shv (j := a1k) (by omega) u2 u3) rfl) e1 (by decide) rfl ?_
                  refine E_if (t := 23) (b := false) at_X5_whyNoRow_18 rfl (by decide) ?_
                  refine E_iconst (x := nI 2) at_X5_whyNoRow_21 (by decide) ?_
                  exact E_iret at_X5_whyNoRow_22 rfl
                refine E_callV (v := some (.int (nI 2))) (As := [.ref 0, .int (nI a1k)]) (r0 := []) (cs2 := (ww im lf s d k ls rf rz ra rn rq lt m1 m2 m3 m4 bd fc hd sz el s g fm hm so si sh ce ca td wa kp la bf oo bo pw ow tr)) at_X5_whyNoTwos_2 rfl rfl (Nat.le_of_ble_eq_true rfl) rfl (ab_rvOf w0 rfl) e2 (by decide) rfl ?_
                refine E_istore (L2 := [some (.ref 0), some (.int (nI a1k)), some (.int (nI a2k)), some (.int (nI 40)), some (.int (nI 0)), some (.int (nI 2))]) at_X5_whyNoTwos_5 rfl ?_
                refine E_iload at_X5_whyNoTwos_7 rfl ?_
                refine E_if (t := 15) (b := false) at_X5_whyNoTwos_9 rfl (by decide) ?_
                refine E_iload at_X5_whyNoTwos_12 rfl ?_
                exact E_iret at_X5_whyNoTwos_14 rfl
              refine E_callV (v := some (.int (nI 2))) (As := [.ref 0, .int (nI a1k), .int (nI a2k), .int (nI 40), .int (nI 0)]) (r0 := []) (cs2 := (ww im lf s d k ls rf rz ra rn rq lt m1 m2 m3 m4 bd fc hd sz el s g fm hm so si sh ce ca td wa kp la bf oo bo pw ow tr)) at_X5_rules_6 rfl rfl (Nat.le_of_ble_eq_true rfl) rfl (ab_rvOf w0 rfl) e3 (by decide) rfl ?_
              refine E_istore_n (L2 := [some (.ref 0), some (.int (nI a1k)), some (.int (nI a2k)), some (.int (nI 2)), none, none, none, none]) at_X5_rules_9 rfl ?_
              refine E_iload_n at_X5_rules_10 rfl ?_
              refine E_if (t := 20) (b := false) at_X5_rules_11 rfl (by decide) ?_
              refine E_aload_n at_X5_rules_14 rfl ?_
              refine E_iload_n at_X5_rules_15 rfl ?_
              refine E_callV (v := some (.int (-2))) (As := [.ref 0, .int (nI 2)]) (r0 := []) (cs2 := (ww im lf s d k ls rf rz ra rn rq lt m1 m2 m3 m4 bd (fc.set 2 ((fc.getD 2 0) + (nI 1))) hd sz el s g fm hm so si sh ce ca td wa kp la bf oo bo pw ow tr)) at_X5_rules_16 rfl rfl (Nat.le_of_ble_eq_true rfl) rfl (ab_rvOf w0 rfl) (L55_X5_refuse (by omega)) (by decide) w_lens ?_
              exact E_iret at_X5_rules_19 rfl
            · show Ev ab_Z0 4 187 [.ref 65, .int (nI a1k), .int (nI a2k)] (ww im lf s d k ls rf rz ra rn rq lt m1 m2 m3 m4 bd (fc.set 2 ((fc.getD 2 0) + (nI 1))) hd sz el s g fm hm so si sh ce ca td wa kp la bf oo bo pw ow tr) (some (.int (-2)), (ww im lf s d k ls rf rz ra rn rq lt m1 m2 m3 m4 bd (fc.set 2 ((fc.getD 2 0) + (nI 1))) hd sz el s g (fm.set 2 ((fm.getD 2 0) + (nI 1))) hm so si sh ce ca td wa kp la bf oo bo pw ow tr))
              refine Ef.in (md := mX6_rules) (L := [some (.ref 65), some (.int (nI a1k)), some (.int (nI a2k)), none, none, none, none, none]) rfl (Nat.le_of_ble_eq_true rfl) rfl ?_
              refine E_aload_n at_X6_rules_0 rfl ?_
              refine E_iload_n at_X6_rules_1 rfl ?_
              refine E_iload_n at_X6_rules_2 rfl ?_
              refine E_bipush (x := nI 40) at_X6_rules_3 (by decide) ?_
              refine E_iconst (x := nI 1) at_X6_rules_5 (by decide) ?_
              have e5 : Ev ab_Z0 3 186 [.ref 65, .int (nI a1k), .int (nI a2k), .int (nI 40), .int (nI 1)] (ww im lf s d k ls rf rz ra rn rq lt m1 m2 m3 m4 bd (fc.set 2 ((fc.getD 2 0) + (nI 1))) hd sz el s g fm hm so si sh ce ca td wa kp la bf oo bo pw ow tr) (some (.int (-2)), (ww im lf s d k ls rf rz ra rn rq lt m1 m2 m3 m4 bd (fc.set 2 ((fc.getD 2 0) + (nI 1))) hd sz el s g fm hm so si sh ce ca td wa kp la bf oo bo pw ow tr)) := by
                refine Ef.in (md := mX6_barsOf) (L := [some (.ref 65), some (.int (nI a1k)), some (.int (nI a2k)), some (.int (nI 40)), some (.int (nI 1)), none]) rfl (Nat.le_of_ble_eq_true rfl) rfl ?_
                refine E_aload_n at_X6_barsOf_0 rfl ?_
                refine E_iload_n at_X6_barsOf_1 rfl ?_
                have e4 : Ev ab_Z0 2 142 [.ref 65, .int (nI a1k)] (ww im lf s d k ls rf rz ra rn rq lt m1 m2 m3 m4 bd (fc.set 2 ((fc.getD 2 0) + (nI 1))) hd sz el s g fm hm so si sh ce ca td wa kp la bf oo bo pw ow tr) (some (.int (-2)), (ww im lf s d k ls rf rz ra rn rq lt m1 m2 m3 m4 bd (fc.set 2 ((fc.getD 2 0) + (nI 1))) hd sz el s g fm hm so si sh ce ca td wa kp la bf oo bo pw ow tr)) := by
                  refine Ef.in (md := mX6_wanted) (L := [some (.ref 65), some (.int (nI a1k))]) rfl (Nat.le_of_ble_eq_true rfl) rfl ?_
                  refine E_aload_n at_X6_wanted_0 rfl ?_
                  refine E_iload_n at_X6_wanted_1 rfl ?_
                  refine E_callV (v := some (.int (nI 1))) (As := [.ref 65, .int (nI a1k)]) (r0 := []) (cs2 := (ww im lf s d k ls rf rz ra rn rq lt m1 m2 m3 m4 bd (fc.set 2 ((fc.getD 2 0) + (nI 1))) hd sz el s g fm hm so si sh ce ca td wa kp la bf oo bo pw ow tr)) at_X6_wanted_2 rfl rfl (Nat.le_of_ble_eq_true rfl) rfl (ab_rvOf w65 rfl) (L40_X6_isShelf (by omega) (by omega) (by omega)) (by decide) rfl ?_
                  refine E_if (t := 12) (b := true) at_X6_wanted_5 rfl (by decide) ?_
                  refine E_aload_n at_X6_wanted_12 rfl ?_
                  refine E_getfield (v := .ref 76) at_X6_wanted_13 w65 rfl (by decide) rfl ?_
                  refine E_iload_n at_X6_wanted_16 rfl ?_
                  refine E_ialN (l := hm) (v := hm.getD a1k 0) at_X6_wanted_17 w76 (by omega) (by omega) rfl ?_
                  refine E_iconst (x := nI 2) at_X6_wanted_18 (by decide) ?_
                  refine E_ic (t := 27) (b := false) at_X6_wanted_19 rfl ((cn_ne (nI_toInt (by omega)) (nI_toInt (by omega))).trans (decide_eq_false (by omega))) ?_
                  refine E_bipush (x := (-2)) at_X6_wanted_22 (by decide) ?_
                  refine E_goto (t := 42) at_X6_wanted_24 rfl ?_
                  exact E_iret at_X6_wanted_42 rfl
                refine E_callV (v := some (.int (-2))) (As := [.ref 65, .int (nI a1k)]) (r0 := []) (cs2 := (ww im lf s d k ls rf rz ra rn rq lt m1 m2 m3 m4 bd (fc.set 2 ((fc.getD 2 0) + (nI 1))) hd sz el s g fm hm so si sh ce ca td wa kp la bf oo bo pw ow tr)) at_X6_barsOf_2 rfl rfl (Nat.le_of_ble_eq_true rfl) rfl (ab_rvOf w65 rfl) e4 (by decide) rfl ?_
                refine E_istore (L2 := [some (.ref 65), some (.int (nI a1k)), some (.int (nI a2k)), some (.int (nI 40)), some (.int (nI 1)), some (.int (-2))]) at_X6_barsOf_5 rfl ?_
                refine E_iload at_X6_barsOf_7 rfl ?_
                refine E_if (t := 17) (b := false) at_X6_barsOf_9 rfl (by decide) ?_
                refine E_iload at_X6_barsOf_12 rfl ?_
                refine E_goto (t := 59) at_X6_barsOf_14 rfl ?_
                exact E_iret at_X6_barsOf_59 rfl
              refine E_callV (v := some (.int (-2))) (As := [.ref 65, .int (nI a1k), .int (nI a2k), .int (nI 40), .int (nI 1)]) (r0 := []) (cs2 := (ww im lf s d k ls rf rz ra rn rq lt m1 m2 m3 m4 bd (fc.set 2 ((fc.getD 2 0) + (nI 1))) hd sz el s g fm hm so si sh ce ca td wa kp la bf oo bo pw ow tr)) at_X6_rules_6 rfl rfl (Nat.le_of_ble_eq_true rfl) rfl (ab_rvOf w65 rfl) e5 (by decide) rfl ?_
              refine E_istore_n (L2 := [some (.ref 65), some (.int (nI a1k)), some (.int (nI a2k)), some (.int (-2)), none, none, none, none]) at_X6_rules_9 rfl ?_
              refine E_iconst (x := nI 0) at_X6_rules_10 (by decide) ?_
              refine E_istore (L2 := [some (.ref 65), some (.int (nI a1k)), some (.int (nI a2k)), some (.int (-2)), some (.int (nI 0)), none, none, none]) at_X6_rules_11 rfl ?_
              refine E_iload at_X6_rules_13 rfl ?_
              refine E_iload_n at_X6_rules_15 rfl ?_
              refine E_ic (t := 51) (b := false) at_X6_rules_16 rfl ((cn_ge (nI_toInt (by omega)) (nI_toInt (by omega))).trans (decide_eq_false (by omega))) ?_
              refine E_iload_n at_X6_rules_19 rfl ?_
              refine E_if (t := 51) (b := true) at_X6_rules_20 rfl (by decide) ?_
              refine E_iload_n at_X6_rules_51 rfl ?_
              refine E_if (t := 61) (b := false) at_X6_rules_52 rfl (by decide) ?_
              refine E_aload_n at_X6_rules_55 rfl ?_
              refine E_iload_n at_X6_rules_56 rfl ?_
              refine E_callV (v := some (.int (-2))) (As := [.ref 65, .int (-2)]) (r0 := []) (cs2 := (ww im lf s d k ls rf rz ra rn rq lt m1 m2 m3 m4 bd (fc.set 2 ((fc.getD 2 0) + (nI 1))) hd sz el s g (fm.set 2 ((fm.getD 2 0) + (nI 1))) hm so si sh ce ca td wa kp la bf oo bo pw ow tr)) at_X6_rules_57 rfl rfl (Nat.le_of_ble_eq_true rfl) rfl (ab_rvOf w65 rfl) (L56_X6_no (by omega)) (by decide) w_lens ?_
              exact E_iret at_X6_rules_60 rfl
            · exact ⟨I, rfl, hf, iQ, iM, iT, iS, l_el, (lr.1), (lr.2.1), (lr.2.2.1), (by simp only [List.length_set]; exact (lr.2.2.2.1)), (by simp only [List.length_set]; exact (lr.2.2.2.2.1)), (lr.2.2.2.2.2.1), (lr.2.2.2.2.2.2.1), (lr.2.2.2.2.2.2.2.1), (lr.2.2.2.2.2.2.2.2.1), (lr.2.2.2.2.2.2.2.2.2.1), (lr.2.2.2.2.2.2.2.2.2.2.1), (lr.2.2.2.2.2.2.2.2.2.2.2.1), (lr.2.2.2.2.2.2.2.2.2.2.2.2.1), (lr.2.2.2.2.2.2.2.2.2.2.2.2.2.1), (lr.2.2.2.2.2.2.2.2.2.2.2.2.2.2.1), (lr.2.2.2.2.2.2.2.2.2.2.2.2.2.2.2.1), (lr.2.2.2.2.2.2.2.2.2.2.2.2.2.2.2.2.1), (lr.2.2.2.2.2.2.2.2.2.2.2.2.2.2.2.2.2.1), (lr.2.2.2.2.2.2.2.2.2.2.2.2.2.2.2.2.2.2.1), (lr.2.2.2.2.2.2.2.2.2.2.2.2.2.2.2.2.2.2.2.1), (lr.2.2.2.2.2.2.2.2.2.2.2.2.2.2.2.2.2.2.2.2)⟩
          · refine ⟨(-2), (im, lf, s, d, k, ls, rf, rz, ra, rn, rq, lt, m1, m2, m3, m4, bd, (fc.set 2 ((fc.getD 2 0) + (nI 1))), hd, sz, el, s, g, fm, hm, so, si, sh, ce, ca, td, wa, kp, la, bf, oo, bo, pw, ow, tr), (im, lf, s, d, k, ls, rf, rz, ra, rn, rq, lt, m1, m2, m3, m4, bd, (fc.set 2 ((fc.getD 2 0) + (nI 1))), hd, sz, el, s, g, (fm.set 2 ((fm.getD 2 0) + (nI 1))), hm, so, si, sh, ce, ca, td, wa, kp, la, bf, oo, bo, pw, ow, tr), ?_, ?_, ?_⟩
            · show Ev ab_Z0 5 99 [.ref 0, .int (nI a1k), .int (nI a2k)] (ww im lf s d k ls rf rz ra rn rq lt m1 m2 m3 m4 bd fc hd sz el s g fm hm so si sh ce ca td wa kp la bf oo bo pw ow tr) (some (.int (-2)), (ww im lf s d k ls rf rz ra rn rq lt m1 m2 m3 m4 bd (fc.set 2 ((fc.getD 2 0) + (nI 1))) hd sz el s g fm hm so si sh ce ca td wa kp la bf oo bo pw ow tr))
              refine Ef.in (md := mX5_rules) (L := [some (.ref 0), some (.int (nI a1k)), some (.int (nI a2k)), none, none, none, none, none]) rfl (Nat.le_of_ble_eq_true rfl) rfl ?_
              refine E_aload_n at_X5_rules_0 rfl ?_
              refine E_iload_n at_X5_rules_1 rfl ?_
              refine E_iload_n at_X5_rules_2 rfl ?_
              refine E_bipush (x := nI 40) at_X5_rules_3 (by decide) ?_
              refine E_iconst (x := nI 0) at_X5_rules_5 (by decide) ?_
              have e3 : Ev ab_Z0 3 120 [.ref 0, .int (nI a1k), .int (nI a2k), .int (nI 40), .int (nI 0)] (ww im lf s d k ls rf rz ra rn rq lt m1 m2 m3 m4 bd fc hd sz el s g fm hm so si sh ce ca td wa kp la bf oo bo pw ow tr) (some (.int (nI 2)), (ww im lf s d k ls rf rz ra rn rq lt m1 m2 m3 m4 bd fc hd sz el s g fm hm so si sh ce ca td wa kp la bf oo bo pw ow tr)) := by
                refine Ef.in (md := mX5_whyNoTwos) (L := [some (.ref 0), some (.int (nI a1k)), some (.int (nI a2k)), some (.int (nI 40)), some (.int (nI 0)), none]) rfl (Nat.le_of_ble_eq_true rfl) rfl ?_
                refine E_aload_n at_X5_whyNoTwos_0 rfl ?_
                refine E_iload_n at_X5_whyNoTwos_1 rfl ?_
                have e2 : Ev ab_Z0 2 119 [.ref 0, .int (nI a1k)] (ww im lf s d k ls rf rz ra rn rq lt m1 m2 m3 m4 bd fc hd sz el s g fm hm so si sh ce ca td wa kp la bf oo bo pw ow tr) (some (.int (nI 2)), (ww im lf s d k ls rf rz ra rn rq lt m1 m2 m3 m4 bd fc hd sz el s g fm hm so si sh ce ca td wa kp la bf oo bo pw ow tr)) := by
                  refine Ef.in (md := mX5_whyNoRow) (L := [some (.ref 0), some (.int (nI a1k))]) rfl (Nat.le_of_ble_eq_true rfl) rfl ?_
                  refine E_iload_n at_X5_whyNoRow_0 rfl ?_
                  refine E_callS (v := some (.int (nI 1))) (As := [.int (nI a1k)]) (r0 := []) (cs2 := (ww im lf s d k ls rf rz ra rn rq lt m1 m2 m3 m4 bd fc hd sz el s g fm hm so si sh ce ca td wa kp la bf oo bo pw ow tr)) at_X5_whyNoRow_1 rfl rfl (Nat.le_of_ble_eq_true rfl) rfl (L39_X5_isShelf (by omega) (by omega) (by omega)) (by decide) rfl ?_
                  refine E_if (t := 9) (b := true) at_X5_whyNoRow_4 rfl (by decide) ?_
                  refine E_aload_n at_X5_whyNoRow_9 rfl ?_
                  refine E_getfield (v := .ref 31) at_X5_whyNoRow_10 w0 rfl (by decide) rfl ?_
                  refine E_iload_n at_X5_whyNoRow_13 rfl ?_
                  refine E_aalN (b := 49 + 2 * a1k) at_X5_whyNoRow_14 w31 (by omega) (w_shs (by omega)) ?_
                  have e1 : Ev ab_Z0 1 33 [.ref (49 + 2 * a1k)] (ww im lf s d k ls rf rz ra rn rq lt m1 m2 m3 m4 bd fc hd sz el s g fm hm so si sh ce ca td wa kp la bf oo bo pw ow tr) (some (.int (nI 1)), (ww im lf s d k ls rf rz ra rn rq lt m1 m2 m3 m4 bd fc hd sz el s g fm hm so si sh ce ca td wa kp la bf oo bo pw ow tr)) := by
                    refine Ef.in (md := mX3_isOtherThanRow) (L := [some (.ref (49 + 2 * a1k))]) rfl (Nat.le_of_ble_eq_true rfl) rfl ?_
                    refine E_aload_n at_X3_isOtherThanRow_0 rfl ?_
                    refine E_getfield (v := .int (nI xq)) at_X3_isOtherThanRow_1 (w_shv (j := a1k) (by omega) u2 u3) rfl (by decide) rfl ?_
                    refine E_if (t := 20) (b := false) at_X3_isOtherThanRow_4 rfl ((cn_lt (nI_toInt (by omega)) (by decide : (0 : Int32).toInt = 0)).trans (decide_eq_false (by omega))) ?_
                    refine E_aload_n at_X3_isOtherThanRow_7 rfl ?_
                    refine E_getfield (v := .int (nI xq)) at_X3_isOtherThanRow_8 (w_shv (j := a1k) (by omega) u2 u3) rfl (by decide) rfl ?_
                    refine E_bipush (x := nI 100) at_X3_isOtherThanRow_11 (by decide) ?_
                    refine E_ic (t := 20) (b := false) at_X3_isOtherThanRow_13 rfl ((cn_ge (nI_toInt (by omega)) (nI_toInt (by omega))).trans (decide_eq_false (by omega))) ?_
                    refine E_iconst (x := nI 1) at_X3_isOtherThanRow_16 (by decide) ?_
                    refine E_goto (t := 21) at_X3_isOtherThanRow_17 rfl ?_
                    exact E_iret at_X3_isOtherThanRow_21 rfl
                  refine E_callV (v := some (.int (nI 1))) (As := [.ref (49 + 2 * a1k)]) (r0 := []) (cs2 := (ww im lf s d k ls rf rz ra rn rq lt m1 m2 m3 m4 bd fc hd sz el s g fm hm so si sh ce ca td wa kp la bf oo bo pw ow tr)) at_X5_whyNoRow_15 rfl rfl (Nat.le_of_ble_eq_true rfl) rfl (ab_rvOf (w_shv (j := a1k) (by omega) u2 u3) rfl) e1 (by decide) rfl ?_
                  refine E_if (t := 23) (b := false) at_X5_whyNoRow_18 rfl (by decide) ?_
                  refine E_iconst (x := nI 2) at_X5_whyNoRow_21 (by decide) ?_
                  exact E_iret at_X5_whyNoRow_22 rfl
                refine E_callV (v := some (.int (nI 2))) (As := [.ref 0, .int (nI a1k)]) (r0 := []) (cs2 := (ww im lf s d k ls rf rz ra rn rq lt m1 m2 m3 m4 bd fc hd sz el s g fm hm so si sh ce ca td wa kp la bf oo bo pw ow tr)) at_X5_whyNoTwos_2 rfl rfl (Nat.le_of_ble_eq_true rfl) rfl (ab_rvOf w0 rfl) e2 (by decide) rfl ?_
                refine E_istore (L2 := [some (.ref 0), some (.int (nI a1k)), some (.int (nI a2k)), some (.int (nI 40)), some (.int (nI 0)), some (.int (nI 2))]) at_X5_whyNoTwos_5 rfl ?_
                refine E_iload at_X5_whyNoTwos_7 rfl ?_
                refine E_if (t := 15) (b := false) at_X5_whyNoTwos_9 rfl (by decide) ?_
                refine E_iload at_X5_whyNoTwos_12 rfl ?_
                exact E_iret at_X5_whyNoTwos_14 rfl
              refine E_callV (v := some (.int (nI 2))) (As := [.ref 0, .int (nI a1k), .int (nI a2k), .int (nI 40), .int (nI 0)]) (r0 := []) (cs2 := (ww im lf s d k ls rf rz ra rn rq lt m1 m2 m3 m4 bd fc hd sz el s g fm hm so si sh ce ca td wa kp la bf oo bo pw ow tr)) at_X5_rules_6 rfl rfl (Nat.le_of_ble_eq_true rfl) rfl (ab_rvOf w0 rfl) e3 (by decide) rfl ?_
              refine E_istore_n (L2 := [some (.ref 0), some (.int (nI a1k)), some (.int (nI a2k)), some (.int (nI 2)), none, none, none, none]) at_X5_rules_9 rfl ?_
              refine E_iload_n at_X5_rules_10 rfl ?_
              refine E_if (t := 20) (b := false) at_X5_rules_11 rfl (by decide) ?_
              refine E_aload_n at_X5_rules_14 rfl ?_
              refine E_iload_n at_X5_rules_15 rfl ?_
              refine E_callV (v := some (.int (-2))) (As := [.ref 0, .int (nI 2)]) (r0 := []) (cs2 := (ww im lf s d k ls rf rz ra rn rq lt m1 m2 m3 m4 bd (fc.set 2 ((fc.getD 2 0) + (nI 1))) hd sz el s g fm hm so si sh ce ca td wa kp la bf oo bo pw ow tr)) at_X5_rules_16 rfl rfl (Nat.le_of_ble_eq_true rfl) rfl (ab_rvOf w0 rfl) (L55_X5_refuse (by omega)) (by decide) w_lens ?_
              exact E_iret at_X5_rules_19 rfl
            · show Ev ab_Z0 4 187 [.ref 65, .int (nI a1k), .int (nI a2k)] (ww im lf s d k ls rf rz ra rn rq lt m1 m2 m3 m4 bd (fc.set 2 ((fc.getD 2 0) + (nI 1))) hd sz el s g fm hm so si sh ce ca td wa kp la bf oo bo pw ow tr) (some (.int (-2)), (ww im lf s d k ls rf rz ra rn rq lt m1 m2 m3 m4 bd (fc.set 2 ((fc.getD 2 0) + (nI 1))) hd sz el s g (fm.set 2 ((fm.getD 2 0) + (nI 1))) hm so si sh ce ca td wa kp la bf oo bo pw ow tr))
              refine Ef.in (md := mX6_rules) (L := [some (.ref 65), some (.int (nI a1k)), some (.int (nI a2k)), none, none, none, none, none]) rfl (Nat.le_of_ble_eq_true rfl) rfl ?_
              refine E_aload_n at_X6_rules_0 rfl ?_
              refine E_iload_n at_X6_rules_1 rfl ?_
              refine E_iload_n at_X6_rules_2 rfl ?_
              refine E_bipush (x := nI 40) at_X6_rules_3 (by decide) ?_
              refine E_iconst (x := nI 1) at_X6_rules_5 (by decide) ?_
              have e5 : Ev ab_Z0 3 186 [.ref 65, .int (nI a1k), .int (nI a2k), .int (nI 40), .int (nI 1)] (ww im lf s d k ls rf rz ra rn rq lt m1 m2 m3 m4 bd (fc.set 2 ((fc.getD 2 0) + (nI 1))) hd sz el s g fm hm so si sh ce ca td wa kp la bf oo bo pw ow tr) (some (.int (-2)), (ww im lf s d k ls rf rz ra rn rq lt m1 m2 m3 m4 bd (fc.set 2 ((fc.getD 2 0) + (nI 1))) hd sz el s g fm hm so si sh ce ca td wa kp la bf oo bo pw ow tr)) := by
                refine Ef.in (md := mX6_barsOf) (L := [some (.ref 65), some (.int (nI a1k)), some (.int (nI a2k)), some (.int (nI 40)), some (.int (nI 1)), none]) rfl (Nat.le_of_ble_eq_true rfl) rfl ?_
                refine E_aload_n at_X6_barsOf_0 rfl ?_
                refine E_iload_n at_X6_barsOf_1 rfl ?_
                have e4 : Ev ab_Z0 2 142 [.ref 65, .int (nI a1k)] (ww im lf s d k ls rf rz ra rn rq lt m1 m2 m3 m4 bd (fc.set 2 ((fc.getD 2 0) + (nI 1))) hd sz el s g fm hm so si sh ce ca td wa kp la bf oo bo pw ow tr) (some (.int (-2)), (ww im lf s d k ls rf rz ra rn rq lt m1 m2 m3 m4 bd (fc.set 2 ((fc.getD 2 0) + (nI 1))) hd sz el s g fm hm so si sh ce ca td wa kp la bf oo bo pw ow tr)) := by
                  refine Ef.in (md := mX6_wanted) (L := [some (.ref 65), some (.int (nI a1k))]) rfl (Nat.le_of_ble_eq_true rfl) rfl ?_
                  refine E_aload_n at_X6_wanted_0 rfl ?_
                  refine E_iload_n at_X6_wanted_1 rfl ?_
                  refine E_callV (v := some (.int (nI 1))) (As := [.ref 65, .int (nI a1k)]) (r0 := []) (cs2 := (ww im lf s d k ls rf rz ra rn rq lt m1 m2 m3 m4 bd (fc.set 2 ((fc.getD 2 0) + (nI 1))) hd sz el s g fm hm so si sh ce ca td wa kp la bf oo bo pw ow tr)) at_X6_wanted_2 rfl rfl (Nat.le_of_ble_eq_true rfl) rfl (ab_rvOf w65 rfl) (L40_X6_isShelf (by omega) (by omega) (by omega)) (by decide) rfl ?_
                  refine E_if (t := 12) (b := true) at_X6_wanted_5 rfl (by decide) ?_
                  refine E_aload_n at_X6_wanted_12 rfl ?_
                  refine E_getfield (v := .ref 76) at_X6_wanted_13 w65 rfl (by decide) rfl ?_
                  refine E_iload_n at_X6_wanted_16 rfl ?_
                  refine E_ialN (l := hm) (v := hm.getD a1k 0) at_X6_wanted_17 w76 (by omega) (by omega) rfl ?_
                  refine E_iconst (x := nI 2) at_X6_wanted_18 (by decide) ?_
                  refine E_ic (t := 27) (b := false) at_X6_wanted_19 rfl ((cn_ne (nI_toInt (by omega)) (nI_toInt (by omega))).trans (decide_eq_false (by omega))) ?_
                  refine E_bipush (x := (-2)) at_X6_wanted_22 (by decide) ?_
                  refine E_goto (t := 42) at_X6_wanted_24 rfl ?_
                  exact E_iret at_X6_wanted_42 rfl
                refine E_callV (v := some (.int (-2))) (As := [.ref 65, .int (nI a1k)]) (r0 := []) (cs2 := (ww im lf s d k ls rf rz ra rn rq lt m1 m2 m3 m4 bd (fc.set 2 ((fc.getD 2 0) + (nI 1))) hd sz el s g fm hm so si sh ce ca td wa kp la bf oo bo pw ow tr)) at_X6_barsOf_2 rfl rfl (Nat.le_of_ble_eq_true rfl) rfl (ab_rvOf w65 rfl) e4 (by decide) rfl ?_
                refine E_istore (L2 := [some (.ref 65), some (.int (nI a1k)), some (.int (nI a2k)), some (.int (nI 40)), some (.int (nI 1)), some (.int (-2))]) at_X6_barsOf_5 rfl ?_
                refine E_iload at_X6_barsOf_7 rfl ?_
                refine E_if (t := 17) (b := false) at_X6_barsOf_9 rfl (by decide) ?_
                refine E_iload at_X6_barsOf_12 rfl ?_
                refine E_goto (t := 59) at_X6_barsOf_14 rfl ?_
                exact E_iret at_X6_barsOf_59 rfl
              refine E_callV (v := some (.int (-2))) (As := [.ref 65, .int (nI a1k), .int (nI a2k), .int (nI 40), .int (nI 1)]) (r0 := []) (cs2 := (ww im lf s d k ls rf rz ra rn rq lt m1 m2 m3 m4 bd (fc.set 2 ((fc.getD 2 0) + (nI 1))) hd sz el s g fm hm so si sh ce ca td wa kp la bf oo bo pw ow tr)) at_X6_rules_6 rfl rfl (Nat.le_of_ble_eq_true rfl) rfl (ab_rvOf w65 rfl) e5 (by decide) rfl ?_
              refine E_istore_n (L2 := [some (.ref 65), some (.int (nI a1k)), some (.int (nI a2k)), some (.int (-2)), none, none, none, none]) at_X6_rules_9 rfl ?_
              refine E_iconst (x := nI 0) at_X6_rules_10 (by decide) ?_
              refine E_istore (L2 := [some (.ref 65), some (.int (nI a1k)), some (.int (nI a2k)), some (.int (-2)), some (.int (nI 0)), none, none, none]) at_X6_rules_11 rfl ?_
              refine E_iload at_X6_rules_13 rfl ?_
              refine E_iload_n at_X6_rules_15 rfl ?_
              refine E_ic (t := 51) (b := true) at_X6_rules_16 rfl ((cn_ge (nI_toInt (by omega)) (nI_toInt (by omega))).trans (decide_eq_true (by omega))) ?_
              refine E_iload_n at_X6_rules_51 rfl ?_
              refine E_if (t := 61) (b := false) at_X6_rules_52 rfl (by decide) ?_
              refine E_aload_n at_X6_rules_55 rfl ?_
              refine E_iload_n at_X6_rules_56 rfl ?_
              refine E_callV (v := some (.int (-2))) (As := [.ref 65, .int (-2)]) (r0 := []) (cs2 := (ww im lf s d k ls rf rz ra rn rq lt m1 m2 m3 m4 bd (fc.set 2 ((fc.getD 2 0) + (nI 1))) hd sz el s g (fm.set 2 ((fm.getD 2 0) + (nI 1))) hm so si sh ce ca td wa kp la bf oo bo pw ow tr)) at_X6_rules_57 rfl rfl (Nat.le_of_ble_eq_true rfl) rfl (ab_rvOf w65 rfl) (L56_X6_no (by omega)) (by decide) w_lens ?_
              exact E_iret at_X6_rules_60 rfl
            · exact ⟨I, rfl, hf, iQ, iM, iT, iS, l_el, (lr.1), (lr.2.1), (lr.2.2.1), (by simp only [List.length_set]; exact (lr.2.2.2.1)), (by simp only [List.length_set]; exact (lr.2.2.2.2.1)), (lr.2.2.2.2.2.1), (lr.2.2.2.2.2.2.1), (lr.2.2.2.2.2.2.2.1), (lr.2.2.2.2.2.2.2.2.1), (lr.2.2.2.2.2.2.2.2.2.1), (lr.2.2.2.2.2.2.2.2.2.2.1), (lr.2.2.2.2.2.2.2.2.2.2.2.1), (lr.2.2.2.2.2.2.2.2.2.2.2.2.1), (lr.2.2.2.2.2.2.2.2.2.2.2.2.2.1), (lr.2.2.2.2.2.2.2.2.2.2.2.2.2.2.1), (lr.2.2.2.2.2.2.2.2.2.2.2.2.2.2.2.1), (lr.2.2.2.2.2.2.2.2.2.2.2.2.2.2.2.2.1), (lr.2.2.2.2.2.2.2.2.2.2.2.2.2.2.2.2.2.1), (lr.2.2.2.2.2.2.2.2.2.2.2.2.2.2.2.2.2.2.1), (lr.2.2.2.2.2.2.2.2.2.2.2.2.2.2.2.2.2.2.2.1), (lr.2.2.2.2.2.2.2.2.2.2.2.2.2.2.2.2.2.2.2.2)⟩
        · refine ⟨(-2), (im, lf, s, d, k, ls, rf, rz, ra, rn, rq, lt, m1, m2, m3, m4, bd, (fc.set 2 ((fc.getD 2 0) + (nI 1))), hd, sz, el, s, g, fm, hm, so, si, sh, ce, ca, td, wa, kp, la, bf, oo, bo, pw, ow, tr), (im, lf, s, d, k, ls, rf, rz, ra, rn, rq, lt, m1, m2, m3, m4, bd, (fc.set 2 ((fc.getD 2 0) + (nI 1))), hd, sz, el, s, g, (fm.set 2 ((fm.getD 2 0) + (nI 1))), hm, so, si, sh, ce, ca, td, wa, kp, la, bf, oo, bo, pw, ow, tr), ?_, ?_, ?_⟩
          · show Ev ab_Z0 5 99 [.ref 0, .int (nI a1k), .int a2] (ww im lf s d k ls rf rz ra rn rq lt m1 m2 m3 m4 bd fc hd sz el s g fm hm so si sh ce ca td wa kp la bf oo bo pw ow tr) (some (.int (-2)), (ww im lf s d k ls rf rz ra rn rq lt m1 m2 m3 m4 bd (fc.set 2 ((fc.getD 2 0) + (nI 1))) hd sz el s g fm hm so si sh ce ca td wa kp la bf oo bo pw ow tr))
            refine Ef.in (md := mX5_rules) (L := [some (.ref 0), some (.int (nI a1k)), some (.int a2), none, none, none, none, none]) rfl (Nat.le_of_ble_eq_true rfl) rfl ?_
            refine E_aload_n at_X5_rules_0 rfl ?_
            refine E_iload_n at_X5_rules_1 rfl ?_
            refine E_iload_n at_X5_rules_2 rfl ?_
            refine E_bipush (x := nI 40) at_X5_rules_3 (by decide) ?_
            refine E_iconst (x := nI 0) at_X5_rules_5 (by decide) ?_
            have e3 : Ev ab_Z0 3 120 [.ref 0, .int (nI a1k), .int a2, .int (nI 40), .int (nI 0)] (ww im lf s d k ls rf rz ra rn rq lt m1 m2 m3 m4 bd fc hd sz el s g fm hm so si sh ce ca td wa kp la bf oo bo pw ow tr) (some (.int (nI 2)), (ww im lf s d k ls rf rz ra rn rq lt m1 m2 m3 m4 bd fc hd sz el s g fm hm so si sh ce ca td wa kp la bf oo bo pw ow tr)) := by
              refine Ef.in (md := mX5_whyNoTwos) (L := [some (.ref 0), some (.int (nI a1k)), some (.int a2), some (.int (nI 40)), some (.int (nI 0)), none]) rfl (Nat.le_of_ble_eq_true rfl) rfl ?_
              refine E_aload_n at_X5_whyNoTwos_0 rfl ?_
              refine E_iload_n at_X5_whyNoTwos_1 rfl ?_
              have e2 : Ev ab_Z0 2 119 [.ref 0, .int (nI a1k)] (ww im lf s d k ls rf rz ra rn rq lt m1 m2 m3 m4 bd fc hd sz el s g fm hm so si sh ce ca td wa kp la bf oo bo pw ow tr) (some (.int (nI 2)), (ww im lf s d k ls rf rz ra rn rq lt m1 m2 m3 m4 bd fc hd sz el s g fm hm so si sh ce ca td wa kp la bf oo bo pw ow tr)) := by
                refine Ef.in (md := mX5_whyNoRow) (L := [some (.ref 0), some (.int (nI a1k))]) rfl (Nat.le_of_ble_eq_true rfl) rfl ?_
                refine E_iload_n at_X5_whyNoRow_0 rfl ?_
                refine E_callS (v := some (.int (nI 1))) (As := [.int (nI a1k)]) (r0 := []) (cs2 := (ww im lf s d k ls rf rz ra rn rq lt m1 m2 m3 m4 bd fc hd sz el s g fm hm so si sh ce ca td wa kp la bf oo bo pw ow tr)) at_X5_whyNoRow_1 rfl rfl (Nat.le_of_ble_eq_true rfl) rfl (L39_X5_isShelf (by omega) (by omega) (by omega)) (by decide) rfl ?_
                refine E_if (t := 9) (b := true) at_X5_whyNoRow_4 rfl (by decide) ?_
                refine E_aload_n at_X5_whyNoRow_9 rfl ?_
                refine E_getfield (v := .ref 31) at_X5_whyNoRow_10 w0 rfl (by decide) rfl ?_
                refine E_iload_n at_X5_whyNoRow_13 rfl ?_
                refine E_aalN (b := 49 + 2 * a1k) at_X5_whyNoRow_14 w31 (by omega) (w_shs (by omega)) ?_
                have e1 : Ev ab_Z0 1 33 [.ref (49 + 2 * a1k)] (ww im lf s d k ls rf rz ra rn rq lt m1 m2 m3 m4 bd fc hd sz el s g fm hm so si sh ce ca td wa kp la bf oo bo pw ow tr) (some (.int (nI 1)), (ww im lf s d k ls rf rz ra rn rq lt m1 m2 m3 m4 bd fc hd sz el s g fm hm so si sh ce ca td wa kp la bf oo bo pw ow tr)) := by
                  refine Ef.in (md := mX3_isOtherThanRow) (L := [some (.ref (49 + 2 * a1k))]) rfl (Nat.le_of_ble_eq_true rfl) rfl ?_
                  refine E_aload_n at_X3_isOtherThanRow_0 rfl ?_
                  refine E_getfield (v := .int (nI xq)) at_X3_isOtherThanRow_1 (w_shv (j := a1k) (by omega) u2 u3) rfl (by decide) rfl ?_
                  refine E_if (t := 20) (b := false) at_X3_isOtherThanRow_4 rfl ((cn_lt (nI_toInt (by omega)) (by decide : (0 : Int32).toInt = 0)).trans (decide_eq_false (by omega))) ?_
                  refine E_aload_n at_X3_isOtherThanRow_7 rfl ?_
                  refine E_getfield (v := .int (nI xq)) at_X3_isOtherThanRow_8 (w_shv (j := a1k) (by omega) u2 u3) rfl (by decide) rfl ?_
                  refine E_bipush (x := nI 100) at_X3_isOtherThanRow_11 (by decide) ?_
                  refine E_ic (t := 20) (b := false) at_X3_isOtherThanRow_13 rfl ((cn_ge (nI_toInt (by omega)) (nI_toInt (by omega))).trans (decide_eq_false (by omega))) ?_
                  refine E_iconst (x := nI 1) at_X3_isOtherThanRow_16 (by decide) ?_
                  refine E_goto (t := 21) at_X3_isOtherThanRow_17 rfl ?_
                  exact E_iret at_X3_isOtherThanRow_21 rfl
                refine E_callV (v := some (.int (nI 1))) (As := [.ref (49 + 2 * a1k)]) (r0 := []) (cs2 := (ww im lf s d k ls rf rz ra rn rq lt m1 m2 m3 m4 bd fc hd sz el s g fm hm so si sh ce ca td wa kp la bf oo bo pw ow tr)) at_X5_whyNoRow_15 rfl rfl (Nat.le_of_ble_eq_true rfl) rfl (ab_rvOf (w_shv (j := a1k) (by omega) u2 u3) rfl) e1 (by decide) rfl ?_
                refine E_if (t := 23) (b := false) at_X5_whyNoRow_18 rfl (by decide) ?_
                refine E_iconst (x := nI 2) at_X5_whyNoRow_21 (by decide) ?_
                exact E_iret at_X5_whyNoRow_22 rfl
              refine E_callV (v := some (.int (nI 2))) (As := [.ref 0, .int (nI a1k)]) (r0 := []) (cs2 := (ww im lf s d k ls rf rz ra rn rq lt m1 m2 m3 m4 bd fc hd sz el s g fm hm so si sh ce ca td wa kp la bf oo bo pw ow tr)) at_X5_whyNoTwos_2 rfl rfl (Nat.le_of_ble_eq_true rfl) rfl (ab_rvOf w0 rfl) e2 (by decide) rfl ?_
              refine E_istore (L2 := [some (.ref 0), some (.int (nI a1k)), some (.int a2), some (.int (nI 40)), some (.int (nI 0)), some (.int (nI 2))]) at_X5_whyNoTwos_5 rfl ?_
              refine E_iload at_X5_whyNoTwos_7 rfl ?_
              refine E_if (t := 15) (b := false) at_X5_whyNoTwos_9 rfl (by decide) ?_
              refine E_iload at_X5_whyNoTwos_12 rfl ?_
              exact E_iret at_X5_whyNoTwos_14 rfl
            refine E_callV (v := some (.int (nI 2))) (As := [.ref 0, .int (nI a1k), .int a2, .int (nI 40), .int (nI 0)]) (r0 := []) (cs2 := (ww im lf s d k ls rf rz ra rn rq lt m1 m2 m3 m4 bd fc hd sz el s g fm hm so si sh ce ca td wa kp la bf oo bo pw ow tr)) at_X5_rules_6 rfl rfl (Nat.le_of_ble_eq_true rfl) rfl (ab_rvOf w0 rfl) e3 (by decide) rfl ?_
            refine E_istore_n (L2 := [some (.ref 0), some (.int (nI a1k)), some (.int a2), some (.int (nI 2)), none, none, none, none]) at_X5_rules_9 rfl ?_
            refine E_iload_n at_X5_rules_10 rfl ?_
            refine E_if (t := 20) (b := false) at_X5_rules_11 rfl (by decide) ?_
            refine E_aload_n at_X5_rules_14 rfl ?_
            refine E_iload_n at_X5_rules_15 rfl ?_
            refine E_callV (v := some (.int (-2))) (As := [.ref 0, .int (nI 2)]) (r0 := []) (cs2 := (ww im lf s d k ls rf rz ra rn rq lt m1 m2 m3 m4 bd (fc.set 2 ((fc.getD 2 0) + (nI 1))) hd sz el s g fm hm so si sh ce ca td wa kp la bf oo bo pw ow tr)) at_X5_rules_16 rfl rfl (Nat.le_of_ble_eq_true rfl) rfl (ab_rvOf w0 rfl) (L55_X5_refuse (by omega)) (by decide) w_lens ?_
            exact E_iret at_X5_rules_19 rfl
          · show Ev ab_Z0 4 187 [.ref 65, .int (nI a1k), .int a2] (ww im lf s d k ls rf rz ra rn rq lt m1 m2 m3 m4 bd (fc.set 2 ((fc.getD 2 0) + (nI 1))) hd sz el s g fm hm so si sh ce ca td wa kp la bf oo bo pw ow tr) (some (.int (-2)), (ww im lf s d k ls rf rz ra rn rq lt m1 m2 m3 m4 bd (fc.set 2 ((fc.getD 2 0) + (nI 1))) hd sz el s g (fm.set 2 ((fm.getD 2 0) + (nI 1))) hm so si sh ce ca td wa kp la bf oo bo pw ow tr))
            refine Ef.in (md := mX6_rules) (L := [some (.ref 65), some (.int (nI a1k)), some (.int a2), none, none, none, none, none]) rfl (Nat.le_of_ble_eq_true rfl) rfl ?_
            refine E_aload_n at_X6_rules_0 rfl ?_
            refine E_iload_n at_X6_rules_1 rfl ?_
            refine E_iload_n at_X6_rules_2 rfl ?_
            refine E_bipush (x := nI 40) at_X6_rules_3 (by decide) ?_
            refine E_iconst (x := nI 1) at_X6_rules_5 (by decide) ?_
            have e5 : Ev ab_Z0 3 186 [.ref 65, .int (nI a1k), .int a2, .int (nI 40), .int (nI 1)] (ww im lf s d k ls rf rz ra rn rq lt m1 m2 m3 m4 bd (fc.set 2 ((fc.getD 2 0) + (nI 1))) hd sz el s g fm hm so si sh ce ca td wa kp la bf oo bo pw ow tr) (some (.int (-2)), (ww im lf s d k ls rf rz ra rn rq lt m1 m2 m3 m4 bd (fc.set 2 ((fc.getD 2 0) + (nI 1))) hd sz el s g fm hm so si sh ce ca td wa kp la bf oo bo pw ow tr)) := by
              refine Ef.in (md := mX6_barsOf) (L := [some (.ref 65), some (.int (nI a1k)), some (.int a2), some (.int (nI 40)), some (.int (nI 1)), none]) rfl (Nat.le_of_ble_eq_true rfl) rfl ?_
              refine E_aload_n at_X6_barsOf_0 rfl ?_
              refine E_iload_n at_X6_barsOf_1 rfl ?_
              have e4 : Ev ab_Z0 2 142 [.ref 65, .int (nI a1k)] (ww im lf s d k ls rf rz ra rn rq lt m1 m2 m3 m4 bd (fc.set 2 ((fc.getD 2 0) + (nI 1))) hd sz el s g fm hm so si sh ce ca td wa kp la bf oo bo pw ow tr) (some (.int (-2)), (ww im lf s d k ls rf rz ra rn rq lt m1 m2 m3 m4 bd (fc.set 2 ((fc.getD 2 0) + (nI 1))) hd sz el s g fm hm so si sh ce ca td wa kp la bf oo bo pw ow tr)) := by
                refine Ef.in (md := mX6_wanted) (L := [some (.ref 65), some (.int (nI a1k))]) rfl (Nat.le_of_ble_eq_true rfl) rfl ?_
                refine E_aload_n at_X6_wanted_0 rfl ?_
                refine E_iload_n at_X6_wanted_1 rfl ?_
                refine E_callV (v := some (.int (nI 1))) (As := [.ref 65, .int (nI a1k)]) (r0 := []) (cs2 := (ww im lf s d k ls rf rz ra rn rq lt m1 m2 m3 m4 bd (fc.set 2 ((fc.getD 2 0) + (nI 1))) hd sz el s g fm hm so si sh ce ca td wa kp la bf oo bo pw ow tr)) at_X6_wanted_2 rfl rfl (Nat.le_of_ble_eq_true rfl) rfl (ab_rvOf w65 rfl) (L40_X6_isShelf (by omega) (by omega) (by omega)) (by decide) rfl ?_
                refine E_if (t := 12) (b := true) at_X6_wanted_5 rfl (by decide) ?_
                refine E_aload_n at_X6_wanted_12 rfl ?_
                refine E_getfield (v := .ref 76) at_X6_wanted_13 w65 rfl (by decide) rfl ?_
                refine E_iload_n at_X6_wanted_16 rfl ?_
                refine E_ialN (l := hm) (v := hm.getD a1k 0) at_X6_wanted_17 w76 (by omega) (by omega) rfl ?_
                refine E_iconst (x := nI 2) at_X6_wanted_18 (by decide) ?_
                refine E_ic (t := 27) (b := false) at_X6_wanted_19 rfl ((cn_ne (nI_toInt (by omega)) (nI_toInt (by omega))).trans (decide_eq_false (by omega))) ?_
                refine E_bipush (x := (-2)) at_X6_wanted_22 (by decide) ?_
                refine E_goto (t := 42) at_X6_wanted_24 rfl ?_
                exact E_iret at_X6_wanted_42 rfl
              refine E_callV (v := some (.int (-2))) (As := [.ref 65, .int (nI a1k)]) (r0 := []) (cs2 := (ww im lf s d k ls rf rz ra rn rq lt m1 m2 m3 m4 bd (fc.set 2 ((fc.getD 2 0) + (nI 1))) hd sz el s g fm hm so si sh ce ca td wa kp la bf oo bo pw ow tr)) at_X6_barsOf_2 rfl rfl (Nat.le_of_ble_eq_true rfl) rfl (ab_rvOf w65 rfl) e4 (by decide) rfl ?_
              refine E_istore (L2 := [some (.ref 65), some (.int (nI a1k)), some (.int a2), some (.int (nI 40)), some (.int (nI 1)), some (.int (-2))]) at_X6_barsOf_5 rfl ?_
              refine E_iload at_X6_barsOf_7 rfl ?_
              refine E_if (t := 17) (b := false) at_X6_barsOf_9 rfl (by decide) ?_
              refine E_iload at_X6_barsOf_12 rfl ?_
              refine E_goto (t := 59) at_X6_barsOf_14 rfl ?_
              exact E_iret at_X6_barsOf_59 rfl
            refine E_callV (v := some (.int (-2))) (As := [.ref 65, .int (nI a1k), .int a2, .int (nI 40), .int (nI 1)]) (r0 := []) (cs2 := (ww im lf s d k ls rf rz ra rn rq lt m1 m2 m3 m4 bd (fc.set 2 ((fc.getD 2 0) + (nI 1))) hd sz el s g fm hm so si sh ce ca td wa kp la bf oo bo pw ow tr)) at_X6_rules_6 rfl rfl (Nat.le_of_ble_eq_true rfl) rfl (ab_rvOf w65 rfl) e5 (by decide) rfl ?_
            refine E_istore_n (L2 := [some (.ref 65), some (.int (nI a1k)), some (.int a2), some (.int (-2)), none, none, none, none]) at_X6_rules_9 rfl ?_
            refine E_iconst (x := nI 0) at_X6_rules_10 (by decide) ?_
            refine E_istore (L2 := [some (.ref 65), some (.int (nI a1k)), some (.int a2), some (.int (-2)), some (.int (nI 0)), none, none, none]) at_X6_rules_11 rfl ?_
            refine E_iload at_X6_rules_13 rfl ?_
            refine E_iload_n at_X6_rules_15 rfl ?_
            refine E_ic (t := 51) (b := true) at_X6_rules_16 rfl ((cn_ge (nI_toInt (by omega)) rfl).trans (decide_eq_true (by omega))) ?_
            refine E_iload_n at_X6_rules_51 rfl ?_
            refine E_if (t := 61) (b := false) at_X6_rules_52 rfl (by decide) ?_
            refine E_aload_n at_X6_rules_55 rfl ?_
            refine E_iload_n at_X6_rules_56 rfl ?_
            refine E_callV (v := some (.int (-2))) (As := [.ref 65, .int (-2)]) (r0 := []) (cs2 := (ww im lf s d k ls rf rz ra rn rq lt m1 m2 m3 m4 bd (fc.set 2 ((fc.getD 2 0) + (nI 1))) hd sz el s g (fm.set 2 ((fm.getD 2 0) + (nI 1))) hm so si sh ce ca td wa kp la bf oo bo pw ow tr)) at_X6_rules_57 rfl rfl (Nat.le_of_ble_eq_true rfl) rfl (ab_rvOf w65 rfl) (L56_X6_no (by omega)) (by decide) w_lens ?_
            exact E_iret at_X6_rules_60 rfl
          · exact ⟨I, rfl, hf, iQ, iM, iT, iS, l_el, (lr.1), (lr.2.1), (lr.2.2.1), (by simp only [List.length_set]; exact (lr.2.2.2.1)), (by simp only [List.length_set]; exact (lr.2.2.2.2.1)), (lr.2.2.2.2.2.1), (lr.2.2.2.2.2.2.1), (lr.2.2.2.2.2.2.2.1), (lr.2.2.2.2.2.2.2.2.1), (lr.2.2.2.2.2.2.2.2.2.1), (lr.2.2.2.2.2.2.2.2.2.2.1), (lr.2.2.2.2.2.2.2.2.2.2.2.1), (lr.2.2.2.2.2.2.2.2.2.2.2.2.1), (lr.2.2.2.2.2.2.2.2.2.2.2.2.2.1), (lr.2.2.2.2.2.2.2.2.2.2.2.2.2.2.1), (lr.2.2.2.2.2.2.2.2.2.2.2.2.2.2.2.1), (lr.2.2.2.2.2.2.2.2.2.2.2.2.2.2.2.2.1), (lr.2.2.2.2.2.2.2.2.2.2.2.2.2.2.2.2.2.1), (lr.2.2.2.2.2.2.2.2.2.2.2.2.2.2.2.2.2.2.1), (lr.2.2.2.2.2.2.2.2.2.2.2.2.2.2.2.2.2.2.2.1), (lr.2.2.2.2.2.2.2.2.2.2.2.2.2.2.2.2.2.2.2.2)⟩
      · rcases ab_int a2 with ⟨a2k, f3, rfl⟩ | f3
        · by_cases f4 : ((si.getD a1k 0) / 2) < a2k
          · refine ⟨(-5), (im, lf, s, d, k, ls, rf, rz, ra, rn, rq, lt, m1, m2, m3, m4, bd, (fc.set 5 ((fc.getD 5 0) + (nI 1))), hd, sz, el, s, g, fm, hm, so, si, sh, ce, ca, td, wa, kp, la, bf, oo, bo, pw, ow, tr), (im, lf, s, d, k, ls, rf, rz, ra, rn, rq, lt, m1, m2, m3, m4, bd, (fc.set 5 ((fc.getD 5 0) + (nI 1))), hd, sz, el, s, g, (fm.set 5 ((fm.getD 5 0) + (nI 1))), hm, so, si, sh, ce, ca, td, wa, kp, la, bf, oo, bo, pw, ow, tr), ?_, ?_, ?_⟩
            · show Ev ab_Z0 5 99 [.ref 0, .int (nI a1k), .int (nI a2k)] (ww im lf s d k ls rf rz ra rn rq lt m1 m2 m3 m4 bd fc hd sz el s g fm hm so si sh ce ca td wa kp la bf oo bo pw ow tr) (some (.int (-5)), (ww im lf s d k ls rf rz ra rn rq lt m1 m2 m3 m4 bd (fc.set 5 ((fc.getD 5 0) + (nI 1))) hd sz el s g fm hm so si sh ce ca td wa kp la bf oo bo pw ow tr))
              refine Ef.in (md := mX5_rules) (L := [some (.ref 0), some (.int (nI a1k)), some (.int (nI a2k)), none, none, none, none, none]) rfl (Nat.le_of_ble_eq_true rfl) rfl ?_
              refine E_aload_n at_X5_rules_0 rfl ?_
              refine E_iload_n at_X5_rules_1 rfl ?_
              refine E_iload_n at_X5_rules_2 rfl ?_
              refine E_bipush (x := nI 40) at_X5_rules_3 (by decide) ?_
              refine E_iconst (x := nI 0) at_X5_rules_5 (by decide) ?_
              have e4 : Ev ab_Z0 3 120 [.ref 0, .int (nI a1k), .int (nI a2k), .int (nI 40), .int (nI 0)] (ww im lf s d k ls rf rz ra rn rq lt m1 m2 m3 m4 bd fc hd sz el s g fm hm so si sh ce ca td wa kp la bf oo bo pw ow tr) (some (.int (nI 5)), (ww im lf s d k ls rf rz ra rn rq lt m1 m2 m3 m4 bd fc hd sz el s g fm hm so si sh ce ca td wa kp la bf oo bo pw ow tr)) := by
                refine Ef.in (md := mX5_whyNoTwos) (L := [some (.ref 0), some (.int (nI a1k)), some (.int (nI a2k)), some (.int (nI 40)), some (.int (nI 0)), none]) rfl (Nat.le_of_ble_eq_true rfl) rfl ?_
                refine E_aload_n at_X5_whyNoTwos_0 rfl ?_
                refine E_iload_n at_X5_whyNoTwos_1 rfl ?_
                have e3 : Ev ab_Z0 2 119 [.ref 0, .int (nI a1k)] (ww im lf s d k ls rf rz ra rn rq lt m1 m2 m3 m4 bd fc hd sz el s g fm hm so si sh ce ca td wa kp la bf oo bo pw ow tr) (some (.int (nI 0)), (ww im lf s d k ls rf rz ra rn rq lt m1 m2 m3 m4 bd fc hd sz el s g fm hm so si sh ce ca td wa kp la bf oo bo pw ow tr)) := by
                  refine Ef.in (md := mX5_whyNoRow) (L := [some (.ref 0), some (.int (nI a1k))]) rfl (Nat.le_of_ble_eq_true rfl) rfl ?_
                  refine E_iload_n at_X5_whyNoRow_0 rfl ?_
                  refine E_callS (v := some (.int (nI 1))) (As := [.int (nI a1k)]) (r0 := []) (cs2 := (ww im lf s d k ls rf rz ra rn rq lt m1 m2 m3 m4 bd fc hd sz el s g fm hm so si sh ce ca td wa kp la bf oo bo pw ow tr)) at_X5_whyNoRow_1 rfl rfl (Nat.le_of_ble_eq_true rfl) rfl (L39_X5_isShelf (by omega) (by omega) (by omega)) (by decide) rfl ?_
                  refine E_if (t := 9) (b := true) at_X5_whyNoRow_4 rfl (by decide) ?_
                  refine E_aload_n at_X5_whyNoRow_9 rfl ?_
                  refine E_getfield (v := .ref 31) at_X5_whyNoRow_10 w0 rfl (by decide) rfl ?_
                  refine E_iload_n at_X5_whyNoRow_13 rfl ?_
                  refine E_aalN (b := 49 + 2 * a1k) at_X5_whyNoRow_14 w31 (by omega) (w_shs (by omega)) ?_
                  have e1 : Ev ab_Z0 1 33 [.ref (49 + 2 * a1k)] (ww im lf s d k ls rf rz ra rn rq lt m1 m2 m3 m4 bd fc hd sz el s g fm hm so si sh ce ca td wa kp la bf oo bo pw ow tr) (some (.int (nI 0)), (ww im lf s d k ls rf rz ra rn rq lt m1 m2 m3 m4 bd fc hd sz el s g fm hm so si sh ce ca td wa kp la bf oo bo pw ow tr)) := by
                    refine Ef.in (md := mX3_isOtherThanRow) (L := [some (.ref (49 + 2 * a1k))]) rfl (Nat.le_of_ble_eq_true rfl) rfl ?_
                    refine E_aload_n at_X3_isOtherThanRow_0 rfl ?_
                    refine E_getfield (v := .int (nI (100 + so.getD a1k 0))) at_X3_isOtherThanRow_1 (w_shv (j := a1k) (by omega) u1 u2) rfl (by decide) rfl ?_
                    refine E_if (t := 20) (b := false) at_X3_isOtherThanRow_4 rfl ((cn_lt (nI_toInt (by omega)) (by decide : (0 : Int32).toInt = 0)).trans (decide_eq_false (by omega))) ?_
                    refine E_aload_n at_X3_isOtherThanRow_7 rfl ?_
                    refine E_getfield (v := .int (nI (100 + so.getD a1k 0))) at_X3_isOtherThanRow_8 (w_shv (j := a1k) (by omega) u1 u2) rfl (by decide) rfl ?_
                    refine E_bipush (x := nI 100) at_X3_isOtherThanRow_11 (by decide) ?_
                    refine E_ic (t := 20) (b := true) at_X3_isOtherThanRow_13 rfl ((cn_ge (nI_toInt (by omega)) (nI_toInt (by omega))).trans (decide_eq_true (by omega))) ?_
                    refine E_iconst (x := nI 0) at_X3_isOtherThanRow_20 (by decide) ?_
                    exact E_iret at_X3_isOtherThanRow_21 rfl
                  refine E_callV (v := some (.int (nI 0))) (As := [.ref (49 + 2 * a1k)]) (r0 := []) (cs2 := (ww im lf s d k ls rf rz ra rn rq lt m1 m2 m3 m4 bd fc hd sz el s g fm hm so si sh ce ca td wa kp la bf oo bo pw ow tr)) at_X5_whyNoRow_15 rfl rfl (Nat.le_of_ble_eq_true rfl) rfl (ab_rvOf (w_shv (j := a1k) (by omega) u1 u2) rfl) e1 (by decide) rfl ?_
                  refine E_if (t := 23) (b := true) at_X5_whyNoRow_18 rfl (by decide) ?_
                  refine E_aload_n at_X5_whyNoRow_23 rfl ?_
                  refine E_getfield (v := .ref 31) at_X5_whyNoRow_24 w0 rfl (by decide) rfl ?_
                  refine E_iload_n at_X5_whyNoRow_27 rfl ?_
                  refine E_aalN (b := 49 + 2 * a1k) at_X5_whyNoRow_28 w31 (by omega) (w_shs (by omega)) ?_
                  have e2 : Ev ab_Z0 1 32 [.ref (49 + 2 * a1k)] (ww im lf s d k ls rf rz ra rn rq lt m1 m2 m3 m4 bd fc hd sz el s g fm hm so si sh ce ca td wa kp la bf oo bo pw ow tr) (some (.int (nI 0)), (ww im lf s d k ls rf rz ra rn rq lt m1 m2 m3 m4 bd fc hd sz el s g fm hm so si sh ce ca td wa kp la bf oo bo pw ow tr)) := by
                    refine Ef.in (md := mX3_isEmpty) (L := [some (.ref (49 + 2 * a1k))]) rfl (Nat.le_of_ble_eq_true rfl) rfl ?_
                    refine E_aload_n at_X3_isEmpty_0 rfl ?_
                    refine E_getfield (v := .int (nI (100 + so.getD a1k 0))) at_X3_isEmpty_1 (w_shv (j := a1k) (by omega) u1 u2) rfl (by decide) rfl ?_
                    refine E_iconst (x := (-1)) at_X3_isEmpty_4 (by decide) ?_
                    refine E_ic (t := 12) (b := true) at_X3_isEmpty_5 rfl ((cn_ne (nI_toInt (by omega)) (by decide : (-1 : Int32).toInt = -1)).trans (decide_eq_true (by omega))) ?_
                    refine E_iconst (x := nI 0) at_X3_isEmpty_12 (by decide) ?_
                    exact E_iret at_X3_isEmpty_13 rfl
                  refine E_callV (v := some (.int (nI 0))) (As := [.ref (49 + 2 * a1k)]) (r0 := []) (cs2 := (ww im lf s d k ls rf rz ra rn rq lt m1 m2 m3 m4 bd fc hd sz el s g fm hm so si sh ce ca td wa kp la bf oo bo pw ow tr)) at_X5_whyNoRow_29 rfl rfl (Nat.le_of_ble_eq_true rfl) rfl (ab_rvOf (w_shv (j := a1k) (by omega) u1 u2) rfl) e2 (by decide) rfl ?_
                  refine E_if (t := 39) (b := true) at_X5_whyNoRow_32 rfl (by decide) ?_
                  refine E_iconst (x := nI 0) at_X5_whyNoRow_39 (by decide) ?_
                  exact E_iret at_X5_whyNoRow_40 rfl
                refine E_callV (v := some (.int (nI 0))) (As := [.ref 0, .int (nI a1k)]) (r0 := []) (cs2 := (ww im lf s d k ls rf rz ra rn rq lt m1 m2 m3 m4 bd fc hd sz el s g fm hm so si sh ce ca td wa kp la bf oo bo pw ow tr)) at_X5_whyNoTwos_2 rfl rfl (Nat.le_of_ble_eq_true rfl) rfl (ab_rvOf w0 rfl) e3 (by decide) rfl ?_
                refine E_istore (L2 := [some (.ref 0), some (.int (nI a1k)), some (.int (nI a2k)), some (.int (nI 40)), some (.int (nI 0)), some (.int (nI 0))]) at_X5_whyNoTwos_5 rfl ?_
                refine E_iload at_X5_whyNoTwos_7 rfl ?_
                refine E_if (t := 15) (b := true) at_X5_whyNoTwos_9 rfl (by decide) ?_
                refine E_iload_n at_X5_whyNoTwos_15 rfl ?_
                refine E_if (t := 21) (b := true) at_X5_whyNoTwos_16 rfl ((cn_ge (nI_toInt (by omega)) (by decide : (0 : Int32).toInt = 0)).trans (decide_eq_true (by omega))) ?_
                refine E_iload at_X5_whyNoTwos_21 rfl ?_
                refine E_if (t := 41) (b := false) at_X5_whyNoTwos_23 rfl (by decide) ?_
                refine E_iload_n at_X5_whyNoTwos_26 rfl ?_
                refine E_aload_n at_X5_whyNoTwos_27 rfl ?_
                refine E_getfield (v := .ref 31) at_X5_whyNoTwos_28 w0 rfl (by decide) rfl ?_
                refine E_iload_n at_X5_whyNoTwos_31 rfl ?_
                refine E_aalN (b := 49 + 2 * a1k) at_X5_whyNoTwos_32 w31 (by omega) (w_shs (by omega)) ?_
                refine E_getfield (v := .int (nI (si.getD a1k 0))) at_X5_whyNoTwos_33 (w_shv (j := a1k) (by omega) u1 u2) rfl (by decide) rfl ?_
                refine E_iconst (x := nI 2) at_X5_whyNoTwos_36 (by decide) ?_
                refine E_idiv (z := nI ((si.getD a1k 0) / 2)) at_X5_whyNoTwos_37 (by decide) (pk_div (by omega) (by omega) (by omega)) ?_
                refine E_ic (t := 43) (b := false) at_X5_whyNoTwos_38 rfl ((cn_le (nI_toInt (by omega)) (nI_toInt (by omega))).trans (decide_eq_false (by omega))) ?_
                refine E_iconst (x := nI 5) at_X5_whyNoTwos_41 (by decide) ?_
                exact E_iret at_X5_whyNoTwos_42 rfl
              refine E_callV (v := some (.int (nI 5))) (As := [.ref 0, .int (nI a1k), .int (nI a2k), .int (nI 40), .int (nI 0)]) (r0 := []) (cs2 := (ww im lf s d k ls rf rz ra rn rq lt m1 m2 m3 m4 bd fc hd sz el s g fm hm so si sh ce ca td wa kp la bf oo bo pw ow tr)) at_X5_rules_6 rfl rfl (Nat.le_of_ble_eq_true rfl) rfl (ab_rvOf w0 rfl) e4 (by decide) rfl ?_
              refine E_istore_n (L2 := [some (.ref 0), some (.int (nI a1k)), some (.int (nI a2k)), some (.int (nI 5)), none, none, none, none]) at_X5_rules_9 rfl ?_
              refine E_iload_n at_X5_rules_10 rfl ?_
              refine E_if (t := 20) (b := false) at_X5_rules_11 rfl (by decide) ?_
              refine E_aload_n at_X5_rules_14 rfl ?_
              refine E_iload_n at_X5_rules_15 rfl ?_
              refine E_callV (v := some (.int (-5))) (As := [.ref 0, .int (nI 5)]) (r0 := []) (cs2 := (ww im lf s d k ls rf rz ra rn rq lt m1 m2 m3 m4 bd (fc.set 5 ((fc.getD 5 0) + (nI 1))) hd sz el s g fm hm so si sh ce ca td wa kp la bf oo bo pw ow tr)) at_X5_rules_16 rfl rfl (Nat.le_of_ble_eq_true rfl) rfl (ab_rvOf w0 rfl) (L18_X5_refuse (by omega)) (by decide) w_lens ?_
              exact E_iret at_X5_rules_19 rfl
            · show Ev ab_Z0 4 187 [.ref 65, .int (nI a1k), .int (nI a2k)] (ww im lf s d k ls rf rz ra rn rq lt m1 m2 m3 m4 bd (fc.set 5 ((fc.getD 5 0) + (nI 1))) hd sz el s g fm hm so si sh ce ca td wa kp la bf oo bo pw ow tr) (some (.int (-5)), (ww im lf s d k ls rf rz ra rn rq lt m1 m2 m3 m4 bd (fc.set 5 ((fc.getD 5 0) + (nI 1))) hd sz el s g (fm.set 5 ((fm.getD 5 0) + (nI 1))) hm so si sh ce ca td wa kp la bf oo bo pw ow tr))
              refine Ef.in (md := mX6_rules) (L := [some (.ref 65), some (.int (nI a1k)), some (.int (nI a2k)), none, none, none, none, none]) rfl (Nat.le_of_ble_eq_true rfl) rfl ?_
              refine E_aload_n at_X6_rules_0 rfl ?_
              refine E_iload_n at_X6_rules_1 rfl ?_
              refine E_iload_n at_X6_rules_2 rfl ?_
              refine E_bipush (x := nI 40) at_X6_rules_3 (by decide) ?_
              refine E_iconst (x := nI 1) at_X6_rules_5 (by decide) ?_
              have e6 : Ev ab_Z0 3 186 [.ref 65, .int (nI a1k), .int (nI a2k), .int (nI 40), .int (nI 1)] (ww im lf s d k ls rf rz ra rn rq lt m1 m2 m3 m4 bd (fc.set 5 ((fc.getD 5 0) + (nI 1))) hd sz el s g fm hm so si sh ce ca td wa kp la bf oo bo pw ow tr) (some (.int (-5)), (ww im lf s d k ls rf rz ra rn rq lt m1 m2 m3 m4 bd (fc.set 5 ((fc.getD 5 0) + (nI 1))) hd sz el s g fm hm so si sh ce ca td wa kp la bf oo bo pw ow tr)) := by
                refine Ef.in (md := mX6_barsOf) (L := [some (.ref 65), some (.int (nI a1k)), some (.int (nI a2k)), some (.int (nI 40)), some (.int (nI 1)), none]) rfl (Nat.le_of_ble_eq_true rfl) rfl ?_
                refine E_aload_n at_X6_barsOf_0 rfl ?_
                refine E_iload_n at_X6_barsOf_1 rfl ?_
                have e5 : Ev ab_Z0 2 142 [.ref 65, .int (nI a1k)] (ww im lf s d k ls rf rz ra rn rq lt m1 m2 m3 m4 bd (fc.set 5 ((fc.getD 5 0) + (nI 1))) hd sz el s g fm hm so si sh ce ca td wa kp la bf oo bo pw ow tr) (some (.int (nI 0)), (ww im lf s d k ls rf rz ra rn rq lt m1 m2 m3 m4 bd (fc.set 5 ((fc.getD 5 0) + (nI 1))) hd sz el s g fm hm so si sh ce ca td wa kp la bf oo bo pw ow tr)) := by
                  refine Ef.in (md := mX6_wanted) (L := [some (.ref 65), some (.int (nI a1k))]) rfl (Nat.le_of_ble_eq_true rfl) rfl ?_
                  refine E_aload_n at_X6_wanted_0 rfl ?_
                  refine E_iload_n at_X6_wanted_1 rfl ?_
                  refine E_callV (v := some (.int (nI 1))) (As := [.ref 65, .int (nI a1k)]) (r0 := []) (cs2 := (ww im lf s d k ls rf rz ra rn rq lt m1 m2 m3 m4 bd (fc.set 5 ((fc.getD 5 0) + (nI 1))) hd sz el s g fm hm so si sh ce ca td wa kp la bf oo bo pw ow tr)) at_X6_wanted_2 rfl rfl (Nat.le_of_ble_eq_true rfl) rfl (ab_rvOf w65 rfl) (L40_X6_isShelf (by omega) (by omega) (by omega)) (by decide) rfl ?_
                  refine E_if (t := 12) (b := true) at_X6_wanted_5 rfl (by decide) ?_
                  refine E_aload_n at_X6_wanted_12 rfl ?_
                  refine E_getfield (v := .ref 76) at_X6_wanted_13 w65 rfl (by decide) rfl ?_
                  refine E_iload_n at_X6_wanted_16 rfl ?_
                  refine E_ialN (l := hm) (v := hm.getD a1k 0) at_X6_wanted_17 w76 (by omega) (by omega) rfl ?_
                  refine E_iconst (x := nI 2) at_X6_wanted_18 (by decide) ?_
                  refine E_ic (t := 27) (b := true) at_X6_wanted_19 rfl ((cn_ne (nI_toInt (by omega)) (nI_toInt (by omega))).trans (decide_eq_true (by omega))) ?_
                  refine E_aload_n at_X6_wanted_27 rfl ?_
                  refine E_getfield (v := .ref 76) at_X6_wanted_28 w65 rfl (by decide) rfl ?_
                  refine E_iload_n at_X6_wanted_31 rfl ?_
                  refine E_ialN (l := hm) (v := hm.getD a1k 0) at_X6_wanted_32 w76 (by omega) (by omega) rfl ?_
                  refine E_if (t := 41) (b := true) at_X6_wanted_33 rfl ((cn_ne (nI_toInt (by omega)) (by decide : (0 : Int32).toInt = 0)).trans (decide_eq_true (by omega))) ?_
                  refine E_iconst (x := nI 0) at_X6_wanted_41 (by decide) ?_
                  exact E_iret at_X6_wanted_42 rfl
                refine E_callV (v := some (.int (nI 0))) (As := [.ref 65, .int (nI a1k)]) (r0 := []) (cs2 := (ww im lf s d k ls rf rz ra rn rq lt m1 m2 m3 m4 bd (fc.set 5 ((fc.getD 5 0) + (nI 1))) hd sz el s g fm hm so si sh ce ca td wa kp la bf oo bo pw ow tr)) at_X6_barsOf_2 rfl rfl (Nat.le_of_ble_eq_true rfl) rfl (ab_rvOf w65 rfl) e5 (by decide) rfl ?_
                refine E_istore (L2 := [some (.ref 65), some (.int (nI a1k)), some (.int (nI a2k)), some (.int (nI 40)), some (.int (nI 1)), some (.int (nI 0))]) at_X6_barsOf_5 rfl ?_
                refine E_iload at_X6_barsOf_7 rfl ?_
                refine E_if (t := 17) (b := true) at_X6_barsOf_9 rfl (by decide) ?_
                refine E_iload_n at_X6_barsOf_17 rfl ?_
                refine E_if (t := 26) (b := true) at_X6_barsOf_18 rfl ((cn_ge (nI_toInt (by omega)) (by decide : (0 : Int32).toInt = 0)).trans (decide_eq_true (by omega))) ?_
                refine E_iload_n at_X6_barsOf_26 rfl ?_
                refine E_aload_n at_X6_barsOf_27 rfl ?_
                refine E_getfield (v := .ref 78) at_X6_barsOf_28 w65 rfl (by decide) rfl ?_
                refine E_iload_n at_X6_barsOf_31 rfl ?_
                refine E_ialN (l := si) (v := si.getD a1k 0) at_X6_barsOf_32 w78 (by omega) (by omega) rfl ?_
                refine E_iconst (x := nI 2) at_X6_barsOf_33 (by decide) ?_
                refine E_idiv (z := nI ((si.getD a1k 0) / 2)) at_X6_barsOf_34 (by decide) (pk_div (by omega) (by omega) (by omega)) ?_
                refine E_ic (t := 43) (b := true) at_X6_barsOf_35 rfl ((cn_gt (nI_toInt (by omega)) (nI_toInt (by omega))).trans (decide_eq_true (by omega))) ?_
                refine E_bipush (x := (-5)) at_X6_barsOf_43 (by decide) ?_
                refine E_goto (t := 59) at_X6_barsOf_45 rfl ?_
                exact E_iret at_X6_barsOf_59 rfl
              refine E_callV (v := some (.int (-5))) (As := [.ref 65, .int (nI a1k), .int (nI a2k), .int (nI 40), .int (nI 1)]) (r0 := []) (cs2 := (ww im lf s d k ls rf rz ra rn rq lt m1 m2 m3 m4 bd (fc.set 5 ((fc.getD 5 0) + (nI 1))) hd sz el s g fm hm so si sh ce ca td wa kp la bf oo bo pw ow tr)) at_X6_rules_6 rfl rfl (Nat.le_of_ble_eq_true rfl) rfl (ab_rvOf w65 rfl) e6 (by decide) rfl ?_
              refine E_istore_n (L2 := [some (.ref 65), some (.int (nI a1k)), some (.int (nI a2k)), some (.int (-5)), none, none, none, none]) at_X6_rules_9 rfl ?_
              refine E_iconst (x := nI 0) at_X6_rules_10 (by decide) ?_
              refine E_istore (L2 := [some (.ref 65), some (.int (nI a1k)), some (.int (nI a2k)), some (.int (-5)), some (.int (nI 0)), none, none, none]) at_X6_rules_11 rfl ?_
              refine E_iload at_X6_rules_13 rfl ?_
              refine E_iload_n at_X6_rules_15 rfl ?_
              refine E_ic (t := 51) (b := false) at_X6_rules_16 rfl ((cn_ge (nI_toInt (by omega)) (nI_toInt (by omega))).trans (decide_eq_false (by omega))) ?_
              refine E_iload_n at_X6_rules_19 rfl ?_
              refine E_if (t := 51) (b := true) at_X6_rules_20 rfl (by decide) ?_
              refine E_iload_n at_X6_rules_51 rfl ?_
              refine E_if (t := 61) (b := false) at_X6_rules_52 rfl (by decide) ?_
              refine E_aload_n at_X6_rules_55 rfl ?_
              refine E_iload_n at_X6_rules_56 rfl ?_
              refine E_callV (v := some (.int (-5))) (As := [.ref 65, .int (-5)]) (r0 := []) (cs2 := (ww im lf s d k ls rf rz ra rn rq lt m1 m2 m3 m4 bd (fc.set 5 ((fc.getD 5 0) + (nI 1))) hd sz el s g (fm.set 5 ((fm.getD 5 0) + (nI 1))) hm so si sh ce ca td wa kp la bf oo bo pw ow tr)) at_X6_rules_57 rfl rfl (Nat.le_of_ble_eq_true rfl) rfl (ab_rvOf w65 rfl) (L19_X6_no (by omega)) (by decide) w_lens ?_
              exact E_iret at_X6_rules_60 rfl
            · exact ⟨I, rfl, hf, iQ, iM, iT, iS, l_el, (lr.1), (lr.2.1), (lr.2.2.1), (by simp only [List.length_set]; exact (lr.2.2.2.1)), (by simp only [List.length_set]; exact (lr.2.2.2.2.1)), (lr.2.2.2.2.2.1), (lr.2.2.2.2.2.2.1), (lr.2.2.2.2.2.2.2.1), (lr.2.2.2.2.2.2.2.2.1), (lr.2.2.2.2.2.2.2.2.2.1), (lr.2.2.2.2.2.2.2.2.2.2.1), (lr.2.2.2.2.2.2.2.2.2.2.2.1), (lr.2.2.2.2.2.2.2.2.2.2.2.2.1), (lr.2.2.2.2.2.2.2.2.2.2.2.2.2.1), (lr.2.2.2.2.2.2.2.2.2.2.2.2.2.2.1), (lr.2.2.2.2.2.2.2.2.2.2.2.2.2.2.2.1), (lr.2.2.2.2.2.2.2.2.2.2.2.2.2.2.2.2.1), (lr.2.2.2.2.2.2.2.2.2.2.2.2.2.2.2.2.2.1), (lr.2.2.2.2.2.2.2.2.2.2.2.2.2.2.2.2.2.2.1), (lr.2.2.2.2.2.2.2.2.2.2.2.2.2.2.2.2.2.2.2.1), (lr.2.2.2.2.2.2.2.2.2.2.2.2.2.2.2.2.2.2.2.2)⟩
          · by_cases f5 : 40 < a2k
            · refine ⟨(-6), (im, lf, s, d, k, ls, rf, rz, ra, rn, rq, lt, m1, m2, m3, m4, bd, (fc.set 6 ((fc.getD 6 0) + (nI 1))), hd, sz, el, s, g, fm, hm, so, si, sh, ce, ca, td, wa, kp, la, bf, oo, bo, pw, ow, tr), (im, lf, s, d, k, ls, rf, rz, ra, rn, rq, lt, m1, m2, m3, m4, bd, (fc.set 6 ((fc.getD 6 0) + (nI 1))), hd, sz, el, s, g, (fm.set 6 ((fm.getD 6 0) + (nI 1))), hm, so, si, sh, ce, ca, td, wa, kp, la, bf, oo, bo, pw, ow, tr), ?_, ?_, ?_⟩
              · show Ev ab_Z0 5 99 [.ref 0, .int (nI a1k), .int (nI a2k)] (ww im lf s d k ls rf rz ra rn rq lt m1 m2 m3 m4 bd fc hd sz el s g fm hm so si sh ce ca td wa kp la bf oo bo pw ow tr) (some (.int (-6)), (ww im lf s d k ls rf rz ra rn rq lt m1 m2 m3 m4 bd (fc.set 6 ((fc.getD 6 0) + (nI 1))) hd sz el s g fm hm so si sh ce ca td wa kp la bf oo bo pw ow tr))
                refine Ef.in (md := mX5_rules) (L := [some (.ref 0), some (.int (nI a1k)), some (.int (nI a2k)), none, none, none, none, none]) rfl (Nat.le_of_ble_eq_true rfl) rfl ?_
                refine E_aload_n at_X5_rules_0 rfl ?_
                refine E_iload_n at_X5_rules_1 rfl ?_
                refine E_iload_n at_X5_rules_2 rfl ?_
                refine E_bipush (x := nI 40) at_X5_rules_3 (by decide) ?_
                refine E_iconst (x := nI 0) at_X5_rules_5 (by decide) ?_
                have e4 : Ev ab_Z0 3 120 [.ref 0, .int (nI a1k), .int (nI a2k), .int (nI 40), .int (nI 0)] (ww im lf s d k ls rf rz ra rn rq lt m1 m2 m3 m4 bd fc hd sz el s g fm hm so si sh ce ca td wa kp la bf oo bo pw ow tr) (some (.int (nI 6)), (ww im lf s d k ls rf rz ra rn rq lt m1 m2 m3 m4 bd fc hd sz el s g fm hm so si sh ce ca td wa kp la bf oo bo pw ow tr)) := by
                  refine Ef.in (md := mX5_whyNoTwos) (L := [some (.ref 0), some (.int (nI a1k)), some (.int (nI a2k)), some (.int (nI 40)), some (.int (nI 0)), none]) rfl (Nat.le_of_ble_eq_true rfl) rfl ?_
                  refine E_aload_n at_X5_whyNoTwos_0 rfl ?_
                  refine E_iload_n at_X5_whyNoTwos_1 rfl ?_
                  have e3 : Ev ab_Z0 2 119 [.ref 0, .int (nI a1k)] (ww im lf s d k ls rf rz ra rn rq lt m1 m2 m3 m4 bd fc hd sz el s g fm hm so si sh ce ca td wa kp la bf oo bo pw ow tr) (some (.int (nI 0)), (ww im lf s d k ls rf rz ra rn rq lt m1 m2 m3 m4 bd fc hd sz el s g fm hm so si sh ce ca td wa kp la bf oo bo pw ow tr)) := by
                    refine Ef.in (md := mX5_whyNoRow) (L := [some (.ref 0), some (.int (nI a1k))]) rfl (Nat.le_of_ble_eq_true rfl) rfl ?_
                    refine E_iload_n at_X5_whyNoRow_0 rfl ?_
                    refine E_callS (v := some (.int (nI 1))) (As := [.int (nI a1k)]) (r0 := []) (cs2 := (ww im lf s d k ls rf rz ra rn rq lt m1 m2 m3 m4 bd fc hd sz el s g fm hm so si sh ce ca td wa kp la bf oo bo pw ow tr)) at_X5_whyNoRow_1 rfl rfl (Nat.le_of_ble_eq_true rfl) rfl (L39_X5_isShelf (by omega) (by omega) (by omega)) (by decide) rfl ?_
                    refine E_if (t := 9) (b := true) at_X5_whyNoRow_4 rfl (by decide) ?_
                    refine E_aload_n at_X5_whyNoRow_9 rfl ?_
                    refine E_getfield (v := .ref 31) at_X5_whyNoRow_10 w0 rfl (by decide) rfl ?_
                    refine E_iload_n at_X5_whyNoRow_13 rfl ?_
                    refine E_aalN (b := 49 + 2 * a1k) at_X5_whyNoRow_14 w31 (by omega) (w_shs (by omega)) ?_
                    have e1 : Ev ab_Z0 1 33 [.ref (49 + 2 * a1k)] (ww im lf s d k ls rf rz ra rn rq lt m1 m2 m3 m4 bd fc hd sz el s g fm hm so si sh ce ca td wa kp la bf oo bo pw ow tr) (some (.int (nI 0)), (ww im lf s d k ls rf rz ra rn rq lt m1 m2 m3 m4 bd fc hd sz el s g fm hm so si sh ce ca td wa kp la bf oo bo pw ow tr)) := by
                      refine Ef.in (md := mX3_isOtherThanRow) (L := [some (.ref (49 + 2 * a1k))]) rfl (Nat.le_of_ble_eq_true rfl) rfl ?_
                      refine E_aload_n at_X3_isOtherThanRow_0 rfl ?_
                      refine E_getfield (v := .int (nI (100 + so.getD a1k 0))) at_X3_isOtherThanRow_1 (w_shv (j := a1k) (by omega) u1 u2) rfl (by decide) rfl ?_
                      refine E_if (t := 20) (b := false) at_X3_isOtherThanRow_4 rfl ((cn_lt (nI_toInt (by omega)) (by decide : (0 : Int32).toInt = 0)).trans (decide_eq_false (by omega))) ?_
                      refine E_aload_n at_X3_isOtherThanRow_7 rfl ?_
                      refine E_getfield (v := .int (nI (100 + so.getD a1k 0))) at_X3_isOtherThanRow_8 (w_shv (j := a1k) (by omega) u1 u2) rfl (by decide) rfl ?_
                      refine E_bipush (x := nI 100) at_X3_isOtherThanRow_11 (by decide) ?_
                      refine E_ic (t := 20) (b := true) at_X3_isOtherThanRow_13 rfl ((cn_ge (nI_toInt (by omega)) (nI_toInt (by omega))).trans (decide_eq_true (by omega))) ?_
                      refine E_iconst (x := nI 0) at_X3_isOtherThanRow_20 (by decide) ?_
                      exact E_iret at_X3_isOtherThanRow_21 rfl
                    refine E_callV (v := some (.int (nI 0))) (As := [.ref (49 + 2 * a1k)]) (r0 := []) (cs2 := (ww im lf s d k ls rf rz ra rn rq lt m1 m2 m3 m4 bd fc hd sz el s g fm hm so si sh ce ca td wa kp la bf oo bo pw ow tr)) at_X5_whyNoRow_15 rfl rfl (Nat.le_of_ble_eq_true rfl) rfl (ab_rvOf (w_shv (j := a1k) (by omega) u1 u2) rfl) e1 (by decide) rfl ?_
                    refine E_if (t := 23) (b := true) at_X5_whyNoRow_18 rfl (by decide) ?_
                    refine E_aload_n at_X5_whyNoRow_23 rfl ?_
                    refine E_getfield (v := .ref 31) at_X5_whyNoRow_24 w0 rfl (by decide) rfl ?_
                    refine E_iload_n at_X5_whyNoRow_27 rfl ?_
                    refine E_aalN (b := 49 + 2 * a1k) at_X5_whyNoRow_28 w31 (by omega) (w_shs (by omega)) ?_
                    have e2 : Ev ab_Z0 1 32 [.ref (49 + 2 * a1k)] (ww im lf s d k ls rf rz ra rn rq lt m1 m2 m3 m4 bd fc hd sz el s g fm hm so si sh ce ca td wa kp la bf oo bo pw ow tr) (some (.int (nI 0)), (ww im lf s d k ls rf rz ra rn rq lt m1 m2 m3 m4 bd fc hd sz el s g fm hm so si sh ce ca td wa kp la bf oo bo pw ow tr)) := by
                      refine Ef.in (md := mX3_isEmpty) (L := [some (.ref (49 + 2 * a1k))]) rfl (Nat.le_of_ble_eq_true rfl) rfl ?_
                      refine E_aload_n at_X3_isEmpty_0 rfl ?_
                      refine E_getfield (v := .int (nI (100 + so.getD a1k 0))) at_X3_isEmpty_1 (w_shv (j := a1k) (by omega) u1 u2) rfl (by decide) rfl ?_
                      refine E_iconst (x := (-1)) at_X3_isEmpty_4 (by decide) ?_
                      refine E_ic (t := 12) (b := true) at_X3_isEmpty_5 rfl ((cn_ne (nI_toInt (by omega)) (by decide : (-1 : Int32).toInt = -1)).trans (decide_eq_true (by omega))) ?_
                      refine E_iconst (x := nI 0) at_X3_isEmpty_12 (by decide) ?_
                      exact E_iret at_X3_isEmpty_13 rfl
                    refine E_callV (v := some (.int (nI 0))) (As := [.ref (49 + 2 * a1k)]) (r0 := []) (cs2 := (ww im lf s d k ls rf rz ra rn rq lt m1 m2 m3 m4 bd fc hd sz el s g fm hm so si sh ce ca td wa kp la bf oo bo pw ow tr)) at_X5_whyNoRow_29 rfl rfl (Nat.le_of_ble_eq_true rfl) rfl (ab_rvOf (w_shv (j := a1k) (by omega) u1 u2) rfl) e2 (by decide) rfl ?_
                    refine E_if (t := 39) (b := true) at_X5_whyNoRow_32 rfl (by decide) ?_
                    refine E_iconst (x := nI 0) at_X5_whyNoRow_39 (by decide) ?_
                    exact E_iret at_X5_whyNoRow_40 rfl
                  refine E_callV (v := some (.int (nI 0))) (As := [.ref 0, .int (nI a1k)]) (r0 := []) (cs2 := (ww im lf s d k ls rf rz ra rn rq lt m1 m2 m3 m4 bd fc hd sz el s g fm hm so si sh ce ca td wa kp la bf oo bo pw ow tr)) at_X5_whyNoTwos_2 rfl rfl (Nat.le_of_ble_eq_true rfl) rfl (ab_rvOf w0 rfl) e3 (by decide) rfl ?_
                  refine E_istore (L2 := [some (.ref 0), some (.int (nI a1k)), some (.int (nI a2k)), some (.int (nI 40)), some (.int (nI 0)), some (.int (nI 0))]) at_X5_whyNoTwos_5 rfl ?_
                  refine E_iload at_X5_whyNoTwos_7 rfl ?_
                  refine E_if (t := 15) (b := true) at_X5_whyNoTwos_9 rfl (by decide) ?_
                  refine E_iload_n at_X5_whyNoTwos_15 rfl ?_
                  refine E_if (t := 21) (b := true) at_X5_whyNoTwos_16 rfl ((cn_ge (nI_toInt (by omega)) (by decide : (0 : Int32).toInt = 0)).trans (decide_eq_true (by omega))) ?_
                  refine E_iload at_X5_whyNoTwos_21 rfl ?_
                  refine E_if (t := 41) (b := false) at_X5_whyNoTwos_23 rfl (by decide) ?_
                  refine E_iload_n at_X5_whyNoTwos_26 rfl ?_
                  refine E_aload_n at_X5_whyNoTwos_27 rfl ?_
                  refine E_getfield (v := .ref 31) at_X5_whyNoTwos_28 w0 rfl (by decide) rfl ?_
                  refine E_iload_n at_X5_whyNoTwos_31 rfl ?_
                  refine E_aalN (b := 49 + 2 * a1k) at_X5_whyNoTwos_32 w31 (by omega) (w_shs (by omega)) ?_
                  refine E_getfield (v := .int (nI (si.getD a1k 0))) at_X5_whyNoTwos_33 (w_shv (j := a1k) (by omega) u1 u2) rfl (by decide) rfl ?_
                  refine E_iconst (x := nI 2) at_X5_whyNoTwos_36 (by decide) ?_
                  refine E_idiv (z := nI ((si.getD a1k 0) / 2)) at_X5_whyNoTwos_37 (by decide) (pk_div (by omega) (by omega) (by omega)) ?_
                  refine E_ic (t := 43) (b := true) at_X5_whyNoTwos_38 rfl ((cn_le (nI_toInt (by omega)) (nI_toInt (by omega))).trans (decide_eq_true (by omega))) ?_
                  refine E_iload_n at_X5_whyNoTwos_43 rfl ?_
                  refine E_iload_n at_X5_whyNoTwos_44 rfl ?_
                  refine E_ic (t := 53) (b := false) at_X5_whyNoTwos_45 rfl ((cn_le (nI_toInt (by omega)) (nI_toInt (by omega))).trans (decide_eq_false (by omega))) ?_
                  refine E_bipush (x := nI 6) at_X5_whyNoTwos_48 (by decide) ?_
                  refine E_goto (t := 54) at_X5_whyNoTwos_50 rfl ?_
                  exact E_iret at_X5_whyNoTwos_54 rfl
                refine E_callV (v := some (.int (nI 6))) (As := [.ref 0, .int (nI a1k), .int (nI a2k), .int (nI 40), .int (nI 0)]) (r0 := []) (cs2 := (ww im lf s d k ls rf rz ra rn rq lt m1 m2 m3 m4 bd fc hd sz el s g fm hm so si sh ce ca td wa kp la bf oo bo pw ow tr)) at_X5_rules_6 rfl rfl (Nat.le_of_ble_eq_true rfl) rfl (ab_rvOf w0 rfl) e4 (by decide) rfl ?_
                refine E_istore_n (L2 := [some (.ref 0), some (.int (nI a1k)), some (.int (nI a2k)), some (.int (nI 6)), none, none, none, none]) at_X5_rules_9 rfl ?_
                refine E_iload_n at_X5_rules_10 rfl ?_
                refine E_if (t := 20) (b := false) at_X5_rules_11 rfl (by decide) ?_
                refine E_aload_n at_X5_rules_14 rfl ?_
                refine E_iload_n at_X5_rules_15 rfl ?_
                refine E_callV (v := some (.int (-6))) (As := [.ref 0, .int (nI 6)]) (r0 := []) (cs2 := (ww im lf s d k ls rf rz ra rn rq lt m1 m2 m3 m4 bd (fc.set 6 ((fc.getD 6 0) + (nI 1))) hd sz el s g fm hm so si sh ce ca td wa kp la bf oo bo pw ow tr)) at_X5_rules_16 rfl rfl (Nat.le_of_ble_eq_true rfl) rfl (ab_rvOf w0 rfl) (L26_X5_refuse (by omega)) (by decide) w_lens ?_
                exact E_iret at_X5_rules_19 rfl
              · show Ev ab_Z0 4 187 [.ref 65, .int (nI a1k), .int (nI a2k)] (ww im lf s d k ls rf rz ra rn rq lt m1 m2 m3 m4 bd (fc.set 6 ((fc.getD 6 0) + (nI 1))) hd sz el s g fm hm so si sh ce ca td wa kp la bf oo bo pw ow tr) (some (.int (-6)), (ww im lf s d k ls rf rz ra rn rq lt m1 m2 m3 m4 bd (fc.set 6 ((fc.getD 6 0) + (nI 1))) hd sz el s g (fm.set 6 ((fm.getD 6 0) + (nI 1))) hm so si sh ce ca td wa kp la bf oo bo pw ow tr))
                refine Ef.in (md := mX6_rules) (L := [some (.ref 65), some (.int (nI a1k)), some (.int (nI a2k)), none, none, none, none, none]) rfl (Nat.le_of_ble_eq_true rfl) rfl ?_
                refine E_aload_n at_X6_rules_0 rfl ?_
                refine E_iload_n at_X6_rules_1 rfl ?_
                refine E_iload_n at_X6_rules_2 rfl ?_
                refine E_bipush (x := nI 40) at_X6_rules_3 (by decide) ?_
                refine E_iconst (x := nI 1) at_X6_rules_5 (by decide) ?_
                have e6 : Ev ab_Z0 3 186 [.ref 65, .int (nI a1k), .int (nI a2k), .int (nI 40), .int (nI 1)] (ww im lf s d k ls rf rz ra rn rq lt m1 m2 m3 m4 bd (fc.set 6 ((fc.getD 6 0) + (nI 1))) hd sz el s g fm hm so si sh ce ca td wa kp la bf oo bo pw ow tr) (some (.int (-6)), (ww im lf s d k ls rf rz ra rn rq lt m1 m2 m3 m4 bd (fc.set 6 ((fc.getD 6 0) + (nI 1))) hd sz el s g fm hm so si sh ce ca td wa kp la bf oo bo pw ow tr)) := by
                  refine Ef.in (md := mX6_barsOf) (L := [some (.ref 65), some (.int (nI a1k)), some (.int (nI a2k)), some (.int (nI 40)), some (.int (nI 1)), none]) rfl (Nat.le_of_ble_eq_true rfl) rfl ?_
                  refine E_aload_n at_X6_barsOf_0 rfl ?_
                  refine E_iload_n at_X6_barsOf_1 rfl ?_
                  have e5 : Ev ab_Z0 2 142 [.ref 65, .int (nI a1k)] (ww im lf s d k ls rf rz ra rn rq lt m1 m2 m3 m4 bd (fc.set 6 ((fc.getD 6 0) + (nI 1))) hd sz el s g fm hm so si sh ce ca td wa kp la bf oo bo pw ow tr) (some (.int (nI 0)), (ww im lf s d k ls rf rz ra rn rq lt m1 m2 m3 m4 bd (fc.set 6 ((fc.getD 6 0) + (nI 1))) hd sz el s g fm hm so si sh ce ca td wa kp la bf oo bo pw ow tr)) := by
                    refine Ef.in (md := mX6_wanted) (L := [some (.ref 65), some (.int (nI a1k))]) rfl (Nat.le_of_ble_eq_true rfl) rfl ?_
                    refine E_aload_n at_X6_wanted_0 rfl ?_
                    refine E_iload_n at_X6_wanted_1 rfl ?_
                    refine E_callV (v := some (.int (nI 1))) (As := [.ref 65, .int (nI a1k)]) (r0 := []) (cs2 := (ww im lf s d k ls rf rz ra rn rq lt m1 m2 m3 m4 bd (fc.set 6 ((fc.getD 6 0) + (nI 1))) hd sz el s g fm hm so si sh ce ca td wa kp la bf oo bo pw ow tr)) at_X6_wanted_2 rfl rfl (Nat.le_of_ble_eq_true rfl) rfl (ab_rvOf w65 rfl) (L40_X6_isShelf (by omega) (by omega) (by omega)) (by decide) rfl ?_
                    refine E_if (t := 12) (b := true) at_X6_wanted_5 rfl (by decide) ?_
                    refine E_aload_n at_X6_wanted_12 rfl ?_
                    refine E_getfield (v := .ref 76) at_X6_wanted_13 w65 rfl (by decide) rfl ?_
                    refine E_iload_n at_X6_wanted_16 rfl ?_
                    refine E_ialN (l := hm) (v := hm.getD a1k 0) at_X6_wanted_17 w76 (by omega) (by omega) rfl ?_
                    refine E_iconst (x := nI 2) at_X6_wanted_18 (by decide) ?_
                    refine E_ic (t := 27) (b := true) at_X6_wanted_19 rfl ((cn_ne (nI_toInt (by omega)) (nI_toInt (by omega))).trans (decide_eq_true (by omega))) ?_
                    refine E_aload_n at_X6_wanted_27 rfl ?_
                    refine E_getfield (v := .ref 76) at_X6_wanted_28 w65 rfl (by decide) rfl ?_
                    refine E_iload_n at_X6_wanted_31 rfl ?_
                    refine E_ialN (l := hm) (v := hm.getD a1k 0) at_X6_wanted_32 w76 (by omega) (by omega) rfl ?_
                    refine E_if (t := 41) (b := true) at_X6_wanted_33 rfl ((cn_ne (nI_toInt (by omega)) (by decide : (0 : Int32).toInt = 0)).trans (decide_eq_true (by omega))) ?_
                    refine E_iconst (x := nI 0) at_X6_wanted_41 (by decide) ?_
                    exact E_iret at_X6_wanted_42 rfl
                  refine E_callV (v := some (.int (nI 0))) (As := [.ref 65, .int (nI a1k)]) (r0 := []) (cs2 := (ww im lf s d k ls rf rz ra rn rq lt m1 m2 m3 m4 bd (fc.set 6 ((fc.getD 6 0) + (nI 1))) hd sz el s g fm hm so si sh ce ca td wa kp la bf oo bo pw ow tr)) at_X6_barsOf_2 rfl rfl (Nat.le_of_ble_eq_true rfl) rfl (ab_rvOf w65 rfl) e5 (by decide) rfl ?_
                  refine E_istore (L2 := [some (.ref 65), some (.int (nI a1k)), some (.int (nI a2k)), some (.int (nI 40)), some (.int (nI 1)), some (.int (nI 0))]) at_X6_barsOf_5 rfl ?_
                  refine E_iload at_X6_barsOf_7 rfl ?_
                  refine E_if (t := 17) (b := true) at_X6_barsOf_9 rfl (by decide) ?_
                  refine E_iload_n at_X6_barsOf_17 rfl ?_
                  refine E_if (t := 26) (b := true) at_X6_barsOf_18 rfl ((cn_ge (nI_toInt (by omega)) (by decide : (0 : Int32).toInt = 0)).trans (decide_eq_true (by omega))) ?_
                  refine E_iload_n at_X6_barsOf_26 rfl ?_
                  refine E_aload_n at_X6_barsOf_27 rfl ?_
                  refine E_getfield (v := .ref 78) at_X6_barsOf_28 w65 rfl (by decide) rfl ?_
                  refine E_iload_n at_X6_barsOf_31 rfl ?_
                  refine E_ialN (l := si) (v := si.getD a1k 0) at_X6_barsOf_32 w78 (by omega) (by omega) rfl ?_
                  refine E_iconst (x := nI 2) at_X6_barsOf_33 (by decide) ?_
                  refine E_idiv (z := nI ((si.getD a1k 0) / 2)) at_X6_barsOf_34 (by decide) (pk_div (by omega) (by omega) (by omega)) ?_
                  refine E_ic (t := 43) (b := false) at_X6_barsOf_35 rfl ((cn_gt (nI_toInt (by omega)) (nI_toInt (by omega))).trans (decide_eq_false (by omega))) ?_
                  refine E_iload at_X6_barsOf_38 rfl ?_
                  refine E_if (t := 48) (b := true) at_X6_barsOf_40 rfl (by decide) ?_
                  refine E_iload_n at_X6_barsOf_48 rfl ?_
                  refine E_iload_n at_X6_barsOf_49 rfl ?_
                  refine E_ic (t := 58) (b := false) at_X6_barsOf_50 rfl ((cn_le (nI_toInt (by omega)) (nI_toInt (by omega))).trans (decide_eq_false (by omega))) ?_
                  refine E_bipush (x := (-6)) at_X6_barsOf_53 (by decide) ?_
                  refine E_goto (t := 59) at_X6_barsOf_55 rfl ?_
                  exact E_iret at_X6_barsOf_59 rfl
                refine E_callV (v := some (.int (-6))) (As := [.ref 65, .int (nI a1k), .int (nI a2k), .int (nI 40), .int (nI 1)]) (r0 := []) (cs2 := (ww im lf s d k ls rf rz ra rn rq lt m1 m2 m3 m4 bd (fc.set 6 ((fc.getD 6 0) + (nI 1))) hd sz el s g fm hm so si sh ce ca td wa kp la bf oo bo pw ow tr)) at_X6_rules_6 rfl rfl (Nat.le_of_ble_eq_true rfl) rfl (ab_rvOf w65 rfl) e6 (by decide) rfl ?_
                refine E_istore_n (L2 := [some (.ref 65), some (.int (nI a1k)), some (.int (nI a2k)), some (.int (-6)), none, none, none, none]) at_X6_rules_9 rfl ?_
                refine E_iconst (x := nI 0) at_X6_rules_10 (by decide) ?_
                refine E_istore (L2 := [some (.ref 65), some (.int (nI a1k)), some (.int (nI a2k)), some (.int (-6)), some (.int (nI 0)), none, none, none]) at_X6_rules_11 rfl ?_
                refine E_iload at_X6_rules_13 rfl ?_
                refine E_iload_n at_X6_rules_15 rfl ?_
                refine E_ic (t := 51) (b := false) at_X6_rules_16 rfl ((cn_ge (nI_toInt (by omega)) (nI_toInt (by omega))).trans (decide_eq_false (by omega))) ?_
                refine E_iload_n at_X6_rules_19 rfl ?_
                refine E_if (t := 51) (b := true) at_X6_rules_20 rfl (by decide) ?_
                refine E_iload_n at_X6_rules_51 rfl ?_
                refine E_if (t := 61) (b := false) at_X6_rules_52 rfl (by decide) ?_
                refine E_aload_n at_X6_rules_55 rfl ?_
                refine E_iload_n at_X6_rules_56 rfl ?_
                refine E_callV (v := some (.int (-6))) (As := [.ref 65, .int (-6)]) (r0 := []) (cs2 := (ww im lf s d k ls rf rz ra rn rq lt m1 m2 m3 m4 bd (fc.set 6 ((fc.getD 6 0) + (nI 1))) hd sz el s g (fm.set 6 ((fm.getD 6 0) + (nI 1))) hm so si sh ce ca td wa kp la bf oo bo pw ow tr)) at_X6_rules_57 rfl rfl (Nat.le_of_ble_eq_true rfl) rfl (ab_rvOf w65 rfl) (L28_X6_no (by omega)) (by decide) w_lens ?_
                exact E_iret at_X6_rules_60 rfl
              · exact ⟨I, rfl, hf, iQ, iM, iT, iS, l_el, (lr.1), (lr.2.1), (lr.2.2.1), (by simp only [List.length_set]; exact (lr.2.2.2.1)), (by simp only [List.length_set]; exact (lr.2.2.2.2.1)), (lr.2.2.2.2.2.1), (lr.2.2.2.2.2.2.1), (lr.2.2.2.2.2.2.2.1), (lr.2.2.2.2.2.2.2.2.1), (lr.2.2.2.2.2.2.2.2.2.1), (lr.2.2.2.2.2.2.2.2.2.2.1), (lr.2.2.2.2.2.2.2.2.2.2.2.1), (lr.2.2.2.2.2.2.2.2.2.2.2.2.1), (lr.2.2.2.2.2.2.2.2.2.2.2.2.2.1), (lr.2.2.2.2.2.2.2.2.2.2.2.2.2.2.1), (lr.2.2.2.2.2.2.2.2.2.2.2.2.2.2.2.1), (lr.2.2.2.2.2.2.2.2.2.2.2.2.2.2.2.2.1), (lr.2.2.2.2.2.2.2.2.2.2.2.2.2.2.2.2.2.1), (lr.2.2.2.2.2.2.2.2.2.2.2.2.2.2.2.2.2.2.1), (lr.2.2.2.2.2.2.2.2.2.2.2.2.2.2.2.2.2.2.2.1), (lr.2.2.2.2.2.2.2.2.2.2.2.2.2.2.2.2.2.2.2.2)⟩
            · rcases isB_all (el a1k) 100 a2k with ha | hb
              · by_cases f7 : (ruF (ruP (bst s (qPs s 99 (qN s)) (qN s) (2 ^ qN s)) (el a1k)) a2k) = 0
                · by_cases f8 : (ruF (ruP (qGreedy s) (el a1k)) a2k) = 0
                  · have := qPs_in s 99 (i := qN s) (by omega)
                    have := ruF_01 (ruP (bst s (qPs s 99 (qN s)) (qN s) (2 ^ qN s)) (el a1k)) a2k
                    have := ruF_01 (ruP (qGreedy s) (el a1k)) a2k
                    refine ⟨(nI 0), (im, lf, s, d, k, (lsF (wgh s (qPs s 99 (qN s)) (qN s))), rf, rz, ra, rn, rq, lt, m1, m2, m3, m4, bd, fc, hd, sz, el, s, g, fm, hm, so, si, sh, ce, ca, td, wa, kp, la, bf, oo, bo, pw, ow, tr), (im, lf, s, d, k, (lsF (wgh s (qPs s 99 (qN s)) (qN s))), rf, rz, ra, rn, rq, lt, m1, m2, m3, m4, bd, fc, hd, sz, el, s, g, fm, hm, so, si, sh, ce, ca, td, wa, kp, la, (lsF (bst s (qPs s 99 (qN s)) (qN s) (2 ^ qN s))), oo, bo, pw, ow, tr), ?_, ?_, ?_⟩
                    · show Ev ab_Z0 5 99 [.ref 0, .int (nI a1k), .int (nI a2k)] (ww im lf s d k ls rf rz ra rn rq lt m1 m2 m3 m4 bd fc hd sz el s g fm hm so si sh ce ca td wa kp la bf oo bo pw ow tr) (some (.int (nI 0)), (ww im lf s d k (lsF (wgh s (qPs s 99 (qN s)) (qN s))) rf rz ra rn rq lt m1 m2 m3 m4 bd fc hd sz el s g fm hm so si sh ce ca td wa kp la bf oo bo pw ow tr))
                      refine Ef.in (md := mX5_rules) (L := [some (.ref 0), some (.int (nI a1k)), some (.int (nI a2k)), none, none, none, none, none]) rfl (Nat.le_of_ble_eq_true rfl) rfl ?_
                      refine E_aload_n rfl rfl ?_
                      refine E_iload_n rfl rfl ?_
                      refine E_iload_n rfl rfl ?_
                      refine E_bipush (x := nI 40) rfl (by decide) ?_
                      refine E_iconst (x := nI 0) rfl (by decide) ?_
                      have e4 : Ev ab_Z0 3 120 [.ref 0, .int (nI a1k), .int (nI a2k), .int (nI 40), .int (nI 0)] (ww im lf s d k ls rf rz ra rn rq lt m1 m2 m3 m4 bd fc hd sz el s g fm hm so si sh ce ca td wa kp la bf oo bo pw ow tr) (some (.int (nI 0)), (ww im lf s d k ls rf rz ra rn rq lt m1 m2 m3 m4 bd fc hd sz el s g fm hm so si sh ce ca td wa kp la bf oo bo pw ow tr)) := by
                        refine Ef.in (md := mX5_whyNoTwos) (L := [some (.ref 0), some (.int (nI a1k)), some (.int (nI a2k)), some (.int (nI 40)), some (.int (nI 0)), none]) rfl (Nat.le_of_ble_eq_true rfl) rfl ?_
                        refine E_aload_n at_X5_whyNoTwos_0 rfl ?_
                        refine E_iload_n at_X5_whyNoTwos_1 rfl ?_
                        have e3 : Ev ab_Z0 2 119 [.ref 0, .int (nI a1k)] (ww im lf s d k ls rf rz ra rn rq lt m1 m2 m3 m4 bd fc hd sz el s g fm hm so si sh ce ca td wa kp la bf oo bo pw ow tr) (some (.int (nI 0)), (ww im lf s d k ls rf rz ra rn rq lt m1 m2 m3 m4 bd fc hd sz el s g fm hm so si sh ce ca td wa kp la bf oo bo pw ow tr)) := by
                          refine Ef.in (md := mX5_whyNoRow) (L := [some (.ref 0), some (.int (nI a1k))]) rfl (Nat.le_of_ble_eq_true rfl) rfl ?_
                          refine E_iload_n at_X5_whyNoRow_0 rfl ?_
                          refine E_callS (v := some (.int (nI 1))) (As := [.int (nI a1k)]) (r0 := []) (cs2 := (ww im lf s d k ls rf rz ra rn rq lt m1 m2 m3 m4 bd fc hd sz el s g fm hm so si sh ce ca td wa kp la bf oo bo pw ow tr)) at_X5_whyNoRow_1 rfl rfl (Nat.le_of_ble_eq_true rfl) rfl (L39_X5_isShelf (by omega) (by omega) (by omega)) (by decide) rfl ?_
                          refine E_if (t := 9) (b := true) at_X5_whyNoRow_4 rfl (by decide) ?_
                          refine E_aload_n at_X5_whyNoRow_9 rfl ?_
                          refine E_getfield (v := .ref 31) at_X5_whyNoRow_10 w0 rfl (by decide) rfl ?_
                          refine E_iload_n at_X5_whyNoRow_13 rfl ?_
                          refine E_aalN (b := 49 + 2 * a1k) at_X5_whyNoRow_14 w31 (by omega) (w_shs (by omega)) ?_
                          have e1 : Ev ab_Z0 1 33 [.ref (49 + 2 * a1k)] (ww im lf s d k ls rf rz ra rn rq lt m1 m2 m3 m4 bd fc hd sz el s g fm hm so si sh ce ca td wa kp la bf oo bo pw ow tr) (some (.int (nI 0)), (ww im lf s d k ls rf rz ra rn rq lt m1 m2 m3 m4 bd fc hd sz el s g fm hm so si sh ce ca td wa kp la bf oo bo pw ow tr)) := by
                            refine Ef.in (md := mX3_isOtherThanRow) (L := [some (.ref (49 + 2 * a1k))]) rfl (Nat.le_of_ble_eq_true rfl) rfl ?_
                            refine E_aload_n at_X3_isOtherThanRow_0 rfl ?_
                            refine E_getfield (v := .int (nI (100 + so.getD a1k 0))) at_X3_isOtherThanRow_1 (w_shv (j := a1k) (by omega) u1 u2) rfl (by decide) rfl ?_
                            refine E_if (t := 20) (b := false) at_X3_isOtherThanRow_4 rfl ((cn_lt (nI_toInt (by omega)) (by decide : (0 : Int32).toInt = 0)).trans (decide_eq_false (by omega))) ?_
                            refine E_aload_n at_X3_isOtherThanRow_7 rfl ?_
                            refine E_getfield (v := .int (nI (100 + so.getD a1k 0))) at_X3_isOtherThanRow_8 (w_shv (j := a1k) (by omega) u1 u2) rfl (by decide) rfl ?_
                            refine E_bipush (x := nI 100) at_X3_isOtherThanRow_11 (by decide) ?_
                            refine E_ic (t := 20) (b := true) at_X3_isOtherThanRow_13 rfl ((cn_ge (nI_toInt (by omega)) (nI_toInt (by omega))).trans (decide_eq_true (by omega))) ?_
                            refine E_iconst (x := nI 0) at_X3_isOtherThanRow_20 (by decide) ?_
                            exact E_iret at_X3_isOtherThanRow_21 rfl
                          refine E_callV (v := some (.int (nI 0))) (As := [.ref (49 + 2 * a1k)]) (r0 := []) (cs2 := (ww im lf s d k ls rf rz ra rn rq lt m1 m2 m3 m4 bd fc hd sz el s g fm hm so si sh ce ca td wa kp la bf oo bo pw ow tr)) at_X5_whyNoRow_15 rfl rfl (Nat.le_of_ble_eq_true rfl) rfl (ab_rvOf (w_shv (j := a1k) (by omega) u1 u2) rfl) e1 (by decide) rfl ?_
                          refine E_if (t := 23) (b := true) at_X5_whyNoRow_18 rfl (by decide) ?_
                          refine E_aload_n at_X5_whyNoRow_23 rfl ?_
                          refine E_getfield (v := .ref 31) at_X5_whyNoRow_24 w0 rfl (by decide) rfl ?_
                          refine E_iload_n at_X5_whyNoRow_27 rfl ?_
                          refine E_aalN (b := 49 + 2 * a1k) at_X5_whyNoRow_28 w31 (by omega) (w_shs (by omega)) ?_
                          have e2 : Ev ab_Z0 1 32 [.ref (49 + 2 * a1k)] (ww im lf s d k ls rf rz ra rn rq lt m1 m2 m3 m4 bd fc hd sz el s g fm hm so si sh ce ca td wa kp la bf oo bo pw ow tr) (some (.int (nI 0)), (ww im lf s d k ls rf rz ra rn rq lt m1 m2 m3 m4 bd fc hd sz el s g fm hm so si sh ce ca td wa kp la bf oo bo pw ow tr)) := by
                            refine Ef.in (md := mX3_isEmpty) (L := [some (.ref (49 + 2 * a1k))]) rfl (Nat.le_of_ble_eq_true rfl) rfl ?_
                            refine E_aload_n at_X3_isEmpty_0 rfl ?_
                            refine E_getfield (v := .int (nI (100 + so.getD a1k 0))) at_X3_isEmpty_1 (w_shv (j := a1k) (by omega) u1 u2) rfl (by decide) rfl ?_
                            refine E_iconst (x := (-1)) at_X3_isEmpty_4 (by decide) ?_
                            refine E_ic (t := 12) (b := true) at_X3_isEmpty_5 rfl ((cn_ne (nI_toInt (by omega)) (by decide : (-1 : Int32).toInt = -1)).trans (decide_eq_true (by omega))) ?_
                            refine E_iconst (x := nI 0) at_X3_isEmpty_12 (by decide) ?_
                            exact E_iret at_X3_isEmpty_13 rfl
                          refine E_callV (v := some (.int (nI 0))) (As := [.ref (49 + 2 * a1k)]) (r0 := []) (cs2 := (ww im lf s d k ls rf rz ra rn rq lt m1 m2 m3 m4 bd fc hd sz el s g fm hm so si sh ce ca td wa kp la bf oo bo pw ow tr)) at_X5_whyNoRow_29 rfl rfl (Nat.le_of_ble_eq_true rfl) rfl (ab_rvOf (w_shv (j := a1k) (by omega) u1 u2) rfl) e2 (by decide) rfl ?_
                          refine E_if (t := 39) (b := true) at_X5_whyNoRow_32 rfl (by decide) ?_
                          refine E_iconst (x := nI 0) at_X5_whyNoRow_39 (by decide) ?_
                          exact E_iret at_X5_whyNoRow_40 rfl
                        refine E_callV (v := some (.int (nI 0))) (As := [.ref 0, .int (nI a1k)]) (r0 := []) (cs2 := (ww im lf s d k ls rf rz ra rn rq lt m1 m2 m3 m4 bd fc hd sz el s g fm hm so si sh ce ca td wa kp la bf oo bo pw ow tr)) at_X5_whyNoTwos_2 rfl rfl (Nat.le_of_ble_eq_true rfl) rfl (ab_rvOf w0 rfl) e3 (by decide) rfl ?_
                        refine E_istore (L2 := [some (.ref 0), some (.int (nI a1k)), some (.int (nI a2k)), some (.int (nI 40)), some (.int (nI 0)), some (.int (nI 0))]) at_X5_whyNoTwos_5 rfl ?_
                        refine E_iload at_X5_whyNoTwos_7 rfl ?_
                        refine E_if (t := 15) (b := true) at_X5_whyNoTwos_9 rfl (by decide) ?_
                        refine E_iload_n at_X5_whyNoTwos_15 rfl ?_
                        refine E_if (t := 21) (b := true) at_X5_whyNoTwos_16 rfl ((cn_ge (nI_toInt (by omega)) (by decide : (0 : Int32).toInt = 0)).trans (decide_eq_true (by omega))) ?_
                        refine E_iload at_X5_whyNoTwos_21 rfl ?_
                        refine E_if (t := 41) (b := false) at_X5_whyNoTwos_23 rfl (by decide) ?_
                        refine E_iload_n at_X5_whyNoTwos_26 rfl ?_
                        refine E_aload_n at_X5_whyNoTwos_27 rfl ?_
                        refine E_getfield (v := .ref 31) at_X5_whyNoTwos_28 w0 rfl (by decide) rfl ?_
                        refine E_iload_n at_X5_whyNoTwos_31 rfl ?_
                        refine E_aalN (b := 49 + 2 * a1k) at_X5_whyNoTwos_32 w31 (by omega) (w_shs (by omega)) ?_
                        refine E_getfield (v := .int (nI (si.getD a1k 0))) at_X5_whyNoTwos_33 (w_shv (j := a1k) (by omega) u1 u2) rfl (by decide) rfl ?_
                        refine E_iconst (x := nI 2) at_X5_whyNoTwos_36 (by decide) ?_
                        refine E_idiv (z := nI ((si.getD a1k 0) / 2)) at_X5_whyNoTwos_37 (by decide) (pk_div (by omega) (by omega) (by omega)) ?_
                        refine E_ic (t := 43) (b := true) at_X5_whyNoTwos_38 rfl ((cn_le (nI_toInt (by omega)) (nI_toInt (by omega))).trans (decide_eq_true (by omega))) ?_
                        refine E_iload_n at_X5_whyNoTwos_43 rfl ?_
                        refine E_iload_n at_X5_whyNoTwos_44 rfl ?_
                        refine E_ic (t := 53) (b := true) at_X5_whyNoTwos_45 rfl ((cn_le (nI_toInt (by omega)) (nI_toInt (by omega))).trans (decide_eq_true (by omega))) ?_
                        refine E_iconst (x := nI 0) at_X5_whyNoTwos_53 (by decide) ?_
                        exact E_iret at_X5_whyNoTwos_54 rfl
                      refine E_callV (v := some (.int (nI 0))) (As := [.ref 0, .int (nI a1k), .int (nI a2k), .int (nI 40), .int (nI 0)]) (r0 := []) (cs2 := (ww im lf s d k ls rf rz ra rn rq lt m1 m2 m3 m4 bd fc hd sz el s g fm hm so si sh ce ca td wa kp la bf oo bo pw ow tr)) rfl rfl rfl (Nat.le_of_ble_eq_true rfl) rfl (ab_rvOf w0 rfl) e4 (by decide) rfl ?_
                      refine E_istore_n (L2 := [some (.ref 0), some (.int (nI a1k)), some (.int (nI a2k)), some (.int (nI 0)), none, none, none, none]) rfl rfl ?_
                      refine E_iload_n rfl rfl ?_
                      refine E_if (t := 20) (b := true) rfl rfl (by decide) ?_
                      refine E_aload_n rfl rfl ?_
                      refine E_getfield (v := .ref 31) rfl w0 rfl (by decide) rfl ?_
                      refine E_iload_n rfl rfl ?_
                      refine E_aalN (b := 49 + 2 * a1k) rfl w31 (by omega) (w_shs (by omega)) ?_
                      refine E_astore (L2 := [some (.ref 0), some (.int (nI a1k)), some (.int (nI a2k)), some (.int (nI 0)), some (.ref (49 + 2 * a1k)), none, none, none]) rfl rfl ?_
                      refine E_iconst (x := nI 0) rfl (by decide) ?_
                      refine E_istore (L2 := [some (.ref 0), some (.int (nI a1k)), some (.int (nI a2k)), some (.int (nI 0)), some (.ref (49 + 2 * a1k)), some (.int (nI 0)), none, none]) rfl rfl ?_
                      refine ru_cg (by omega) u2 (by omega) (l_el _ (by omega)) (by omega) ha ?_ a2k 0 (Nat.zero_add _)
                      refine E_aload_n rfl rfl ?_
                      refine E_getfield (v := .ref 32) rfl w0 rfl (by decide) rfl ?_
                      refine E_aload_n rfl rfl ?_
                      refine E_getfield (v := .ref 1) rfl w0 rfl (by decide) rfl ?_
                      refine E_aload_n rfl rfl ?_
                      refine E_getfield (v := .ref 1) rfl w0 rfl (by decide) rfl ?_
                      refine E_callV (v := some (.int (nI (qPs s 99 (qN s))))) (As := [.ref 1]) (r0 := [.ref 1, .ref 32]) (cs2 := (ww im lf s d k ls rf rz ra rn rq lt m1 m2 m3 m4 bd fc hd sz el s g fm hm so si sh ce ca td wa kp la bf oo bo pw ow tr)) rfl rfl rfl (Nat.le_of_ble_eq_true rfl) rfl (ab_rvOf w1 rfl) (sq_basin w_q1 I) (by decide) rfl ?_
                      refine E_callV (v := none) (As := [.ref 32, .ref 1, .int (nI (qPs s 99 (qN s)))]) (r0 := []) (cs2 := (ww im lf s d k (lsF (wgh s (qPs s 99 (qN s)) (qN s))) rf rz ra rn rq lt m1 m2 m3 m4 bd fc hd sz el s g fm hm so si sh ce ca td wa kp la bf oo bo pw ow tr)) rfl rfl rfl (Nat.le_of_ble_eq_true rfl) rfl (ab_rvOf w32 rfl) (w_weigh1 (m := qPs s 99 (qN s)) I (by omega) (lr.1)) (by decide) w_lens ?_
                      refine E_iconst (x := nI 1) rfl (by decide) ?_
                      refine E_istore (L2 := [some (.ref 0), some (.int (nI a1k)), some (.int (nI a2k)), some (.int (nI 0)), some (.ref (49 + 2 * a1k)), some (.int (nI 1)), none, none]) rfl rfl ?_
                      refine E_iconst (x := nI 1) rfl (by decide) ?_
                      refine E_istore (L2 := [some (.ref 0), some (.int (nI a1k)), some (.int (nI a2k)), some (.int (nI 0)), some (.ref (49 + 2 * a1k)), some (.int (nI 1)), some (.int (nI 1)), none]) rfl rfl ?_
                      refine E_iconst (x := nI 0) rfl (by decide) ?_
                      refine E_istore (L2 := [some (.ref 0), some (.int (nI a1k)), some (.int (nI a2k)), some (.int (nI 0)), some (.ref (49 + 2 * a1k)), some (.int (nI 1)), some (.int (nI 1)), some (.int (nI 0))]) rfl rfl ?_
                      refine ru_cl (m := qPs s 99 (qN s)) (by omega) u2 (by omega) (l_el _ (by omega)) (by omega) ha I ?_ a2k 0 (Nat.zero_add _)
                      refine E_iload rfl rfl ?_
                      refine E_if (t := 183) (b := true) rfl rfl ((cn_eq (nI_toInt (by omega)) (by decide : (0 : Int32).toInt = 0)).trans (decide_eq_true (by omega))) ?_
                      refine E_iconst (x := nI 0) rfl (by decide) ?_
                      refine E_iload rfl rfl ?_
                      refine E_if (t := 193) (b := true) rfl rfl ((cn_eq (nI_toInt (by omega)) (by decide : (0 : Int32).toInt = 0)).trans (decide_eq_true (by omega))) ?_
                      refine E_iconst (x := nI 0) rfl (by decide) ?_
                      refine E_ior (z := nI 0) rfl (by decide) ?_
                      exact E_iret rfl rfl
                    · show Ev ab_Z0 4 187 [.ref 65, .int (nI a1k), .int (nI a2k)] (ww im lf s d k (lsF (wgh s (qPs s 99 (qN s)) (qN s))) rf rz ra rn rq lt m1 m2 m3 m4 bd fc hd sz el s g fm hm so si sh ce ca td wa kp la bf oo bo pw ow tr) (some (.int (nI 0)), (ww im lf s d k (lsF (wgh s (qPs s 99 (qN s)) (qN s))) rf rz ra rn rq lt m1 m2 m3 m4 bd fc hd sz el s g fm hm so si sh ce ca td wa kp la (lsF (bst s (qPs s 99 (qN s)) (qN s) (2 ^ qN s))) oo bo pw ow tr))
                      refine Ev.vi (congrArg nI (by omega : ruF (ruP (bst s (qPs s 99 (qN s)) (qN s) (2 ^ qN s)) (el a1k)) a2k + 2 * ruF (ruP (qGreedy s) (el a1k)) a2k = 0)) ?_
                      refine Ef.in (md := mX6_rules) (L := [some (.ref 65), some (.int (nI a1k)), some (.int (nI a2k)), none, none, none, none, none]) rfl (Nat.le_of_ble_eq_true rfl) rfl ?_
                      refine E_aload_n rfl rfl ?_
                      refine E_iload_n rfl rfl ?_
                      refine E_iload_n rfl rfl ?_
                      refine E_bipush (x := nI 40) rfl (by decide) ?_
                      refine E_iconst (x := nI 1) rfl (by decide) ?_
                      have e6 : Ev ab_Z0 3 186 [.ref 65, .int (nI a1k), .int (nI a2k), .int (nI 40), .int (nI 1)] (ww im lf s d k (lsF (wgh s (qPs s 99 (qN s)) (qN s))) rf rz ra rn rq lt m1 m2 m3 m4 bd fc hd sz el s g fm hm so si sh ce ca td wa kp la bf oo bo pw ow tr) (some (.int (nI 0)), (ww im lf s d k (lsF (wgh s (qPs s 99 (qN s)) (qN s))) rf rz ra rn rq lt m1 m2 m3 m4 bd fc hd sz el s g fm hm so si sh ce ca td wa kp la bf oo bo pw ow tr)) := by
                        refine Ef.in (md := mX6_barsOf) (L := [some (.ref 65), some (.int (nI a1k)), some (.int (nI a2k)), some (.int (nI 40)), some (.int (nI 1)), none]) rfl (Nat.le_of_ble_eq_true rfl) rfl ?_
                        refine E_aload_n at_X6_barsOf_0 rfl ?_
                        refine E_iload_n at_X6_barsOf_1 rfl ?_
                        have e5 : Ev ab_Z0 2 142 [.ref 65, .int (nI a1k)] (ww im lf s d k (lsF (wgh s (qPs s 99 (qN s)) (qN s))) rf rz ra rn rq lt m1 m2 m3 m4 bd fc hd sz el s g fm hm so si sh ce ca td wa kp la bf oo bo pw ow tr) (some (.int (nI 0)), (ww im lf s d k (lsF (wgh s (qPs s 99 (qN s)) (qN s))) rf rz ra rn rq lt m1 m2 m3 m4 bd fc hd sz el s g fm hm so si sh ce ca td wa kp la bf oo bo pw ow tr)) := by
                          refine Ef.in (md := mX6_wanted) (L := [some (.ref 65), some (.int (nI a1k))]) rfl (Nat.le_of_ble_eq_true rfl) rfl ?_
                          refine E_aload_n at_X6_wanted_0 rfl ?_
                          refine E_iload_n at_X6_wanted_1 rfl ?_
                          refine E_callV (v := some (.int (nI 1))) (As := [.ref 65, .int (nI a1k)]) (r0 := []) (cs2 := (ww im lf s d k (lsF (wgh s (qPs s 99 (qN s)) (qN s))) rf rz ra rn rq lt m1 m2 m3 m4 bd fc hd sz el s g fm hm so si sh ce ca td wa kp la bf oo bo pw ow tr)) at_X6_wanted_2 rfl rfl (Nat.le_of_ble_eq_true rfl) rfl (ab_rvOf w65 rfl) (L40_X6_isShelf (by omega) (by omega) (by omega)) (by decide) rfl ?_
                          refine E_if (t := 12) (b := true) at_X6_wanted_5 rfl (by decide) ?_
                          refine E_aload_n at_X6_wanted_12 rfl ?_
                          refine E_getfield (v := .ref 76) at_X6_wanted_13 w65 rfl (by decide) rfl ?_
                          refine E_iload_n at_X6_wanted_16 rfl ?_
                          refine E_ialN (l := hm) (v := hm.getD a1k 0) at_X6_wanted_17 w76 (by omega) (by omega) rfl ?_
                          refine E_iconst (x := nI 2) at_X6_wanted_18 (by decide) ?_
                          refine E_ic (t := 27) (b := true) at_X6_wanted_19 rfl ((cn_ne (nI_toInt (by omega)) (nI_toInt (by omega))).trans (decide_eq_true (by omega))) ?_
                          refine E_aload_n at_X6_wanted_27 rfl ?_
                          refine E_getfield (v := .ref 76) at_X6_wanted_28 w65 rfl (by decide) rfl ?_
                          refine E_iload_n at_X6_wanted_31 rfl ?_
                          refine E_ialN (l := hm) (v := hm.getD a1k 0) at_X6_wanted_32 w76 (by omega) (by omega) rfl ?_
                          refine E_if (t := 41) (b := true) at_X6_wanted_33 rfl ((cn_ne (nI_toInt (by omega)) (by decide : (0 : Int32).toInt = 0)).trans (decide_eq_true (by omega))) ?_
                          refine E_iconst (x := nI 0) at_X6_wanted_41 (by decide) ?_
                          exact E_iret at_X6_wanted_42 rfl
                        refine E_callV (v := some (.int (nI 0))) (As := [.ref 65, .int (nI a1k)]) (r0 := []) (cs2 := (ww im lf s d k (lsF (wgh s (qPs s 99 (qN s)) (qN s))) rf rz ra rn rq lt m1 m2 m3 m4 bd fc hd sz el s g fm hm so si sh ce ca td wa kp la bf oo bo pw ow tr)) at_X6_barsOf_2 rfl rfl (Nat.le_of_ble_eq_true rfl) rfl (ab_rvOf w65 rfl) e5 (by decide) rfl ?_
                        refine E_istore (L2 := [some (.ref 65), some (.int (nI a1k)), some (.int (nI a2k)), some (.int (nI 40)), some (.int (nI 1)), some (.int (nI 0))]) at_X6_barsOf_5 rfl ?_
                        refine E_iload at_X6_barsOf_7 rfl ?_
                        refine E_if (t := 17) (b := true) at_X6_barsOf_9 rfl (by decide) ?_
                        refine E_iload_n at_X6_barsOf_17 rfl ?_
                        refine E_if (t := 26) (b := true) at_X6_barsOf_18 rfl ((cn_ge (nI_toInt (by omega)) (by decide : (0 : Int32).toInt = 0)).trans (decide_eq_true (by omega))) ?_
                        refine E_iload_n at_X6_barsOf_26 rfl ?_
                        refine E_aload_n at_X6_barsOf_27 rfl ?_
                        refine E_getfield (v := .ref 78) at_X6_barsOf_28 w65 rfl (by decide) rfl ?_
                        refine E_iload_n at_X6_barsOf_31 rfl ?_
                        refine E_ialN (l := si) (v := si.getD a1k 0) at_X6_barsOf_32 w78 (by omega) (by omega) rfl ?_
                        refine E_iconst (x := nI 2) at_X6_barsOf_33 (by decide) ?_
                        refine E_idiv (z := nI ((si.getD a1k 0) / 2)) at_X6_barsOf_34 (by decide) (pk_div (by omega) (by omega) (by omega)) ?_
                        refine E_ic (t := 43) (b := false) at_X6_barsOf_35 rfl ((cn_gt (nI_toInt (by omega)) (nI_toInt (by omega))).trans (decide_eq_false (by omega))) ?_
                        refine E_iload at_X6_barsOf_38 rfl ?_
                        refine E_if (t := 48) (b := true) at_X6_barsOf_40 rfl (by decide) ?_
                        refine E_iload_n at_X6_barsOf_48 rfl ?_
                        refine E_iload_n at_X6_barsOf_49 rfl ?_
                        refine E_ic (t := 58) (b := true) at_X6_barsOf_50 rfl ((cn_le (nI_toInt (by omega)) (nI_toInt (by omega))).trans (decide_eq_true (by omega))) ?_
                        refine E_iconst (x := nI 0) at_X6_barsOf_58 (by decide) ?_
                        exact E_iret at_X6_barsOf_59 rfl
                      refine E_callV (v := some (.int (nI 0))) (As := [.ref 65, .int (nI a1k), .int (nI a2k), .int (nI 40), .int (nI 1)]) (r0 := []) (cs2 := (ww im lf s d k (lsF (wgh s (qPs s 99 (qN s)) (qN s))) rf rz ra rn rq lt m1 m2 m3 m4 bd fc hd sz el s g fm hm so si sh ce ca td wa kp la bf oo bo pw ow tr)) rfl rfl rfl (Nat.le_of_ble_eq_true rfl) rfl (ab_rvOf w65 rfl) e6 (by decide) rfl ?_
                      refine E_istore_n (L2 := [some (.ref 65), some (.int (nI a1k)), some (.int (nI a2k)), some (.int (nI 0)), none, none, none, none]) rfl rfl ?_
                      refine E_iconst (x := nI 0) rfl (by decide) ?_
                      refine E_istore (L2 := [some (.ref 65), some (.int (nI a1k)), some (.int (nI a2k)), some (.int (nI 0)), some (.int (nI 0)), none, none, none]) rfl rfl ?_
                      refine ru_mg (by omega) u2 (by omega) (l_el _ (by omega)) (by omega) (lr.2.2.2.2.2.2.2.2.2.1) u6 ha ?_ a2k 0 (Nat.zero_add _)
                      refine E_iload_n rfl rfl ?_
                      refine E_if (t := 61) (b := true) rfl rfl (by decide) ?_
                      refine E_aload_n rfl rfl ?_
                      refine E_aload_n rfl rfl ?_
                      refine E_bipush (x := nI 99) rfl (by decide) ?_
                      refine E_callV (v := some (.int (nI (qPs s 99 (qN s))))) (As := [.ref 65, .int (nI 99)]) (r0 := [.ref 65]) (cs2 := (ww im lf s d k (lsF (wgh s (qPs s 99 (qN s)) (qN s))) rf rz ra rn rq lt m1 m2 m3 m4 bd fc hd sz el s g fm hm so si sh ce ca td wa kp la bf oo bo pw ow tr)) rfl rfl rfl (Nat.le_of_ble_eq_true rfl) rfl (ab_rvOf w65 rfl) (mo_piecesOf w_m I (by omega)) (by decide) rfl ?_
                      refine E_callV (v := none) (As := [.ref 65, .int (nI (qPs s 99 (qN s)))]) (r0 := []) (cs2 := (ww im lf s d k (lsF (wgh s (qPs s 99 (qN s)) (qN s))) rf rz ra rn rq lt m1 m2 m3 m4 bd fc hd sz el s g fm hm so si sh ce ca td wa kp la (lsF (bst s (qPs s 99 (qN s)) (qN s) (2 ^ qN s))) oo bo pw ow tr)) rfl rfl rfl (Nat.le_of_ble_eq_true rfl) rfl (ab_rvOf w65 rfl) (w_best (m := qPs s 99 (qN s)) I (by omega) (lr.2.2.2.2.2.2.2.2.2.2.2.2.2.2.2.1)) (by decide) w_lens ?_
                      refine E_iconst (x := nI 3) rfl (by decide) ?_
                      refine E_istore (L2 := [some (.ref 65), some (.int (nI a1k)), some (.int (nI a2k)), some (.int (nI 0)), some (.int (nI 3)), none, none, none]) rfl rfl ?_
                      refine E_iconst (x := nI 0) rfl (by decide) ?_
                      refine E_istore (L2 := [some (.ref 65), some (.int (nI a1k)), some (.int (nI a2k)), some (.int (nI 0)), some (.int (nI 3)), some (.int (nI 0)), none, none]) rfl rfl ?_
                      exact ru_ml (m := qPs s 99 (qN s)) (by omega) u2 (by omega) (l_el _ (by omega)) (by omega) (by omega) ha (lr.2.2.2.2.2.2.2.2.2.1) u6 I a2k 0 none none (Nat.zero_add _)
                    · exact ⟨I, rfl, hf, iQ, iM, iT, iS, l_el, (lsF_len _), (lr.2.1), (lr.2.2.1), (lr.2.2.2.1), (lr.2.2.2.2.1), (lr.2.2.2.2.2.1), (lr.2.2.2.2.2.2.1), (lr.2.2.2.2.2.2.2.1), (lr.2.2.2.2.2.2.2.2.1), (lr.2.2.2.2.2.2.2.2.2.1), (lr.2.2.2.2.2.2.2.2.2.2.1), (lr.2.2.2.2.2.2.2.2.2.2.2.1), (lr.2.2.2.2.2.2.2.2.2.2.2.2.1), (lr.2.2.2.2.2.2.2.2.2.2.2.2.2.1), (lr.2.2.2.2.2.2.2.2.2.2.2.2.2.2.1), (lsF_len _), (lr.2.2.2.2.2.2.2.2.2.2.2.2.2.2.2.2.1), (lr.2.2.2.2.2.2.2.2.2.2.2.2.2.2.2.2.2.1), (lr.2.2.2.2.2.2.2.2.2.2.2.2.2.2.2.2.2.2.1), (lr.2.2.2.2.2.2.2.2.2.2.2.2.2.2.2.2.2.2.2.1), (lr.2.2.2.2.2.2.2.2.2.2.2.2.2.2.2.2.2.2.2.2)⟩
                  · have := qPs_in s 99 (i := qN s) (by omega)
                    have := ruF_01 (ruP (bst s (qPs s 99 (qN s)) (qN s) (2 ^ qN s)) (el a1k)) a2k
                    have := ruF_01 (ruP (qGreedy s) (el a1k)) a2k
                    refine ⟨(nI 2), (im, lf, s, d, k, (lsF (wgh s (qPs s 99 (qN s)) (qN s))), rf, rz, ra, rn, rq, lt, m1, m2, m3, m4, bd, fc, hd, sz, el, s, g, fm, hm, so, si, sh, ce, ca, td, wa, kp, la, bf, oo, bo, pw, ow, tr), (im, lf, s, d, k, (lsF (wgh s (qPs s 99 (qN s)) (qN s))), rf, rz, ra, rn, rq, lt, m1, m2, m3, m4, bd, fc, hd, sz, el, s, g, fm, hm, so, si, sh, ce, ca, td, wa, kp, la, (lsF (bst s (qPs s 99 (qN s)) (qN s) (2 ^ qN s))), oo, bo, pw, ow, tr), ?_, ?_, ?_⟩
                    · show Ev ab_Z0 5 99 [.ref 0, .int (nI a1k), .int (nI a2k)] (ww im lf s d k ls rf rz ra rn rq lt m1 m2 m3 m4 bd fc hd sz el s g fm hm so si sh ce ca td wa kp la bf oo bo pw ow tr) (some (.int (nI 2)), (ww im lf s d k (lsF (wgh s (qPs s 99 (qN s)) (qN s))) rf rz ra rn rq lt m1 m2 m3 m4 bd fc hd sz el s g fm hm so si sh ce ca td wa kp la bf oo bo pw ow tr))
                      refine Ef.in (md := mX5_rules) (L := [some (.ref 0), some (.int (nI a1k)), some (.int (nI a2k)), none, none, none, none, none]) rfl (Nat.le_of_ble_eq_true rfl) rfl ?_
                      refine E_aload_n rfl rfl ?_
                      refine E_iload_n rfl rfl ?_
                      refine E_iload_n rfl rfl ?_
                      refine E_bipush (x := nI 40) rfl (by decide) ?_
                      refine E_iconst (x := nI 0) rfl (by decide) ?_
                      have e4 : Ev ab_Z0 3 120 [.ref 0, .int (nI a1k), .int (nI a2k), .int (nI 40), .int (nI 0)] (ww im lf s d k ls rf rz ra rn rq lt m1 m2 m3 m4 bd fc hd sz el s g fm hm so si sh ce ca td wa kp la bf oo bo pw ow tr) (some (.int (nI 0)), (ww im lf s d k ls rf rz ra rn rq lt m1 m2 m3 m4 bd fc hd sz el s g fm hm so si sh ce ca td wa kp la bf oo bo pw ow tr)) := by
                        refine Ef.in (md := mX5_whyNoTwos) (L := [some (.ref 0), some (.int (nI a1k)), some (.int (nI a2k)), some (.int (nI 40)), some (.int (nI 0)), none]) rfl (Nat.le_of_ble_eq_true rfl) rfl ?_
                        refine E_aload_n at_X5_whyNoTwos_0 rfl ?_
                        refine E_iload_n at_X5_whyNoTwos_1 rfl ?_
                        have e3 : Ev ab_Z0 2 119 [.ref 0, .int (nI a1k)] (ww im lf s d k ls rf rz ra rn rq lt m1 m2 m3 m4 bd fc hd sz el s g fm hm so si sh ce ca td wa kp la bf oo bo pw ow tr) (some (.int (nI 0)), (ww im lf s d k ls rf rz ra rn rq lt m1 m2 m3 m4 bd fc hd sz el s g fm hm so si sh ce ca td wa kp la bf oo bo pw ow tr)) := by
                          refine Ef.in (md := mX5_whyNoRow) (L := [some (.ref 0), some (.int (nI a1k))]) rfl (Nat.le_of_ble_eq_true rfl) rfl ?_
                          refine E_iload_n at_X5_whyNoRow_0 rfl ?_
                          refine E_callS (v := some (.int (nI 1))) (As := [.int (nI a1k)]) (r0 := []) (cs2 := (ww im lf s d k ls rf rz ra rn rq lt m1 m2 m3 m4 bd fc hd sz el s g fm hm so si sh ce ca td wa kp la bf oo bo pw ow tr)) at_X5_whyNoRow_1 rfl rfl (Nat.le_of_ble_eq_true rfl) rfl (L39_X5_isShelf (by omega) (by omega) (by omega)) (by decide) rfl ?_
                          refine E_if (t := 9) (b := true) at_X5_whyNoRow_4 rfl (by decide) ?_
                          refine E_aload_n at_X5_whyNoRow_9 rfl ?_
                          refine E_getfield (v := .ref 31) at_X5_whyNoRow_10 w0 rfl (by decide) rfl ?_
                          refine E_iload_n at_X5_whyNoRow_13 rfl ?_
                          refine E_aalN (b := 49 + 2 * a1k) at_X5_whyNoRow_14 w31 (by omega) (w_shs (by omega)) ?_
                          have e1 : Ev ab_Z0 1 33 [.ref (49 + 2 * a1k)] (ww im lf s d k ls rf rz ra rn rq lt m1 m2 m3 m4 bd fc hd sz el s g fm hm so si sh ce ca td wa kp la bf oo bo pw ow tr) (some (.int (nI 0)), (ww im lf s d k ls rf rz ra rn rq lt m1 m2 m3 m4 bd fc hd sz el s g fm hm so si sh ce ca td wa kp la bf oo bo pw ow tr)) := by
                            refine Ef.in (md := mX3_isOtherThanRow) (L := [some (.ref (49 + 2 * a1k))]) rfl (Nat.le_of_ble_eq_true rfl) rfl ?_
                            refine E_aload_n at_X3_isOtherThanRow_0 rfl ?_
                            refine E_getfield (v := .int (nI (100 + so.getD a1k 0))) at_X3_isOtherThanRow_1 (w_shv (j := a1k) (by omega) u1 u2) rfl (by decide) rfl ?_
                            refine E_if (t := 20) (b := false) at_X3_isOtherThanRow_4 rfl ((cn_lt (nI_toInt (by omega)) (by decide : (0 : Int32).toInt = 0)).trans (decide_eq_false (by omega))) ?_
                            refine E_aload_n at_X3_isOtherThanRow_7 rfl ?_
                            refine E_getfield (v := .int (nI (100 + so.getD a1k 0))) at_X3_isOtherThanRow_8 (w_shv (j := a1k) (by omega) u1 u2) rfl (by decide) rfl ?_
                            refine E_bipush (x := nI 100) at_X3_isOtherThanRow_11 (by decide) ?_
                            refine E_ic (t := 20) (b := true) at_X3_isOtherThanRow_13 rfl ((cn_ge (nI_toInt (by omega)) (nI_toInt (by omega))).trans (decide_eq_true (by omega))) ?_
                            refine E_iconst (x := nI 0) at_X3_isOtherThanRow_20 (by decide) ?_
                            exact E_iret at_X3_isOtherThanRow_21 rfl
                          refine E_callV (v := some (.int (nI 0))) (As := [.ref (49 + 2 * a1k)]) (r0 := []) (cs2 := (ww im lf s d k ls rf rz ra rn rq lt m1 m2 m3 m4 bd fc hd sz el s g fm hm so si sh ce ca td wa kp la bf oo bo pw ow tr)) at_X5_whyNoRow_15 rfl rfl (Nat.le_of_ble_eq_true rfl) rfl (ab_rvOf (w_shv (j := a1k) (by omega) u1 u2) rfl) e1 (by decide) rfl ?_
                          refine E_if (t := 23) (b := true) at_X5_whyNoRow_18 rfl (by decide) ?_
                          refine E_aload_n at_X5_whyNoRow_23 rfl ?_
                          refine E_getfield (v := .ref 31) at_X5_whyNoRow_24 w0 rfl (by decide) rfl ?_
                          refine E_iload_n at_X5_whyNoRow_27 rfl ?_
                          refine E_aalN (b := 49 + 2 * a1k) at_X5_whyNoRow_28 w31 (by omega) (w_shs (by omega)) ?_
                          have e2 : Ev ab_Z0 1 32 [.ref (49 + 2 * a1k)] (ww im lf s d k ls rf rz ra rn rq lt m1 m2 m3 m4 bd fc hd sz el s g fm hm so si sh ce ca td wa kp la bf oo bo pw ow tr) (some (.int (nI 0)), (ww im lf s d k ls rf rz ra rn rq lt m1 m2 m3 m4 bd fc hd sz el s g fm hm so si sh ce ca td wa kp la bf oo bo pw ow tr)) := by
                            refine Ef.in (md := mX3_isEmpty) (L := [some (.ref (49 + 2 * a1k))]) rfl (Nat.le_of_ble_eq_true rfl) rfl ?_
                            refine E_aload_n at_X3_isEmpty_0 rfl ?_
                            refine E_getfield (v := .int (nI (100 + so.getD a1k 0))) at_X3_isEmpty_1 (w_shv (j := a1k) (by omega) u1 u2) rfl (by decide) rfl ?_
                            refine E_iconst (x := (-1)) at_X3_isEmpty_4 (by decide) ?_
                            refine E_ic (t := 12) (b := true) at_X3_isEmpty_5 rfl ((cn_ne (nI_toInt (by omega)) (by decide : (-1 : Int32).toInt = -1)).trans (decide_eq_true (by omega))) ?_
                            refine E_iconst (x := nI 0) at_X3_isEmpty_12 (by decide) ?_
                            exact E_iret at_X3_isEmpty_13 rfl
                          refine E_callV (v := some (.int (nI 0))) (As := [.ref (49 + 2 * a1k)]) (r0 := []) (cs2 := (ww im lf s d k ls rf rz ra rn rq lt m1 m2 m3 m4 bd fc hd sz el s g fm hm so si sh ce ca td wa kp la bf oo bo pw ow tr)) at_X5_whyNoRow_29 rfl rfl (Nat.le_of_ble_eq_true rfl) rfl (ab_rvOf (w_shv (j := a1k) (by omega) u1 u2) rfl) e2 (by decide) rfl ?_
                          refine E_if (t := 39) (b := true) at_X5_whyNoRow_32 rfl (by decide) ?_
                          refine E_iconst (x := nI 0) at_X5_whyNoRow_39 (by decide) ?_
                          exact E_iret at_X5_whyNoRow_40 rfl
                        refine E_callV (v := some (.int (nI 0))) (As := [.ref 0, .int (nI a1k)]) (r0 := []) (cs2 := (ww im lf s d k ls rf rz ra rn rq lt m1 m2 m3 m4 bd fc hd sz el s g fm hm so si sh ce ca td wa kp la bf oo bo pw ow tr)) at_X5_whyNoTwos_2 rfl rfl (Nat.le_of_ble_eq_true rfl) rfl (ab_rvOf w0 rfl) e3 (by decide) rfl ?_
                        refine E_istore (L2 := [some (.ref 0), some (.int (nI a1k)), some (.int (nI a2k)), some (.int (nI 40)), some (.int (nI 0)), some (.int (nI 0))]) at_X5_whyNoTwos_5 rfl ?_
                        refine E_iload at_X5_whyNoTwos_7 rfl ?_
                        refine E_if (t := 15) (b := true) at_X5_whyNoTwos_9 rfl (by decide) ?_
                        refine E_iload_n at_X5_whyNoTwos_15 rfl ?_
                        refine E_if (t := 21) (b := true) at_X5_whyNoTwos_16 rfl ((cn_ge (nI_toInt (by omega)) (by decide : (0 : Int32).toInt = 0)).trans (decide_eq_true (by omega))) ?_
                        refine E_iload at_X5_whyNoTwos_21 rfl ?_
                        refine E_if (t := 41) (b := false) at_X5_whyNoTwos_23 rfl (by decide) ?_
                        refine E_iload_n at_X5_whyNoTwos_26 rfl ?_
                        refine E_aload_n at_X5_whyNoTwos_27 rfl ?_
                        refine E_getfield (v := .ref 31) at_X5_whyNoTwos_28 w0 rfl (by decide) rfl ?_
                        refine E_iload_n at_X5_whyNoTwos_31 rfl ?_
                        refine E_aalN (b := 49 + 2 * a1k) at_X5_whyNoTwos_32 w31 (by omega) (w_shs (by omega)) ?_
                        refine E_getfield (v := .int (nI (si.getD a1k 0))) at_X5_whyNoTwos_33 (w_shv (j := a1k) (by omega) u1 u2) rfl (by decide) rfl ?_
                        refine E_iconst (x := nI 2) at_X5_whyNoTwos_36 (by decide) ?_
                        refine E_idiv (z := nI ((si.getD a1k 0) / 2)) at_X5_whyNoTwos_37 (by decide) (pk_div (by omega) (by omega) (by omega)) ?_
                        refine E_ic (t := 43) (b := true) at_X5_whyNoTwos_38 rfl ((cn_le (nI_toInt (by omega)) (nI_toInt (by omega))).trans (decide_eq_true (by omega))) ?_
                        refine E_iload_n at_X5_whyNoTwos_43 rfl ?_
                        refine E_iload_n at_X5_whyNoTwos_44 rfl ?_
                        refine E_ic (t := 53) (b := true) at_X5_whyNoTwos_45 rfl ((cn_le (nI_toInt (by omega)) (nI_toInt (by omega))).trans (decide_eq_true (by omega))) ?_
                        refine E_iconst (x := nI 0) at_X5_whyNoTwos_53 (by decide) ?_
                        exact E_iret at_X5_whyNoTwos_54 rfl
                      refine E_callV (v := some (.int (nI 0))) (As := [.ref 0, .int (nI a1k), .int (nI a2k), .int (nI 40), .int (nI 0)]) (r0 := []) (cs2 := (ww im lf s d k ls rf rz ra rn rq lt m1 m2 m3 m4 bd fc hd sz el s g fm hm so si sh ce ca td wa kp la bf oo bo pw ow tr)) rfl rfl rfl (Nat.le_of_ble_eq_true rfl) rfl (ab_rvOf w0 rfl) e4 (by decide) rfl ?_
                      refine E_istore_n (L2 := [some (.ref 0), some (.int (nI a1k)), some (.int (nI a2k)), some (.int (nI 0)), none, none, none, none]) rfl rfl ?_
                      refine E_iload_n rfl rfl ?_
                      refine E_if (t := 20) (b := true) rfl rfl (by decide) ?_
                      refine E_aload_n rfl rfl ?_
                      refine E_getfield (v := .ref 31) rfl w0 rfl (by decide) rfl ?_
                      refine E_iload_n rfl rfl ?_
                      refine E_aalN (b := 49 + 2 * a1k) rfl w31 (by omega) (w_shs (by omega)) ?_
                      refine E_astore (L2 := [some (.ref 0), some (.int (nI a1k)), some (.int (nI a2k)), some (.int (nI 0)), some (.ref (49 + 2 * a1k)), none, none, none]) rfl rfl ?_
                      refine E_iconst (x := nI 0) rfl (by decide) ?_
                      refine E_istore (L2 := [some (.ref 0), some (.int (nI a1k)), some (.int (nI a2k)), some (.int (nI 0)), some (.ref (49 + 2 * a1k)), some (.int (nI 0)), none, none]) rfl rfl ?_
                      refine ru_cg (by omega) u2 (by omega) (l_el _ (by omega)) (by omega) ha ?_ a2k 0 (Nat.zero_add _)
                      refine E_aload_n rfl rfl ?_
                      refine E_getfield (v := .ref 32) rfl w0 rfl (by decide) rfl ?_
                      refine E_aload_n rfl rfl ?_
                      refine E_getfield (v := .ref 1) rfl w0 rfl (by decide) rfl ?_
                      refine E_aload_n rfl rfl ?_
                      refine E_getfield (v := .ref 1) rfl w0 rfl (by decide) rfl ?_
                      refine E_callV (v := some (.int (nI (qPs s 99 (qN s))))) (As := [.ref 1]) (r0 := [.ref 1, .ref 32]) (cs2 := (ww im lf s d k ls rf rz ra rn rq lt m1 m2 m3 m4 bd fc hd sz el s g fm hm so si sh ce ca td wa kp la bf oo bo pw ow tr)) rfl rfl rfl (Nat.le_of_ble_eq_true rfl) rfl (ab_rvOf w1 rfl) (sq_basin w_q1 I) (by decide) rfl ?_
                      refine E_callV (v := none) (As := [.ref 32, .ref 1, .int (nI (qPs s 99 (qN s)))]) (r0 := []) (cs2 := (ww im lf s d k (lsF (wgh s (qPs s 99 (qN s)) (qN s))) rf rz ra rn rq lt m1 m2 m3 m4 bd fc hd sz el s g fm hm so si sh ce ca td wa kp la bf oo bo pw ow tr)) rfl rfl rfl (Nat.le_of_ble_eq_true rfl) rfl (ab_rvOf w32 rfl) (w_weigh1 (m := qPs s 99 (qN s)) I (by omega) (lr.1)) (by decide) w_lens ?_
                      refine E_iconst (x := nI 1) rfl (by decide) ?_
                      refine E_istore (L2 := [some (.ref 0), some (.int (nI a1k)), some (.int (nI a2k)), some (.int (nI 0)), some (.ref (49 + 2 * a1k)), some (.int (nI 1)), none, none]) rfl rfl ?_
                      refine E_iconst (x := nI 1) rfl (by decide) ?_
                      refine E_istore (L2 := [some (.ref 0), some (.int (nI a1k)), some (.int (nI a2k)), some (.int (nI 0)), some (.ref (49 + 2 * a1k)), some (.int (nI 1)), some (.int (nI 1)), none]) rfl rfl ?_
                      refine E_iconst (x := nI 0) rfl (by decide) ?_
                      refine E_istore (L2 := [some (.ref 0), some (.int (nI a1k)), some (.int (nI a2k)), some (.int (nI 0)), some (.ref (49 + 2 * a1k)), some (.int (nI 1)), some (.int (nI 1)), some (.int (nI 0))]) rfl rfl ?_
                      refine ru_cl (m := qPs s 99 (qN s)) (by omega) u2 (by omega) (l_el _ (by omega)) (by omega) ha I ?_ a2k 0 (Nat.zero_add _)
                      refine E_iload rfl rfl ?_
                      refine E_if (t := 183) (b := true) rfl rfl ((cn_eq (nI_toInt (by omega)) (by decide : (0 : Int32).toInt = 0)).trans (decide_eq_true (by omega))) ?_
                      refine E_iconst (x := nI 0) rfl (by decide) ?_
                      refine E_iload rfl rfl ?_
                      refine E_if (t := 193) (b := false) rfl rfl ((cn_eq (nI_toInt (by omega)) (by decide : (0 : Int32).toInt = 0)).trans (decide_eq_false (by omega))) ?_
                      refine E_iconst (x := nI 2) rfl (by decide) ?_
                      refine E_goto (t := 194) rfl rfl ?_
                      refine E_ior (z := nI 2) rfl (by decide) ?_
                      exact E_iret rfl rfl
                    · show Ev ab_Z0 4 187 [.ref 65, .int (nI a1k), .int (nI a2k)] (ww im lf s d k (lsF (wgh s (qPs s 99 (qN s)) (qN s))) rf rz ra rn rq lt m1 m2 m3 m4 bd fc hd sz el s g fm hm so si sh ce ca td wa kp la bf oo bo pw ow tr) (some (.int (nI 2)), (ww im lf s d k (lsF (wgh s (qPs s 99 (qN s)) (qN s))) rf rz ra rn rq lt m1 m2 m3 m4 bd fc hd sz el s g fm hm so si sh ce ca td wa kp la (lsF (bst s (qPs s 99 (qN s)) (qN s) (2 ^ qN s))) oo bo pw ow tr))
                      refine Ev.vi (congrArg nI (by omega : ruF (ruP (bst s (qPs s 99 (qN s)) (qN s) (2 ^ qN s)) (el a1k)) a2k + 2 * ruF (ruP (qGreedy s) (el a1k)) a2k = 2)) ?_
                      refine Ef.in (md := mX6_rules) (L := [some (.ref 65), some (.int (nI a1k)), some (.int (nI a2k)), none, none, none, none, none]) rfl (Nat.le_of_ble_eq_true rfl) rfl ?_
                      refine E_aload_n rfl rfl ?_
                      refine E_iload_n rfl rfl ?_
                      refine E_iload_n rfl rfl ?_
                      refine E_bipush (x := nI 40) rfl (by decide) ?_
                      refine E_iconst (x := nI 1) rfl (by decide) ?_
                      have e6 : Ev ab_Z0 3 186 [.ref 65, .int (nI a1k), .int (nI a2k), .int (nI 40), .int (nI 1)] (ww im lf s d k (lsF (wgh s (qPs s 99 (qN s)) (qN s))) rf rz ra rn rq lt m1 m2 m3 m4 bd fc hd sz el s g fm hm so si sh ce ca td wa kp la bf oo bo pw ow tr) (some (.int (nI 0)), (ww im lf s d k (lsF (wgh s (qPs s 99 (qN s)) (qN s))) rf rz ra rn rq lt m1 m2 m3 m4 bd fc hd sz el s g fm hm so si sh ce ca td wa kp la bf oo bo pw ow tr)) := by
                        refine Ef.in (md := mX6_barsOf) (L := [some (.ref 65), some (.int (nI a1k)), some (.int (nI a2k)), some (.int (nI 40)), some (.int (nI 1)), none]) rfl (Nat.le_of_ble_eq_true rfl) rfl ?_
                        refine E_aload_n at_X6_barsOf_0 rfl ?_
                        refine E_iload_n at_X6_barsOf_1 rfl ?_
                        have e5 : Ev ab_Z0 2 142 [.ref 65, .int (nI a1k)] (ww im lf s d k (lsF (wgh s (qPs s 99 (qN s)) (qN s))) rf rz ra rn rq lt m1 m2 m3 m4 bd fc hd sz el s g fm hm so si sh ce ca td wa kp la bf oo bo pw ow tr) (some (.int (nI 0)), (ww im lf s d k (lsF (wgh s (qPs s 99 (qN s)) (qN s))) rf rz ra rn rq lt m1 m2 m3 m4 bd fc hd sz el s g fm hm so si sh ce ca td wa kp la bf oo bo pw ow tr)) := by
                          refine Ef.in (md := mX6_wanted) (L := [some (.ref 65), some (.int (nI a1k))]) rfl (Nat.le_of_ble_eq_true rfl) rfl ?_
                          refine E_aload_n at_X6_wanted_0 rfl ?_
                          refine E_iload_n at_X6_wanted_1 rfl ?_
                          refine E_callV (v := some (.int (nI 1))) (As := [.ref 65, .int (nI a1k)]) (r0 := []) (cs2 := (ww im lf s d k (lsF (wgh s (qPs s 99 (qN s)) (qN s))) rf rz ra rn rq lt m1 m2 m3 m4 bd fc hd sz el s g fm hm so si sh ce ca td wa kp la bf oo bo pw ow tr)) at_X6_wanted_2 rfl rfl (Nat.le_of_ble_eq_true rfl) rfl (ab_rvOf w65 rfl) (L40_X6_isShelf (by omega) (by omega) (by omega)) (by decide) rfl ?_
                          refine E_if (t := 12) (b := true) at_X6_wanted_5 rfl (by decide) ?_
                          refine E_aload_n at_X6_wanted_12 rfl ?_
                          refine E_getfield (v := .ref 76) at_X6_wanted_13 w65 rfl (by decide) rfl ?_
                          refine E_iload_n at_X6_wanted_16 rfl ?_
                          refine E_ialN (l := hm) (v := hm.getD a1k 0) at_X6_wanted_17 w76 (by omega) (by omega) rfl ?_
                          refine E_iconst (x := nI 2) at_X6_wanted_18 (by decide) ?_
                          refine E_ic (t := 27) (b := true) at_X6_wanted_19 rfl ((cn_ne (nI_toInt (by omega)) (nI_toInt (by omega))).trans (decide_eq_true (by omega))) ?_
                          refine E_aload_n at_X6_wanted_27 rfl ?_
                          refine E_getfield (v := .ref 76) at_X6_wanted_28 w65 rfl (by decide) rfl ?_
                          refine E_iload_n at_X6_wanted_31 rfl ?_
                          refine E_ialN (l := hm) (v := hm.getD a1k 0) at_X6_wanted_32 w76 (by omega) (by omega) rfl ?_
                          refine E_if (t := 41) (b := true) at_X6_wanted_33 rfl ((cn_ne (nI_toInt (by omega)) (by decide : (0 : Int32).toInt = 0)).trans (decide_eq_true (by omega))) ?_
                          refine E_iconst (x := nI 0) at_X6_wanted_41 (by decide) ?_
                          exact E_iret at_X6_wanted_42 rfl
                        refine E_callV (v := some (.int (nI 0))) (As := [.ref 65, .int (nI a1k)]) (r0 := []) (cs2 := (ww im lf s d k (lsF (wgh s (qPs s 99 (qN s)) (qN s))) rf rz ra rn rq lt m1 m2 m3 m4 bd fc hd sz el s g fm hm so si sh ce ca td wa kp la bf oo bo pw ow tr)) at_X6_barsOf_2 rfl rfl (Nat.le_of_ble_eq_true rfl) rfl (ab_rvOf w65 rfl) e5 (by decide) rfl ?_
                        refine E_istore (L2 := [some (.ref 65), some (.int (nI a1k)), some (.int (nI a2k)), some (.int (nI 40)), some (.int (nI 1)), some (.int (nI 0))]) at_X6_barsOf_5 rfl ?_
                        refine E_iload at_X6_barsOf_7 rfl ?_
                        refine E_if (t := 17) (b := true) at_X6_barsOf_9 rfl (by decide) ?_
                        refine E_iload_n at_X6_barsOf_17 rfl ?_
                        refine E_if (t := 26) (b := true) at_X6_barsOf_18 rfl ((cn_ge (nI_toInt (by omega)) (by decide : (0 : Int32).toInt = 0)).trans (decide_eq_true (by omega))) ?_
                        refine E_iload_n at_X6_barsOf_26 rfl ?_
                        refine E_aload_n at_X6_barsOf_27 rfl ?_
                        refine E_getfield (v := .ref 78) at_X6_barsOf_28 w65 rfl (by decide) rfl ?_
                        refine E_iload_n at_X6_barsOf_31 rfl ?_
                        refine E_ialN (l := si) (v := si.getD a1k 0) at_X6_barsOf_32 w78 (by omega) (by omega) rfl ?_
                        refine E_iconst (x := nI 2) at_X6_barsOf_33 (by decide) ?_
                        refine E_idiv (z := nI ((si.getD a1k 0) / 2)) at_X6_barsOf_34 (by decide) (pk_div (by omega) (by omega) (by omega)) ?_
                        refine E_ic (t := 43) (b := false) at_X6_barsOf_35 rfl ((cn_gt (nI_toInt (by omega)) (nI_toInt (by omega))).trans (decide_eq_false (by omega))) ?_
                        refine E_iload at_X6_barsOf_38 rfl ?_
                        refine E_if (t := 48) (b := true) at_X6_barsOf_40 rfl (by decide) ?_
                        refine E_iload_n at_X6_barsOf_48 rfl ?_
                        refine E_iload_n at_X6_barsOf_49 rfl ?_
                        refine E_ic (t := 58) (b := true) at_X6_barsOf_50 rfl ((cn_le (nI_toInt (by omega)) (nI_toInt (by omega))).trans (decide_eq_true (by omega))) ?_
                        refine E_iconst (x := nI 0) at_X6_barsOf_58 (by decide) ?_
                        exact E_iret at_X6_barsOf_59 rfl
                      refine E_callV (v := some (.int (nI 0))) (As := [.ref 65, .int (nI a1k), .int (nI a2k), .int (nI 40), .int (nI 1)]) (r0 := []) (cs2 := (ww im lf s d k (lsF (wgh s (qPs s 99 (qN s)) (qN s))) rf rz ra rn rq lt m1 m2 m3 m4 bd fc hd sz el s g fm hm so si sh ce ca td wa kp la bf oo bo pw ow tr)) rfl rfl rfl (Nat.le_of_ble_eq_true rfl) rfl (ab_rvOf w65 rfl) e6 (by decide) rfl ?_
                      refine E_istore_n (L2 := [some (.ref 65), some (.int (nI a1k)), some (.int (nI a2k)), some (.int (nI 0)), none, none, none, none]) rfl rfl ?_
                      refine E_iconst (x := nI 0) rfl (by decide) ?_
                      refine E_istore (L2 := [some (.ref 65), some (.int (nI a1k)), some (.int (nI a2k)), some (.int (nI 0)), some (.int (nI 0)), none, none, none]) rfl rfl ?_
                      refine ru_mg (by omega) u2 (by omega) (l_el _ (by omega)) (by omega) (lr.2.2.2.2.2.2.2.2.2.1) u6 ha ?_ a2k 0 (Nat.zero_add _)
                      refine E_iload_n rfl rfl ?_
                      refine E_if (t := 61) (b := true) rfl rfl (by decide) ?_
                      refine E_aload_n rfl rfl ?_
                      refine E_aload_n rfl rfl ?_
                      refine E_bipush (x := nI 99) rfl (by decide) ?_
                      refine E_callV (v := some (.int (nI (qPs s 99 (qN s))))) (As := [.ref 65, .int (nI 99)]) (r0 := [.ref 65]) (cs2 := (ww im lf s d k (lsF (wgh s (qPs s 99 (qN s)) (qN s))) rf rz ra rn rq lt m1 m2 m3 m4 bd fc hd sz el s g fm hm so si sh ce ca td wa kp la bf oo bo pw ow tr)) rfl rfl rfl (Nat.le_of_ble_eq_true rfl) rfl (ab_rvOf w65 rfl) (mo_piecesOf w_m I (by omega)) (by decide) rfl ?_
                      refine E_callV (v := none) (As := [.ref 65, .int (nI (qPs s 99 (qN s)))]) (r0 := []) (cs2 := (ww im lf s d k (lsF (wgh s (qPs s 99 (qN s)) (qN s))) rf rz ra rn rq lt m1 m2 m3 m4 bd fc hd sz el s g fm hm so si sh ce ca td wa kp la (lsF (bst s (qPs s 99 (qN s)) (qN s) (2 ^ qN s))) oo bo pw ow tr)) rfl rfl rfl (Nat.le_of_ble_eq_true rfl) rfl (ab_rvOf w65 rfl) (w_best (m := qPs s 99 (qN s)) I (by omega) (lr.2.2.2.2.2.2.2.2.2.2.2.2.2.2.2.1)) (by decide) w_lens ?_
                      refine E_iconst (x := nI 3) rfl (by decide) ?_
                      refine E_istore (L2 := [some (.ref 65), some (.int (nI a1k)), some (.int (nI a2k)), some (.int (nI 0)), some (.int (nI 3)), none, none, none]) rfl rfl ?_
                      refine E_iconst (x := nI 0) rfl (by decide) ?_
                      refine E_istore (L2 := [some (.ref 65), some (.int (nI a1k)), some (.int (nI a2k)), some (.int (nI 0)), some (.int (nI 3)), some (.int (nI 0)), none, none]) rfl rfl ?_
                      exact ru_ml (m := qPs s 99 (qN s)) (by omega) u2 (by omega) (l_el _ (by omega)) (by omega) (by omega) ha (lr.2.2.2.2.2.2.2.2.2.1) u6 I a2k 0 none none (Nat.zero_add _)
                    · exact ⟨I, rfl, hf, iQ, iM, iT, iS, l_el, (lsF_len _), (lr.2.1), (lr.2.2.1), (lr.2.2.2.1), (lr.2.2.2.2.1), (lr.2.2.2.2.2.1), (lr.2.2.2.2.2.2.1), (lr.2.2.2.2.2.2.2.1), (lr.2.2.2.2.2.2.2.2.1), (lr.2.2.2.2.2.2.2.2.2.1), (lr.2.2.2.2.2.2.2.2.2.2.1), (lr.2.2.2.2.2.2.2.2.2.2.2.1), (lr.2.2.2.2.2.2.2.2.2.2.2.2.1), (lr.2.2.2.2.2.2.2.2.2.2.2.2.2.1), (lr.2.2.2.2.2.2.2.2.2.2.2.2.2.2.1), (lsF_len _), (lr.2.2.2.2.2.2.2.2.2.2.2.2.2.2.2.2.1), (lr.2.2.2.2.2.2.2.2.2.2.2.2.2.2.2.2.2.1), (lr.2.2.2.2.2.2.2.2.2.2.2.2.2.2.2.2.2.2.1), (lr.2.2.2.2.2.2.2.2.2.2.2.2.2.2.2.2.2.2.2.1), (lr.2.2.2.2.2.2.2.2.2.2.2.2.2.2.2.2.2.2.2.2)⟩
                · by_cases f8 : (ruF (ruP (qGreedy s) (el a1k)) a2k) = 0
                  · have := qPs_in s 99 (i := qN s) (by omega)
                    have := ruF_01 (ruP (bst s (qPs s 99 (qN s)) (qN s) (2 ^ qN s)) (el a1k)) a2k
                    have := ruF_01 (ruP (qGreedy s) (el a1k)) a2k
                    refine ⟨(nI 1), (im, lf, s, d, k, (lsF (wgh s (qPs s 99 (qN s)) (qN s))), rf, rz, ra, rn, rq, lt, m1, m2, m3, m4, bd, fc, hd, sz, el, s, g, fm, hm, so, si, sh, ce, ca, td, wa, kp, la, bf, oo, bo, pw, ow, tr), (im, lf, s, d, k, (lsF (wgh s (qPs s 99 (qN s)) (qN s))), rf, rz, ra, rn, rq, lt, m1, m2, m3, m4, bd, fc, hd, sz, el, s, g, fm, hm, so, si, sh, ce, ca, td, wa, kp, la, (lsF (bst s (qPs s 99 (qN s)) (qN s) (2 ^ qN s))), oo, bo, pw, ow, tr), ?_, ?_, ?_⟩
                    · show Ev ab_Z0 5 99 [.ref 0, .int (nI a1k), .int (nI a2k)] (ww im lf s d k ls rf rz ra rn rq lt m1 m2 m3 m4 bd fc hd sz el s g fm hm so si sh ce ca td wa kp la bf oo bo pw ow tr) (some (.int (nI 1)), (ww im lf s d k (lsF (wgh s (qPs s 99 (qN s)) (qN s))) rf rz ra rn rq lt m1 m2 m3 m4 bd fc hd sz el s g fm hm so si sh ce ca td wa kp la bf oo bo pw ow tr))
                      refine Ef.in (md := mX5_rules) (L := [some (.ref 0), some (.int (nI a1k)), some (.int (nI a2k)), none, none, none, none, none]) rfl (Nat.le_of_ble_eq_true rfl) rfl ?_
                      refine E_aload_n rfl rfl ?_
                      refine E_iload_n rfl rfl ?_
                      refine E_iload_n rfl rfl ?_
                      refine E_bipush (x := nI 40) rfl (by decide) ?_
                      refine E_iconst (x := nI 0) rfl (by decide) ?_
                      have e4 : Ev ab_Z0 3 120 [.ref 0, .int (nI a1k), .int (nI a2k), .int (nI 40), .int (nI 0)] (ww im lf s d k ls rf rz ra rn rq lt m1 m2 m3 m4 bd fc hd sz el s g fm hm so si sh ce ca td wa kp la bf oo bo pw ow tr) (some (.int (nI 0)), (ww im lf s d k ls rf rz ra rn rq lt m1 m2 m3 m4 bd fc hd sz el s g fm hm so si sh ce ca td wa kp la bf oo bo pw ow tr)) := by
                        refine Ef.in (md := mX5_whyNoTwos) (L := [some (.ref 0), some (.int (nI a1k)), some (.int (nI a2k)), some (.int (nI 40)), some (.int (nI 0)), none]) rfl (Nat.le_of_ble_eq_true rfl) rfl ?_
                        refine E_aload_n at_X5_whyNoTwos_0 rfl ?_
                        refine E_iload_n at_X5_whyNoTwos_1 rfl ?_
                        have e3 : Ev ab_Z0 2 119 [.ref 0, .int (nI a1k)] (ww im lf s d k ls rf rz ra rn rq lt m1 m2 m3 m4 bd fc hd sz el s g fm hm so si sh ce ca td wa kp la bf oo bo pw ow tr) (some (.int (nI 0)), (ww im lf s d k ls rf rz ra rn rq lt m1 m2 m3 m4 bd fc hd sz el s g fm hm so si sh ce ca td wa kp la bf oo bo pw ow tr)) := by
                          refine Ef.in (md := mX5_whyNoRow) (L := [some (.ref 0), some (.int (nI a1k))]) rfl (Nat.le_of_ble_eq_true rfl) rfl ?_
                          refine E_iload_n at_X5_whyNoRow_0 rfl ?_
                          refine E_callS (v := some (.int (nI 1))) (As := [.int (nI a1k)]) (r0 := []) (cs2 := (ww im lf s d k ls rf rz ra rn rq lt m1 m2 m3 m4 bd fc hd sz el s g fm hm so si sh ce ca td wa kp la bf oo bo pw ow tr)) at_X5_whyNoRow_1 rfl rfl (Nat.le_of_ble_eq_true rfl) rfl (L39_X5_isShelf (by omega) (by omega) (by omega)) (by decide) rfl ?_
                          refine E_if (t := 9) (b := true) at_X5_whyNoRow_4 rfl (by decide) ?_
                          refine E_aload_n at_X5_whyNoRow_9 rfl ?_
                          refine E_getfield (v := .ref 31) at_X5_whyNoRow_10 w0 rfl (by decide) rfl ?_
                          refine E_iload_n at_X5_whyNoRow_13 rfl ?_
                          refine E_aalN (b := 49 + 2 * a1k) at_X5_whyNoRow_14 w31 (by omega) (w_shs (by omega)) ?_
                          have e1 : Ev ab_Z0 1 33 [.ref (49 + 2 * a1k)] (ww im lf s d k ls rf rz ra rn rq lt m1 m2 m3 m4 bd fc hd sz el s g fm hm so si sh ce ca td wa kp la bf oo bo pw ow tr) (some (.int (nI 0)), (ww im lf s d k ls rf rz ra rn rq lt m1 m2 m3 m4 bd fc hd sz el s g fm hm so si sh ce ca td wa kp la bf oo bo pw ow tr)) := by
                            refine Ef.in (md := mX3_isOtherThanRow) (L := [some (.ref (49 + 2 * a1k))]) rfl (Nat.le_of_ble_eq_true rfl) rfl ?_
                            refine E_aload_n at_X3_isOtherThanRow_0 rfl ?_
                            refine E_getfield (v := .int (nI (100 + so.getD a1k 0))) at_X3_isOtherThanRow_1 (w_shv (j := a1k) (by omega) u1 u2) rfl (by decide) rfl ?_
                            refine E_if (t := 20) (b := false) at_X3_isOtherThanRow_4 rfl ((cn_lt (nI_toInt (by omega)) (by decide : (0 : Int32).toInt = 0)).trans (decide_eq_false (by omega))) ?_
                            refine E_aload_n at_X3_isOtherThanRow_7 rfl ?_
                            refine E_getfield (v := .int (nI (100 + so.getD a1k 0))) at_X3_isOtherThanRow_8 (w_shv (j := a1k) (by omega) u1 u2) rfl (by decide) rfl ?_
                            refine E_bipush (x := nI 100) at_X3_isOtherThanRow_11 (by decide) ?_
                            refine E_ic (t := 20) (b := true) at_X3_isOtherThanRow_13 rfl ((cn_ge (nI_toInt (by omega)) (nI_toInt (by omega))).trans (decide_eq_true (by omega))) ?_
                            refine E_iconst (x := nI 0) at_X3_isOtherThanRow_20 (by decide) ?_
                            exact E_iret at_X3_isOtherThanRow_21 rfl
                          refine E_callV (v := some (.int (nI 0))) (As := [.ref (49 + 2 * a1k)]) (r0 := []) (cs2 := (ww im lf s d k ls rf rz ra rn rq lt m1 m2 m3 m4 bd fc hd sz el s g fm hm so si sh ce ca td wa kp la bf oo bo pw ow tr)) at_X5_whyNoRow_15 rfl rfl (Nat.le_of_ble_eq_true rfl) rfl (ab_rvOf (w_shv (j := a1k) (by omega) u1 u2) rfl) e1 (by decide) rfl ?_
                          refine E_if (t := 23) (b := true) at_X5_whyNoRow_18 rfl (by decide) ?_
                          refine E_aload_n at_X5_whyNoRow_23 rfl ?_
                          refine E_getfield (v := .ref 31) at_X5_whyNoRow_24 w0 rfl (by decide) rfl ?_
                          refine E_iload_n at_X5_whyNoRow_27 rfl ?_
                          refine E_aalN (b := 49 + 2 * a1k) at_X5_whyNoRow_28 w31 (by omega) (w_shs (by omega)) ?_
                          have e2 : Ev ab_Z0 1 32 [.ref (49 + 2 * a1k)] (ww im lf s d k ls rf rz ra rn rq lt m1 m2 m3 m4 bd fc hd sz el s g fm hm so si sh ce ca td wa kp la bf oo bo pw ow tr) (some (.int (nI 0)), (ww im lf s d k ls rf rz ra rn rq lt m1 m2 m3 m4 bd fc hd sz el s g fm hm so si sh ce ca td wa kp la bf oo bo pw ow tr)) := by
                            refine Ef.in (md := mX3_isEmpty) (L := [some (.ref (49 + 2 * a1k))]) rfl (Nat.le_of_ble_eq_true rfl) rfl ?_
                            refine E_aload_n at_X3_isEmpty_0 rfl ?_
                            refine E_getfield (v := .int (nI (100 + so.getD a1k 0))) at_X3_isEmpty_1 (w_shv (j := a1k) (by omega) u1 u2) rfl (by decide) rfl ?_
                            refine E_iconst (x := (-1)) at_X3_isEmpty_4 (by decide) ?_
                            refine E_ic (t := 12) (b := true) at_X3_isEmpty_5 rfl ((cn_ne (nI_toInt (by omega)) (by decide : (-1 : Int32).toInt = -1)).trans (decide_eq_true (by omega))) ?_
                            refine E_iconst (x := nI 0) at_X3_isEmpty_12 (by decide) ?_
                            exact E_iret at_X3_isEmpty_13 rfl
                          refine E_callV (v := some (.int (nI 0))) (As := [.ref (49 + 2 * a1k)]) (r0 := []) (cs2 := (ww im lf s d k ls rf rz ra rn rq lt m1 m2 m3 m4 bd fc hd sz el s g fm hm so si sh ce ca td wa kp la bf oo bo pw ow tr)) at_X5_whyNoRow_29 rfl rfl (Nat.le_of_ble_eq_true rfl) rfl (ab_rvOf (w_shv (j := a1k) (by omega) u1 u2) rfl) e2 (by decide) rfl ?_
                          refine E_if (t := 39) (b := true) at_X5_whyNoRow_32 rfl (by decide) ?_
                          refine E_iconst (x := nI 0) at_X5_whyNoRow_39 (by decide) ?_
                          exact E_iret at_X5_whyNoRow_40 rfl
                        refine E_callV (v := some (.int (nI 0))) (As := [.ref 0, .int (nI a1k)]) (r0 := []) (cs2 := (ww im lf s d k ls rf rz ra rn rq lt m1 m2 m3 m4 bd fc hd sz el s g fm hm so si sh ce ca td wa kp la bf oo bo pw ow tr)) at_X5_whyNoTwos_2 rfl rfl (Nat.le_of_ble_eq_true rfl) rfl (ab_rvOf w0 rfl) e3 (by decide) rfl ?_
                        refine E_istore (L2 := [some (.ref 0), some (.int (nI a1k)), some (.int (nI a2k)), some (.int (nI 40)), some (.int (nI 0)), some (.int (nI 0))]) at_X5_whyNoTwos_5 rfl ?_
                        refine E_iload at_X5_whyNoTwos_7 rfl ?_
                        refine E_if (t := 15) (b := true) at_X5_whyNoTwos_9 rfl (by decide) ?_
                        refine E_iload_n at_X5_whyNoTwos_15 rfl ?_
                        refine E_if (t := 21) (b := true) at_X5_whyNoTwos_16 rfl ((cn_ge (nI_toInt (by omega)) (by decide : (0 : Int32).toInt = 0)).trans (decide_eq_true (by omega))) ?_
                        refine E_iload at_X5_whyNoTwos_21 rfl ?_
                        refine E_if (t := 41) (b := false) at_X5_whyNoTwos_23 rfl (by decide) ?_
                        refine E_iload_n at_X5_whyNoTwos_26 rfl ?_
                        refine E_aload_n at_X5_whyNoTwos_27 rfl ?_
                        refine E_getfield (v := .ref 31) at_X5_whyNoTwos_28 w0 rfl (by decide) rfl ?_
                        refine E_iload_n at_X5_whyNoTwos_31 rfl ?_
                        refine E_aalN (b := 49 + 2 * a1k) at_X5_whyNoTwos_32 w31 (by omega) (w_shs (by omega)) ?_
                        refine E_getfield (v := .int (nI (si.getD a1k 0))) at_X5_whyNoTwos_33 (w_shv (j := a1k) (by omega) u1 u2) rfl (by decide) rfl ?_
                        refine E_iconst (x := nI 2) at_X5_whyNoTwos_36 (by decide) ?_
                        refine E_idiv (z := nI ((si.getD a1k 0) / 2)) at_X5_whyNoTwos_37 (by decide) (pk_div (by omega) (by omega) (by omega)) ?_
                        refine E_ic (t := 43) (b := true) at_X5_whyNoTwos_38 rfl ((cn_le (nI_toInt (by omega)) (nI_toInt (by omega))).trans (decide_eq_true (by omega))) ?_
                        refine E_iload_n at_X5_whyNoTwos_43 rfl ?_
                        refine E_iload_n at_X5_whyNoTwos_44 rfl ?_
                        refine E_ic (t := 53) (b := true) at_X5_whyNoTwos_45 rfl ((cn_le (nI_toInt (by omega)) (nI_toInt (by omega))).trans (decide_eq_true (by omega))) ?_
                        refine E_iconst (x := nI 0) at_X5_whyNoTwos_53 (by decide) ?_
                        exact E_iret at_X5_whyNoTwos_54 rfl
                      refine E_callV (v := some (.int (nI 0))) (As := [.ref 0, .int (nI a1k), .int (nI a2k), .int (nI 40), .int (nI 0)]) (r0 := []) (cs2 := (ww im lf s d k ls rf rz ra rn rq lt m1 m2 m3 m4 bd fc hd sz el s g fm hm so si sh ce ca td wa kp la bf oo bo pw ow tr)) rfl rfl rfl (Nat.le_of_ble_eq_true rfl) rfl (ab_rvOf w0 rfl) e4 (by decide) rfl ?_
                      refine E_istore_n (L2 := [some (.ref 0), some (.int (nI a1k)), some (.int (nI a2k)), some (.int (nI 0)), none, none, none, none]) rfl rfl ?_
                      refine E_iload_n rfl rfl ?_
                      refine E_if (t := 20) (b := true) rfl rfl (by decide) ?_
                      refine E_aload_n rfl rfl ?_
                      refine E_getfield (v := .ref 31) rfl w0 rfl (by decide) rfl ?_
                      refine E_iload_n rfl rfl ?_
                      refine E_aalN (b := 49 + 2 * a1k) rfl w31 (by omega) (w_shs (by omega)) ?_
                      refine E_astore (L2 := [some (.ref 0), some (.int (nI a1k)), some (.int (nI a2k)), some (.int (nI 0)), some (.ref (49 + 2 * a1k)), none, none, none]) rfl rfl ?_
                      refine E_iconst (x := nI 0) rfl (by decide) ?_
                      refine E_istore (L2 := [some (.ref 0), some (.int (nI a1k)), some (.int (nI a2k)), some (.int (nI 0)), some (.ref (49 + 2 * a1k)), some (.int (nI 0)), none, none]) rfl rfl ?_
                      refine ru_cg (by omega) u2 (by omega) (l_el _ (by omega)) (by omega) ha ?_ a2k 0 (Nat.zero_add _)
                      refine E_aload_n rfl rfl ?_
                      refine E_getfield (v := .ref 32) rfl w0 rfl (by decide) rfl ?_
                      refine E_aload_n rfl rfl ?_
                      refine E_getfield (v := .ref 1) rfl w0 rfl (by decide) rfl ?_
                      refine E_aload_n rfl rfl ?_
                      refine E_getfield (v := .ref 1) rfl w0 rfl (by decide) rfl ?_
                      refine E_callV (v := some (.int (nI (qPs s 99 (qN s))))) (As := [.ref 1]) (r0 := [.ref 1, .ref 32]) (cs2 := (ww im lf s d k ls rf rz ra rn rq lt m1 m2 m3 m4 bd fc hd sz el s g fm hm so si sh ce ca td wa kp la bf oo bo pw ow tr)) rfl rfl rfl (Nat.le_of_ble_eq_true rfl) rfl (ab_rvOf w1 rfl) (sq_basin w_q1 I) (by decide) rfl ?_
                      refine E_callV (v := none) (As := [.ref 32, .ref 1, .int (nI (qPs s 99 (qN s)))]) (r0 := []) (cs2 := (ww im lf s d k (lsF (wgh s (qPs s 99 (qN s)) (qN s))) rf rz ra rn rq lt m1 m2 m3 m4 bd fc hd sz el s g fm hm so si sh ce ca td wa kp la bf oo bo pw ow tr)) rfl rfl rfl (Nat.le_of_ble_eq_true rfl) rfl (ab_rvOf w32 rfl) (w_weigh1 (m := qPs s 99 (qN s)) I (by omega) (lr.1)) (by decide) w_lens ?_
                      refine E_iconst (x := nI 1) rfl (by decide) ?_
                      refine E_istore (L2 := [some (.ref 0), some (.int (nI a1k)), some (.int (nI a2k)), some (.int (nI 0)), some (.ref (49 + 2 * a1k)), some (.int (nI 1)), none, none]) rfl rfl ?_
                      refine E_iconst (x := nI 1) rfl (by decide) ?_
                      refine E_istore (L2 := [some (.ref 0), some (.int (nI a1k)), some (.int (nI a2k)), some (.int (nI 0)), some (.ref (49 + 2 * a1k)), some (.int (nI 1)), some (.int (nI 1)), none]) rfl rfl ?_
                      refine E_iconst (x := nI 0) rfl (by decide) ?_
                      refine E_istore (L2 := [some (.ref 0), some (.int (nI a1k)), some (.int (nI a2k)), some (.int (nI 0)), some (.ref (49 + 2 * a1k)), some (.int (nI 1)), some (.int (nI 1)), some (.int (nI 0))]) rfl rfl ?_
                      refine ru_cl (m := qPs s 99 (qN s)) (by omega) u2 (by omega) (l_el _ (by omega)) (by omega) ha I ?_ a2k 0 (Nat.zero_add _)
                      refine E_iload rfl rfl ?_
                      refine E_if (t := 183) (b := false) rfl rfl ((cn_eq (nI_toInt (by omega)) (by decide : (0 : Int32).toInt = 0)).trans (decide_eq_false (by omega))) ?_
                      refine E_iconst (x := nI 1) rfl (by decide) ?_
                      refine E_goto (t := 184) rfl rfl ?_
                      refine E_iload rfl rfl ?_
                      refine E_if (t := 193) (b := true) rfl rfl ((cn_eq (nI_toInt (by omega)) (by decide : (0 : Int32).toInt = 0)).trans (decide_eq_true (by omega))) ?_
                      refine E_iconst (x := nI 0) rfl (by decide) ?_
                      refine E_ior (z := nI 1) rfl (by decide) ?_
                      exact E_iret rfl rfl
                    · show Ev ab_Z0 4 187 [.ref 65, .int (nI a1k), .int (nI a2k)] (ww im lf s d k (lsF (wgh s (qPs s 99 (qN s)) (qN s))) rf rz ra rn rq lt m1 m2 m3 m4 bd fc hd sz el s g fm hm so si sh ce ca td wa kp la bf oo bo pw ow tr) (some (.int (nI 1)), (ww im lf s d k (lsF (wgh s (qPs s 99 (qN s)) (qN s))) rf rz ra rn rq lt m1 m2 m3 m4 bd fc hd sz el s g fm hm so si sh ce ca td wa kp la (lsF (bst s (qPs s 99 (qN s)) (qN s) (2 ^ qN s))) oo bo pw ow tr))
                      refine Ev.vi (congrArg nI (by omega : ruF (ruP (bst s (qPs s 99 (qN s)) (qN s) (2 ^ qN s)) (el a1k)) a2k + 2 * ruF (ruP (qGreedy s) (el a1k)) a2k = 1)) ?_
                      refine Ef.in (md := mX6_rules) (L := [some (.ref 65), some (.int (nI a1k)), some (.int (nI a2k)), none, none, none, none, none]) rfl (Nat.le_of_ble_eq_true rfl) rfl ?_
                      refine E_aload_n rfl rfl ?_
                      refine E_iload_n rfl rfl ?_
                      refine E_iload_n rfl rfl ?_
                      refine E_bipush (x := nI 40) rfl (by decide) ?_
                      refine E_iconst (x := nI 1) rfl (by decide) ?_
                      have e6 : Ev ab_Z0 3 186 [.ref 65, .int (nI a1k), .int (nI a2k), .int (nI 40), .int (nI 1)] (ww im lf s d k (lsF (wgh s (qPs s 99 (qN s)) (qN s))) rf rz ra rn rq lt m1 m2 m3 m4 bd fc hd sz el s g fm hm so si sh ce ca td wa kp la bf oo bo pw ow tr) (some (.int (nI 0)), (ww im lf s d k (lsF (wgh s (qPs s 99 (qN s)) (qN s))) rf rz ra rn rq lt m1 m2 m3 m4 bd fc hd sz el s g fm hm so si sh ce ca td wa kp la bf oo bo pw ow tr)) := by
                        refine Ef.in (md := mX6_barsOf) (L := [some (.ref 65), some (.int (nI a1k)), some (.int (nI a2k)), some (.int (nI 40)), some (.int (nI 1)), none]) rfl (Nat.le_of_ble_eq_true rfl) rfl ?_
                        refine E_aload_n at_X6_barsOf_0 rfl ?_
                        refine E_iload_n at_X6_barsOf_1 rfl ?_
                        have e5 : Ev ab_Z0 2 142 [.ref 65, .int (nI a1k)] (ww im lf s d k (lsF (wgh s (qPs s 99 (qN s)) (qN s))) rf rz ra rn rq lt m1 m2 m3 m4 bd fc hd sz el s g fm hm so si sh ce ca td wa kp la bf oo bo pw ow tr) (some (.int (nI 0)), (ww im lf s d k (lsF (wgh s (qPs s 99 (qN s)) (qN s))) rf rz ra rn rq lt m1 m2 m3 m4 bd fc hd sz el s g fm hm so si sh ce ca td wa kp la bf oo bo pw ow tr)) := by
                          refine Ef.in (md := mX6_wanted) (L := [some (.ref 65), some (.int (nI a1k))]) rfl (Nat.le_of_ble_eq_true rfl) rfl ?_
                          refine E_aload_n at_X6_wanted_0 rfl ?_
                          refine E_iload_n at_X6_wanted_1 rfl ?_
                          refine E_callV (v := some (.int (nI 1))) (As := [.ref 65, .int (nI a1k)]) (r0 := []) (cs2 := (ww im lf s d k (lsF (wgh s (qPs s 99 (qN s)) (qN s))) rf rz ra rn rq lt m1 m2 m3 m4 bd fc hd sz el s g fm hm so si sh ce ca td wa kp la bf oo bo pw ow tr)) at_X6_wanted_2 rfl rfl (Nat.le_of_ble_eq_true rfl) rfl (ab_rvOf w65 rfl) (L40_X6_isShelf (by omega) (by omega) (by omega)) (by decide) rfl ?_
                          refine E_if (t := 12) (b := true) at_X6_wanted_5 rfl (by decide) ?_
                          refine E_aload_n at_X6_wanted_12 rfl ?_
                          refine E_getfield (v := .ref 76) at_X6_wanted_13 w65 rfl (by decide) rfl ?_
                          refine E_iload_n at_X6_wanted_16 rfl ?_
                          refine E_ialN (l := hm) (v := hm.getD a1k 0) at_X6_wanted_17 w76 (by omega) (by omega) rfl ?_
                          refine E_iconst (x := nI 2) at_X6_wanted_18 (by decide) ?_
                          refine E_ic (t := 27) (b := true) at_X6_wanted_19 rfl ((cn_ne (nI_toInt (by omega)) (nI_toInt (by omega))).trans (decide_eq_true (by omega))) ?_
                          refine E_aload_n at_X6_wanted_27 rfl ?_
                          refine E_getfield (v := .ref 76) at_X6_wanted_28 w65 rfl (by decide) rfl ?_
                          refine E_iload_n at_X6_wanted_31 rfl ?_
                          refine E_ialN (l := hm) (v := hm.getD a1k 0) at_X6_wanted_32 w76 (by omega) (by omega) rfl ?_
                          refine E_if (t := 41) (b := true) at_X6_wanted_33 rfl ((cn_ne (nI_toInt (by omega)) (by decide : (0 : Int32).toInt = 0)).trans (decide_eq_true (by omega))) ?_
                          refine E_iconst (x := nI 0) at_X6_wanted_41 (by decide) ?_
                          exact E_iret at_X6_wanted_42 rfl
                        refine E_callV (v := some (.int (nI 0))) (As := [.ref 65, .int (nI a1k)]) (r0 := []) (cs2 := (ww im lf s d k (lsF (wgh s (qPs s 99 (qN s)) (qN s))) rf rz ra rn rq lt m1 m2 m3 m4 bd fc hd sz el s g fm hm so si sh ce ca td wa kp la bf oo bo pw ow tr)) at_X6_barsOf_2 rfl rfl (Nat.le_of_ble_eq_true rfl) rfl (ab_rvOf w65 rfl) e5 (by decide) rfl ?_
                        refine E_istore (L2 := [some (.ref 65), some (.int (nI a1k)), some (.int (nI a2k)), some (.int (nI 40)), some (.int (nI 1)), some (.int (nI 0))]) at_X6_barsOf_5 rfl ?_
                        refine E_iload at_X6_barsOf_7 rfl ?_
                        refine E_if (t := 17) (b := true) at_X6_barsOf_9 rfl (by decide) ?_
                        refine E_iload_n at_X6_barsOf_17 rfl ?_
                        refine E_if (t := 26) (b := true) at_X6_barsOf_18 rfl ((cn_ge (nI_toInt (by omega)) (by decide : (0 : Int32).toInt = 0)).trans (decide_eq_true (by omega))) ?_
                        refine E_iload_n at_X6_barsOf_26 rfl ?_
                        refine E_aload_n at_X6_barsOf_27 rfl ?_
                        refine E_getfield (v := .ref 78) at_X6_barsOf_28 w65 rfl (by decide) rfl ?_
                        refine E_iload_n at_X6_barsOf_31 rfl ?_
                        refine E_ialN (l := si) (v := si.getD a1k 0) at_X6_barsOf_32 w78 (by omega) (by omega) rfl ?_
                        refine E_iconst (x := nI 2) at_X6_barsOf_33 (by decide) ?_
                        refine E_idiv (z := nI ((si.getD a1k 0) / 2)) at_X6_barsOf_34 (by decide) (pk_div (by omega) (by omega) (by omega)) ?_
                        refine E_ic (t := 43) (b := false) at_X6_barsOf_35 rfl ((cn_gt (nI_toInt (by omega)) (nI_toInt (by omega))).trans (decide_eq_false (by omega))) ?_
                        refine E_iload at_X6_barsOf_38 rfl ?_
                        refine E_if (t := 48) (b := true) at_X6_barsOf_40 rfl (by decide) ?_
                        refine E_iload_n at_X6_barsOf_48 rfl ?_
                        refine E_iload_n at_X6_barsOf_49 rfl ?_
                        refine E_ic (t := 58) (b := true) at_X6_barsOf_50 rfl ((cn_le (nI_toInt (by omega)) (nI_toInt (by omega))).trans (decide_eq_true (by omega))) ?_
                        refine E_iconst (x := nI 0) at_X6_barsOf_58 (by decide) ?_
                        exact E_iret at_X6_barsOf_59 rfl
                      refine E_callV (v := some (.int (nI 0))) (As := [.ref 65, .int (nI a1k), .int (nI a2k), .int (nI 40), .int (nI 1)]) (r0 := []) (cs2 := (ww im lf s d k (lsF (wgh s (qPs s 99 (qN s)) (qN s))) rf rz ra rn rq lt m1 m2 m3 m4 bd fc hd sz el s g fm hm so si sh ce ca td wa kp la bf oo bo pw ow tr)) rfl rfl rfl (Nat.le_of_ble_eq_true rfl) rfl (ab_rvOf w65 rfl) e6 (by decide) rfl ?_
                      refine E_istore_n (L2 := [some (.ref 65), some (.int (nI a1k)), some (.int (nI a2k)), some (.int (nI 0)), none, none, none, none]) rfl rfl ?_
                      refine E_iconst (x := nI 0) rfl (by decide) ?_
                      refine E_istore (L2 := [some (.ref 65), some (.int (nI a1k)), some (.int (nI a2k)), some (.int (nI 0)), some (.int (nI 0)), none, none, none]) rfl rfl ?_
                      refine ru_mg (by omega) u2 (by omega) (l_el _ (by omega)) (by omega) (lr.2.2.2.2.2.2.2.2.2.1) u6 ha ?_ a2k 0 (Nat.zero_add _)
                      refine E_iload_n rfl rfl ?_
                      refine E_if (t := 61) (b := true) rfl rfl (by decide) ?_
                      refine E_aload_n rfl rfl ?_
                      refine E_aload_n rfl rfl ?_
                      refine E_bipush (x := nI 99) rfl (by decide) ?_
                      refine E_callV (v := some (.int (nI (qPs s 99 (qN s))))) (As := [.ref 65, .int (nI 99)]) (r0 := [.ref 65]) (cs2 := (ww im lf s d k (lsF (wgh s (qPs s 99 (qN s)) (qN s))) rf rz ra rn rq lt m1 m2 m3 m4 bd fc hd sz el s g fm hm so si sh ce ca td wa kp la bf oo bo pw ow tr)) rfl rfl rfl (Nat.le_of_ble_eq_true rfl) rfl (ab_rvOf w65 rfl) (mo_piecesOf w_m I (by omega)) (by decide) rfl ?_
                      refine E_callV (v := none) (As := [.ref 65, .int (nI (qPs s 99 (qN s)))]) (r0 := []) (cs2 := (ww im lf s d k (lsF (wgh s (qPs s 99 (qN s)) (qN s))) rf rz ra rn rq lt m1 m2 m3 m4 bd fc hd sz el s g fm hm so si sh ce ca td wa kp la (lsF (bst s (qPs s 99 (qN s)) (qN s) (2 ^ qN s))) oo bo pw ow tr)) rfl rfl rfl (Nat.le_of_ble_eq_true rfl) rfl (ab_rvOf w65 rfl) (w_best (m := qPs s 99 (qN s)) I (by omega) (lr.2.2.2.2.2.2.2.2.2.2.2.2.2.2.2.1)) (by decide) w_lens ?_
                      refine E_iconst (x := nI 3) rfl (by decide) ?_
                      refine E_istore (L2 := [some (.ref 65), some (.int (nI a1k)), some (.int (nI a2k)), some (.int (nI 0)), some (.int (nI 3)), none, none, none]) rfl rfl ?_
                      refine E_iconst (x := nI 0) rfl (by decide) ?_
                      refine E_istore (L2 := [some (.ref 65), some (.int (nI a1k)), some (.int (nI a2k)), some (.int (nI 0)), some (.int (nI 3)), some (.int (nI 0)), none, none]) rfl rfl ?_
                      exact ru_ml (m := qPs s 99 (qN s)) (by omega) u2 (by omega) (l_el _ (by omega)) (by omega) (by omega) ha (lr.2.2.2.2.2.2.2.2.2.1) u6 I a2k 0 none none (Nat.zero_add _)
                    · exact ⟨I, rfl, hf, iQ, iM, iT, iS, l_el, (lsF_len _), (lr.2.1), (lr.2.2.1), (lr.2.2.2.1), (lr.2.2.2.2.1), (lr.2.2.2.2.2.1), (lr.2.2.2.2.2.2.1), (lr.2.2.2.2.2.2.2.1), (lr.2.2.2.2.2.2.2.2.1), (lr.2.2.2.2.2.2.2.2.2.1), (lr.2.2.2.2.2.2.2.2.2.2.1), (lr.2.2.2.2.2.2.2.2.2.2.2.1), (lr.2.2.2.2.2.2.2.2.2.2.2.2.1), (lr.2.2.2.2.2.2.2.2.2.2.2.2.2.1), (lr.2.2.2.2.2.2.2.2.2.2.2.2.2.2.1), (lsF_len _), (lr.2.2.2.2.2.2.2.2.2.2.2.2.2.2.2.2.1), (lr.2.2.2.2.2.2.2.2.2.2.2.2.2.2.2.2.2.1), (lr.2.2.2.2.2.2.2.2.2.2.2.2.2.2.2.2.2.2.1), (lr.2.2.2.2.2.2.2.2.2.2.2.2.2.2.2.2.2.2.2.1), (lr.2.2.2.2.2.2.2.2.2.2.2.2.2.2.2.2.2.2.2.2)⟩
                  · have := qPs_in s 99 (i := qN s) (by omega)
                    have := ruF_01 (ruP (bst s (qPs s 99 (qN s)) (qN s) (2 ^ qN s)) (el a1k)) a2k
                    have := ruF_01 (ruP (qGreedy s) (el a1k)) a2k
                    refine ⟨(nI 3), (im, lf, s, d, k, (lsF (wgh s (qPs s 99 (qN s)) (qN s))), rf, rz, ra, rn, rq, lt, m1, m2, m3, m4, bd, fc, hd, sz, el, s, g, fm, hm, so, si, sh, ce, ca, td, wa, kp, la, bf, oo, bo, pw, ow, tr), (im, lf, s, d, k, (lsF (wgh s (qPs s 99 (qN s)) (qN s))), rf, rz, ra, rn, rq, lt, m1, m2, m3, m4, bd, fc, hd, sz, el, s, g, fm, hm, so, si, sh, ce, ca, td, wa, kp, la, (lsF (bst s (qPs s 99 (qN s)) (qN s) (2 ^ qN s))), oo, bo, pw, ow, tr), ?_, ?_, ?_⟩
                    · show Ev ab_Z0 5 99 [.ref 0, .int (nI a1k), .int (nI a2k)] (ww im lf s d k ls rf rz ra rn rq lt m1 m2 m3 m4 bd fc hd sz el s g fm hm so si sh ce ca td wa kp la bf oo bo pw ow tr) (some (.int (nI 3)), (ww im lf s d k (lsF (wgh s (qPs s 99 (qN s)) (qN s))) rf rz ra rn rq lt m1 m2 m3 m4 bd fc hd sz el s g fm hm so si sh ce ca td wa kp la bf oo bo pw ow tr))
                      refine Ef.in (md := mX5_rules) (L := [some (.ref 0), some (.int (nI a1k)), some (.int (nI a2k)), none, none, none, none, none]) rfl (Nat.le_of_ble_eq_true rfl) rfl ?_
                      refine E_aload_n rfl rfl ?_
                      refine E_iload_n rfl rfl ?_
                      refine E_iload_n rfl rfl ?_
                      refine E_bipush (x := nI 40) rfl (by decide) ?_
                      refine E_iconst (x := nI 0) rfl (by decide) ?_
                      have e4 : Ev ab_Z0 3 120 [.ref 0, .int (nI a1k), .int (nI a2k), .int (nI 40), .int (nI 0)] (ww im lf s d k ls rf rz ra rn rq lt m1 m2 m3 m4 bd fc hd sz el s g fm hm so si sh ce ca td wa kp la bf oo bo pw ow tr) (some (.int (nI 0)), (ww im lf s d k ls rf rz ra rn rq lt m1 m2 m3 m4 bd fc hd sz el s g fm hm so si sh ce ca td wa kp la bf oo bo pw ow tr)) := by
                        refine Ef.in (md := mX5_whyNoTwos) (L := [some (.ref 0), some (.int (nI a1k)), some (.int (nI a2k)), some (.int (nI 40)), some (.int (nI 0)), none]) rfl (Nat.le_of_ble_eq_true rfl) rfl ?_
                        refine E_aload_n at_X5_whyNoTwos_0 rfl ?_
                        refine E_iload_n at_X5_whyNoTwos_1 rfl ?_
                        have e3 : Ev ab_Z0 2 119 [.ref 0, .int (nI a1k)] (ww im lf s d k ls rf rz ra rn rq lt m1 m2 m3 m4 bd fc hd sz el s g fm hm so si sh ce ca td wa kp la bf oo bo pw ow tr) (some (.int (nI 0)), (ww im lf s d k ls rf rz ra rn rq lt m1 m2 m3 m4 bd fc hd sz el s g fm hm so si sh ce ca td wa kp la bf oo bo pw ow tr)) := by
                          refine Ef.in (md := mX5_whyNoRow) (L := [some (.ref 0), some (.int (nI a1k))]) rfl (Nat.le_of_ble_eq_true rfl) rfl ?_
                          refine E_iload_n at_X5_whyNoRow_0 rfl ?_
                          refine E_callS (v := some (.int (nI 1))) (As := [.int (nI a1k)]) (r0 := []) (cs2 := (ww im lf s d k ls rf rz ra rn rq lt m1 m2 m3 m4 bd fc hd sz el s g fm hm so si sh ce ca td wa kp la bf oo bo pw ow tr)) at_X5_whyNoRow_1 rfl rfl (Nat.le_of_ble_eq_true rfl) rfl (L39_X5_isShelf (by omega) (by omega) (by omega)) (by decide) rfl ?_
                          refine E_if (t := 9) (b := true) at_X5_whyNoRow_4 rfl (by decide) ?_
                          refine E_aload_n at_X5_whyNoRow_9 rfl ?_
                          refine E_getfield (v := .ref 31) at_X5_whyNoRow_10 w0 rfl (by decide) rfl ?_
                          refine E_iload_n at_X5_whyNoRow_13 rfl ?_
                          refine E_aalN (b := 49 + 2 * a1k) at_X5_whyNoRow_14 w31 (by omega) (w_shs (by omega)) ?_
                          have e1 : Ev ab_Z0 1 33 [.ref (49 + 2 * a1k)] (ww im lf s d k ls rf rz ra rn rq lt m1 m2 m3 m4 bd fc hd sz el s g fm hm so si sh ce ca td wa kp la bf oo bo pw ow tr) (some (.int (nI 0)), (ww im lf s d k ls rf rz ra rn rq lt m1 m2 m3 m4 bd fc hd sz el s g fm hm so si sh ce ca td wa kp la bf oo bo pw ow tr)) := by
                            refine Ef.in (md := mX3_isOtherThanRow) (L := [some (.ref (49 + 2 * a1k))]) rfl (Nat.le_of_ble_eq_true rfl) rfl ?_
                            refine E_aload_n at_X3_isOtherThanRow_0 rfl ?_
                            refine E_getfield (v := .int (nI (100 + so.getD a1k 0))) at_X3_isOtherThanRow_1 (w_shv (j := a1k) (by omega) u1 u2) rfl (by decide) rfl ?_
                            refine E_if (t := 20) (b := false) at_X3_isOtherThanRow_4 rfl ((cn_lt (nI_toInt (by omega)) (by decide : (0 : Int32).toInt = 0)).trans (decide_eq_false (by omega))) ?_
                            refine E_aload_n at_X3_isOtherThanRow_7 rfl ?_
                            refine E_getfield (v := .int (nI (100 + so.getD a1k 0))) at_X3_isOtherThanRow_8 (w_shv (j := a1k) (by omega) u1 u2) rfl (by decide) rfl ?_
                            refine E_bipush (x := nI 100) at_X3_isOtherThanRow_11 (by decide) ?_
                            refine E_ic (t := 20) (b := true) at_X3_isOtherThanRow_13 rfl ((cn_ge (nI_toInt (by omega)) (nI_toInt (by omega))).trans (decide_eq_true (by omega))) ?_
                            refine E_iconst (x := nI 0) at_X3_isOtherThanRow_20 (by decide) ?_
                            exact E_iret at_X3_isOtherThanRow_21 rfl
                          refine E_callV (v := some (.int (nI 0))) (As := [.ref (49 + 2 * a1k)]) (r0 := []) (cs2 := (ww im lf s d k ls rf rz ra rn rq lt m1 m2 m3 m4 bd fc hd sz el s g fm hm so si sh ce ca td wa kp la bf oo bo pw ow tr)) at_X5_whyNoRow_15 rfl rfl (Nat.le_of_ble_eq_true rfl) rfl (ab_rvOf (w_shv (j := a1k) (by omega) u1 u2) rfl) e1 (by decide) rfl ?_
                          refine E_if (t := 23) (b := true) at_X5_whyNoRow_18 rfl (by decide) ?_
                          refine E_aload_n at_X5_whyNoRow_23 rfl ?_
                          refine E_getfield (v := .ref 31) at_X5_whyNoRow_24 w0 rfl (by decide) rfl ?_
                          refine E_iload_n at_X5_whyNoRow_27 rfl ?_
                          refine E_aalN (b := 49 + 2 * a1k) at_X5_whyNoRow_28 w31 (by omega) (w_shs (by omega)) ?_
                          have e2 : Ev ab_Z0 1 32 [.ref (49 + 2 * a1k)] (ww im lf s d k ls rf rz ra rn rq lt m1 m2 m3 m4 bd fc hd sz el s g fm hm so si sh ce ca td wa kp la bf oo bo pw ow tr) (some (.int (nI 0)), (ww im lf s d k ls rf rz ra rn rq lt m1 m2 m3 m4 bd fc hd sz el s g fm hm so si sh ce ca td wa kp la bf oo bo pw ow tr)) := by
                            refine Ef.in (md := mX3_isEmpty) (L := [some (.ref (49 + 2 * a1k))]) rfl (Nat.le_of_ble_eq_true rfl) rfl ?_
                            refine E_aload_n at_X3_isEmpty_0 rfl ?_
                            refine E_getfield (v := .int (nI (100 + so.getD a1k 0))) at_X3_isEmpty_1 (w_shv (j := a1k) (by omega) u1 u2) rfl (by decide) rfl ?_
                            refine E_iconst (x := (-1)) at_X3_isEmpty_4 (by decide) ?_
                            refine E_ic (t := 12) (b := true) at_X3_isEmpty_5 rfl ((cn_ne (nI_toInt (by omega)) (by decide : (-1 : Int32).toInt = -1)).trans (decide_eq_true (by omega))) ?_
                            refine E_iconst (x := nI 0) at_X3_isEmpty_12 (by decide) ?_
                            exact E_iret at_X3_isEmpty_13 rfl
                          refine E_callV (v := some (.int (nI 0))) (As := [.ref (49 + 2 * a1k)]) (r0 := []) (cs2 := (ww im lf s d k ls rf rz ra rn rq lt m1 m2 m3 m4 bd fc hd sz el s g fm hm so si sh ce ca td wa kp la bf oo bo pw ow tr)) at_X5_whyNoRow_29 rfl rfl (Nat.le_of_ble_eq_true rfl) rfl (ab_rvOf (w_shv (j := a1k) (by omega) u1 u2) rfl) e2 (by decide) rfl ?_
                          refine E_if (t := 39) (b := true) at_X5_whyNoRow_32 rfl (by decide) ?_
                          refine E_iconst (x := nI 0) at_X5_whyNoRow_39 (by decide) ?_
                          exact E_iret at_X5_whyNoRow_40 rfl
                        refine E_callV (v := some (.int (nI 0))) (As := [.ref 0, .int (nI a1k)]) (r0 := []) (cs2 := (ww im lf s d k ls rf rz ra rn rq lt m1 m2 m3 m4 bd fc hd sz el s g fm hm so si sh ce ca td wa kp la bf oo bo pw ow tr)) at_X5_whyNoTwos_2 rfl rfl (Nat.le_of_ble_eq_true rfl) rfl (ab_rvOf w0 rfl) e3 (by decide) rfl ?_
                        refine E_istore (L2 := [some (.ref 0), some (.int (nI a1k)), some (.int (nI a2k)), some (.int (nI 40)), some (.int (nI 0)), some (.int (nI 0))]) at_X5_whyNoTwos_5 rfl ?_
                        refine E_iload at_X5_whyNoTwos_7 rfl ?_
                        refine E_if (t := 15) (b := true) at_X5_whyNoTwos_9 rfl (by decide) ?_
                        refine E_iload_n at_X5_whyNoTwos_15 rfl ?_
                        refine E_if (t := 21) (b := true) at_X5_whyNoTwos_16 rfl ((cn_ge (nI_toInt (by omega)) (by decide : (0 : Int32).toInt = 0)).trans (decide_eq_true (by omega))) ?_
                        refine E_iload at_X5_whyNoTwos_21 rfl ?_
                        refine E_if (t := 41) (b := false) at_X5_whyNoTwos_23 rfl (by decide) ?_
                        refine E_iload_n at_X5_whyNoTwos_26 rfl ?_
                        refine E_aload_n at_X5_whyNoTwos_27 rfl ?_
                        refine E_getfield (v := .ref 31) at_X5_whyNoTwos_28 w0 rfl (by decide) rfl ?_
                        refine E_iload_n at_X5_whyNoTwos_31 rfl ?_
                        refine E_aalN (b := 49 + 2 * a1k) at_X5_whyNoTwos_32 w31 (by omega) (w_shs (by omega)) ?_
                        refine E_getfield (v := .int (nI (si.getD a1k 0))) at_X5_whyNoTwos_33 (w_shv (j := a1k) (by omega) u1 u2) rfl (by decide) rfl ?_
                        refine E_iconst (x := nI 2) at_X5_whyNoTwos_36 (by decide) ?_
                        refine E_idiv (z := nI ((si.getD a1k 0) / 2)) at_X5_whyNoTwos_37 (by decide) (pk_div (by omega) (by omega) (by omega)) ?_
                        refine E_ic (t := 43) (b := true) at_X5_whyNoTwos_38 rfl ((cn_le (nI_toInt (by omega)) (nI_toInt (by omega))).trans (decide_eq_true (by omega))) ?_
                        refine E_iload_n at_X5_whyNoTwos_43 rfl ?_
                        refine E_iload_n at_X5_whyNoTwos_44 rfl ?_
                        refine E_ic (t := 53) (b := true) at_X5_whyNoTwos_45 rfl ((cn_le (nI_toInt (by omega)) (nI_toInt (by omega))).trans (decide_eq_true (by omega))) ?_
                        refine E_iconst (x := nI 0) at_X5_whyNoTwos_53 (by decide) ?_
                        exact E_iret at_X5_whyNoTwos_54 rfl
                      refine E_callV (v := some (.int (nI 0))) (As := [.ref 0, .int (nI a1k), .int (nI a2k), .int (nI 40), .int (nI 0)]) (r0 := []) (cs2 := (ww im lf s d k ls rf rz ra rn rq lt m1 m2 m3 m4 bd fc hd sz el s g fm hm so si sh ce ca td wa kp la bf oo bo pw ow tr)) rfl rfl rfl (Nat.le_of_ble_eq_true rfl) rfl (ab_rvOf w0 rfl) e4 (by decide) rfl ?_
                      refine E_istore_n (L2 := [some (.ref 0), some (.int (nI a1k)), some (.int (nI a2k)), some (.int (nI 0)), none, none, none, none]) rfl rfl ?_
                      refine E_iload_n rfl rfl ?_
                      refine E_if (t := 20) (b := true) rfl rfl (by decide) ?_
                      refine E_aload_n rfl rfl ?_
                      refine E_getfield (v := .ref 31) rfl w0 rfl (by decide) rfl ?_
                      refine E_iload_n rfl rfl ?_
                      refine E_aalN (b := 49 + 2 * a1k) rfl w31 (by omega) (w_shs (by omega)) ?_
                      refine E_astore (L2 := [some (.ref 0), some (.int (nI a1k)), some (.int (nI a2k)), some (.int (nI 0)), some (.ref (49 + 2 * a1k)), none, none, none]) rfl rfl ?_
                      refine E_iconst (x := nI 0) rfl (by decide) ?_
                      refine E_istore (L2 := [some (.ref 0), some (.int (nI a1k)), some (.int (nI a2k)), some (.int (nI 0)), some (.ref (49 + 2 * a1k)), some (.int (nI 0)), none, none]) rfl rfl ?_
                      refine ru_cg (by omega) u2 (by omega) (l_el _ (by omega)) (by omega) ha ?_ a2k 0 (Nat.zero_add _)
                      refine E_aload_n rfl rfl ?_
                      refine E_getfield (v := .ref 32) rfl w0 rfl (by decide) rfl ?_
                      refine E_aload_n rfl rfl ?_
                      refine E_getfield (v := .ref 1) rfl w0 rfl (by decide) rfl ?_
                      refine E_aload_n rfl rfl ?_
                      refine E_getfield (v := .ref 1) rfl w0 rfl (by decide) rfl ?_
                      refine E_callV (v := some (.int (nI (qPs s 99 (qN s))))) (As := [.ref 1]) (r0 := [.ref 1, .ref 32]) (cs2 := (ww im lf s d k ls rf rz ra rn rq lt m1 m2 m3 m4 bd fc hd sz el s g fm hm so si sh ce ca td wa kp la bf oo bo pw ow tr)) rfl rfl rfl (Nat.le_of_ble_eq_true rfl) rfl (ab_rvOf w1 rfl) (sq_basin w_q1 I) (by decide) rfl ?_
                      refine E_callV (v := none) (As := [.ref 32, .ref 1, .int (nI (qPs s 99 (qN s)))]) (r0 := []) (cs2 := (ww im lf s d k (lsF (wgh s (qPs s 99 (qN s)) (qN s))) rf rz ra rn rq lt m1 m2 m3 m4 bd fc hd sz el s g fm hm so si sh ce ca td wa kp la bf oo bo pw ow tr)) rfl rfl rfl (Nat.le_of_ble_eq_true rfl) rfl (ab_rvOf w32 rfl) (w_weigh1 (m := qPs s 99 (qN s)) I (by omega) (lr.1)) (by decide) w_lens ?_
                      refine E_iconst (x := nI 1) rfl (by decide) ?_
                      refine E_istore (L2 := [some (.ref 0), some (.int (nI a1k)), some (.int (nI a2k)), some (.int (nI 0)), some (.ref (49 + 2 * a1k)), some (.int (nI 1)), none, none]) rfl rfl ?_
                      refine E_iconst (x := nI 1) rfl (by decide) ?_
                      refine E_istore (L2 := [some (.ref 0), some (.int (nI a1k)), some (.int (nI a2k)), some (.int (nI 0)), some (.ref (49 + 2 * a1k)), some (.int (nI 1)), some (.int (nI 1)), none]) rfl rfl ?_
                      refine E_iconst (x := nI 0) rfl (by decide) ?_
                      refine E_istore (L2 := [some (.ref 0), some (.int (nI a1k)), some (.int (nI a2k)), some (.int (nI 0)), some (.ref (49 + 2 * a1k)), some (.int (nI 1)), some (.int (nI 1)), some (.int (nI 0))]) rfl rfl ?_
                      refine ru_cl (m := qPs s 99 (qN s)) (by omega) u2 (by omega) (l_el _ (by omega)) (by omega) ha I ?_ a2k 0 (Nat.zero_add _)
                      refine E_iload rfl rfl ?_
                      refine E_if (t := 183) (b := false) rfl rfl ((cn_eq (nI_toInt (by omega)) (by decide : (0 : Int32).toInt = 0)).trans (decide_eq_false (by omega))) ?_
                      refine E_iconst (x := nI 1) rfl (by decide) ?_
                      refine E_goto (t := 184) rfl rfl ?_
                      refine E_iload rfl rfl ?_
                      refine E_if (t := 193) (b := false) rfl rfl ((cn_eq (nI_toInt (by omega)) (by decide : (0 : Int32).toInt = 0)).trans (decide_eq_false (by omega))) ?_
                      refine E_iconst (x := nI 2) rfl (by decide) ?_
                      refine E_goto (t := 194) rfl rfl ?_
                      refine E_ior (z := nI 3) rfl (by decide) ?_
                      exact E_iret rfl rfl
                    · show Ev ab_Z0 4 187 [.ref 65, .int (nI a1k), .int (nI a2k)] (ww im lf s d k (lsF (wgh s (qPs s 99 (qN s)) (qN s))) rf rz ra rn rq lt m1 m2 m3 m4 bd fc hd sz el s g fm hm so si sh ce ca td wa kp la bf oo bo pw ow tr) (some (.int (nI 3)), (ww im lf s d k (lsF (wgh s (qPs s 99 (qN s)) (qN s))) rf rz ra rn rq lt m1 m2 m3 m4 bd fc hd sz el s g fm hm so si sh ce ca td wa kp la (lsF (bst s (qPs s 99 (qN s)) (qN s) (2 ^ qN s))) oo bo pw ow tr))
                      refine Ev.vi (congrArg nI (by omega : ruF (ruP (bst s (qPs s 99 (qN s)) (qN s) (2 ^ qN s)) (el a1k)) a2k + 2 * ruF (ruP (qGreedy s) (el a1k)) a2k = 3)) ?_
                      refine Ef.in (md := mX6_rules) (L := [some (.ref 65), some (.int (nI a1k)), some (.int (nI a2k)), none, none, none, none, none]) rfl (Nat.le_of_ble_eq_true rfl) rfl ?_
                      refine E_aload_n rfl rfl ?_
                      refine E_iload_n rfl rfl ?_
                      refine E_iload_n rfl rfl ?_
                      refine E_bipush (x := nI 40) rfl (by decide) ?_
                      refine E_iconst (x := nI 1) rfl (by decide) ?_
                      have e6 : Ev ab_Z0 3 186 [.ref 65, .int (nI a1k), .int (nI a2k), .int (nI 40), .int (nI 1)] (ww im lf s d k (lsF (wgh s (qPs s 99 (qN s)) (qN s))) rf rz ra rn rq lt m1 m2 m3 m4 bd fc hd sz el s g fm hm so si sh ce ca td wa kp la bf oo bo pw ow tr) (some (.int (nI 0)), (ww im lf s d k (lsF (wgh s (qPs s 99 (qN s)) (qN s))) rf rz ra rn rq lt m1 m2 m3 m4 bd fc hd sz el s g fm hm so si sh ce ca td wa kp la bf oo bo pw ow tr)) := by
                        refine Ef.in (md := mX6_barsOf) (L := [some (.ref 65), some (.int (nI a1k)), some (.int (nI a2k)), some (.int (nI 40)), some (.int (nI 1)), none]) rfl (Nat.le_of_ble_eq_true rfl) rfl ?_
                        refine E_aload_n at_X6_barsOf_0 rfl ?_
                        refine E_iload_n at_X6_barsOf_1 rfl ?_
                        have e5 : Ev ab_Z0 2 142 [.ref 65, .int (nI a1k)] (ww im lf s d k (lsF (wgh s (qPs s 99 (qN s)) (qN s))) rf rz ra rn rq lt m1 m2 m3 m4 bd fc hd sz el s g fm hm so si sh ce ca td wa kp la bf oo bo pw ow tr) (some (.int (nI 0)), (ww im lf s d k (lsF (wgh s (qPs s 99 (qN s)) (qN s))) rf rz ra rn rq lt m1 m2 m3 m4 bd fc hd sz el s g fm hm so si sh ce ca td wa kp la bf oo bo pw ow tr)) := by
                          refine Ef.in (md := mX6_wanted) (L := [some (.ref 65), some (.int (nI a1k))]) rfl (Nat.le_of_ble_eq_true rfl) rfl ?_
                          refine E_aload_n at_X6_wanted_0 rfl ?_
                          refine E_iload_n at_X6_wanted_1 rfl ?_
                          refine E_callV (v := some (.int (nI 1))) (As := [.ref 65, .int (nI a1k)]) (r0 := []) (cs2 := (ww im lf s d k (lsF (wgh s (qPs s 99 (qN s)) (qN s))) rf rz ra rn rq lt m1 m2 m3 m4 bd fc hd sz el s g fm hm so si sh ce ca td wa kp la bf oo bo pw ow tr)) at_X6_wanted_2 rfl rfl (Nat.le_of_ble_eq_true rfl) rfl (ab_rvOf w65 rfl) (L40_X6_isShelf (by omega) (by omega) (by omega)) (by decide) rfl ?_
                          refine E_if (t := 12) (b := true) at_X6_wanted_5 rfl (by decide) ?_
                          refine E_aload_n at_X6_wanted_12 rfl ?_
                          refine E_getfield (v := .ref 76) at_X6_wanted_13 w65 rfl (by decide) rfl ?_
                          refine E_iload_n at_X6_wanted_16 rfl ?_
                          refine E_ialN (l := hm) (v := hm.getD a1k 0) at_X6_wanted_17 w76 (by omega) (by omega) rfl ?_
                          refine E_iconst (x := nI 2) at_X6_wanted_18 (by decide) ?_
                          refine E_ic (t := 27) (b := true) at_X6_wanted_19 rfl ((cn_ne (nI_toInt (by omega)) (nI_toInt (by omega))).trans (decide_eq_true (by omega))) ?_
                          refine E_aload_n at_X6_wanted_27 rfl ?_
                          refine E_getfield (v := .ref 76) at_X6_wanted_28 w65 rfl (by decide) rfl ?_
                          refine E_iload_n at_X6_wanted_31 rfl ?_
                          refine E_ialN (l := hm) (v := hm.getD a1k 0) at_X6_wanted_32 w76 (by omega) (by omega) rfl ?_
                          refine E_if (t := 41) (b := true) at_X6_wanted_33 rfl ((cn_ne (nI_toInt (by omega)) (by decide : (0 : Int32).toInt = 0)).trans (decide_eq_true (by omega))) ?_
                          refine E_iconst (x := nI 0) at_X6_wanted_41 (by decide) ?_
                          exact E_iret at_X6_wanted_42 rfl
                        refine E_callV (v := some (.int (nI 0))) (As := [.ref 65, .int (nI a1k)]) (r0 := []) (cs2 := (ww im lf s d k (lsF (wgh s (qPs s 99 (qN s)) (qN s))) rf rz ra rn rq lt m1 m2 m3 m4 bd fc hd sz el s g fm hm so si sh ce ca td wa kp la bf oo bo pw ow tr)) at_X6_barsOf_2 rfl rfl (Nat.le_of_ble_eq_true rfl) rfl (ab_rvOf w65 rfl) e5 (by decide) rfl ?_
                        refine E_istore (L2 := [some (.ref 65), some (.int (nI a1k)), some (.int (nI a2k)), some (.int (nI 40)), some (.int (nI 1)), some (.int (nI 0))]) at_X6_barsOf_5 rfl ?_
                        refine E_iload at_X6_barsOf_7 rfl ?_
                        refine E_if (t := 17) (b := true) at_X6_barsOf_9 rfl (by decide) ?_
                        refine E_iload_n at_X6_barsOf_17 rfl ?_
                        refine E_if (t := 26) (b := true) at_X6_barsOf_18 rfl ((cn_ge (nI_toInt (by omega)) (by decide : (0 : Int32).toInt = 0)).trans (decide_eq_true (by omega))) ?_
                        refine E_iload_n at_X6_barsOf_26 rfl ?_
                        refine E_aload_n at_X6_barsOf_27 rfl ?_
                        refine E_getfield (v := .ref 78) at_X6_barsOf_28 w65 rfl (by decide) rfl ?_
                        refine E_iload_n at_X6_barsOf_31 rfl ?_
                        refine E_ialN (l := si) (v := si.getD a1k 0) at_X6_barsOf_32 w78 (by omega) (by omega) rfl ?_
                        refine E_iconst (x := nI 2) at_X6_barsOf_33 (by decide) ?_
                        refine E_idiv (z := nI ((si.getD a1k 0) / 2)) at_X6_barsOf_34 (by decide) (pk_div (by omega) (by omega) (by omega)) ?_
                        refine E_ic (t := 43) (b := false) at_X6_barsOf_35 rfl ((cn_gt (nI_toInt (by omega)) (nI_toInt (by omega))).trans (decide_eq_false (by omega))) ?_
                        refine E_iload at_X6_barsOf_38 rfl ?_
                        refine E_if (t := 48) (b := true) at_X6_barsOf_40 rfl (by decide) ?_
                        refine E_iload_n at_X6_barsOf_48 rfl ?_
                        refine E_iload_n at_X6_barsOf_49 rfl ?_
                        refine E_ic (t := 58) (b := true) at_X6_barsOf_50 rfl ((cn_le (nI_toInt (by omega)) (nI_toInt (by omega))).trans (decide_eq_true (by omega))) ?_
                        refine E_iconst (x := nI 0) at_X6_barsOf_58 (by decide) ?_
                        exact E_iret at_X6_barsOf_59 rfl
                      refine E_callV (v := some (.int (nI 0))) (As := [.ref 65, .int (nI a1k), .int (nI a2k), .int (nI 40), .int (nI 1)]) (r0 := []) (cs2 := (ww im lf s d k (lsF (wgh s (qPs s 99 (qN s)) (qN s))) rf rz ra rn rq lt m1 m2 m3 m4 bd fc hd sz el s g fm hm so si sh ce ca td wa kp la bf oo bo pw ow tr)) rfl rfl rfl (Nat.le_of_ble_eq_true rfl) rfl (ab_rvOf w65 rfl) e6 (by decide) rfl ?_
                      refine E_istore_n (L2 := [some (.ref 65), some (.int (nI a1k)), some (.int (nI a2k)), some (.int (nI 0)), none, none, none, none]) rfl rfl ?_
                      refine E_iconst (x := nI 0) rfl (by decide) ?_
                      refine E_istore (L2 := [some (.ref 65), some (.int (nI a1k)), some (.int (nI a2k)), some (.int (nI 0)), some (.int (nI 0)), none, none, none]) rfl rfl ?_
                      refine ru_mg (by omega) u2 (by omega) (l_el _ (by omega)) (by omega) (lr.2.2.2.2.2.2.2.2.2.1) u6 ha ?_ a2k 0 (Nat.zero_add _)
                      refine E_iload_n rfl rfl ?_
                      refine E_if (t := 61) (b := true) rfl rfl (by decide) ?_
                      refine E_aload_n rfl rfl ?_
                      refine E_aload_n rfl rfl ?_
                      refine E_bipush (x := nI 99) rfl (by decide) ?_
                      refine E_callV (v := some (.int (nI (qPs s 99 (qN s))))) (As := [.ref 65, .int (nI 99)]) (r0 := [.ref 65]) (cs2 := (ww im lf s d k (lsF (wgh s (qPs s 99 (qN s)) (qN s))) rf rz ra rn rq lt m1 m2 m3 m4 bd fc hd sz el s g fm hm so si sh ce ca td wa kp la bf oo bo pw ow tr)) rfl rfl rfl (Nat.le_of_ble_eq_true rfl) rfl (ab_rvOf w65 rfl) (mo_piecesOf w_m I (by omega)) (by decide) rfl ?_
                      refine E_callV (v := none) (As := [.ref 65, .int (nI (qPs s 99 (qN s)))]) (r0 := []) (cs2 := (ww im lf s d k (lsF (wgh s (qPs s 99 (qN s)) (qN s))) rf rz ra rn rq lt m1 m2 m3 m4 bd fc hd sz el s g fm hm so si sh ce ca td wa kp la (lsF (bst s (qPs s 99 (qN s)) (qN s) (2 ^ qN s))) oo bo pw ow tr)) rfl rfl rfl (Nat.le_of_ble_eq_true rfl) rfl (ab_rvOf w65 rfl) (w_best (m := qPs s 99 (qN s)) I (by omega) (lr.2.2.2.2.2.2.2.2.2.2.2.2.2.2.2.1)) (by decide) w_lens ?_
                      refine E_iconst (x := nI 3) rfl (by decide) ?_
                      refine E_istore (L2 := [some (.ref 65), some (.int (nI a1k)), some (.int (nI a2k)), some (.int (nI 0)), some (.int (nI 3)), none, none, none]) rfl rfl ?_
                      refine E_iconst (x := nI 0) rfl (by decide) ?_
                      refine E_istore (L2 := [some (.ref 65), some (.int (nI a1k)), some (.int (nI a2k)), some (.int (nI 0)), some (.int (nI 3)), some (.int (nI 0)), none, none]) rfl rfl ?_
                      exact ru_ml (m := qPs s 99 (qN s)) (by omega) u2 (by omega) (l_el _ (by omega)) (by omega) (by omega) ha (lr.2.2.2.2.2.2.2.2.2.1) u6 I a2k 0 none none (Nat.zero_add _)
                    · exact ⟨I, rfl, hf, iQ, iM, iT, iS, l_el, (lsF_len _), (lr.2.1), (lr.2.2.1), (lr.2.2.2.1), (lr.2.2.2.2.1), (lr.2.2.2.2.2.1), (lr.2.2.2.2.2.2.1), (lr.2.2.2.2.2.2.2.1), (lr.2.2.2.2.2.2.2.2.1), (lr.2.2.2.2.2.2.2.2.2.1), (lr.2.2.2.2.2.2.2.2.2.2.1), (lr.2.2.2.2.2.2.2.2.2.2.2.1), (lr.2.2.2.2.2.2.2.2.2.2.2.2.1), (lr.2.2.2.2.2.2.2.2.2.2.2.2.2.1), (lr.2.2.2.2.2.2.2.2.2.2.2.2.2.2.1), (lsF_len _), (lr.2.2.2.2.2.2.2.2.2.2.2.2.2.2.2.2.1), (lr.2.2.2.2.2.2.2.2.2.2.2.2.2.2.2.2.2.1), (lr.2.2.2.2.2.2.2.2.2.2.2.2.2.2.2.2.2.2.1), (lr.2.2.2.2.2.2.2.2.2.2.2.2.2.2.2.2.2.2.2.1), (lr.2.2.2.2.2.2.2.2.2.2.2.2.2.2.2.2.2.2.2.2)⟩
              · refine ⟨(-6), (im, lf, s, d, k, ls, rf, rz, ra, rn, rq, lt, m1, m2, m3, m4, bd, (fc.set 6 ((fc.getD 6 0) + (nI 1))), hd, sz, el, s, g, fm, hm, so, si, sh, ce, ca, td, wa, kp, la, bf, oo, bo, pw, ow, tr), (im, lf, s, d, k, ls, rf, rz, ra, rn, rq, lt, m1, m2, m3, m4, bd, (fc.set 6 ((fc.getD 6 0) + (nI 1))), hd, sz, el, s, g, (fm.set 6 ((fm.getD 6 0) + (nI 1))), hm, so, si, sh, ce, ca, td, wa, kp, la, bf, oo, bo, pw, ow, tr), ?_, ?_, ?_⟩
                · show Ev ab_Z0 5 99 [.ref 0, .int (nI a1k), .int (nI a2k)] (ww im lf s d k ls rf rz ra rn rq lt m1 m2 m3 m4 bd fc hd sz el s g fm hm so si sh ce ca td wa kp la bf oo bo pw ow tr) (some (.int (-6)), (ww im lf s d k ls rf rz ra rn rq lt m1 m2 m3 m4 bd (fc.set 6 ((fc.getD 6 0) + (nI 1))) hd sz el s g fm hm so si sh ce ca td wa kp la bf oo bo pw ow tr))
                  refine Ef.in (md := mX5_rules) (L := [some (.ref 0), some (.int (nI a1k)), some (.int (nI a2k)), none, none, none, none, none]) rfl (Nat.le_of_ble_eq_true rfl) rfl ?_
                  refine E_aload_n at_X5_rules_0 rfl ?_
                  refine E_iload_n at_X5_rules_1 rfl ?_
                  refine E_iload_n at_X5_rules_2 rfl ?_
                  refine E_bipush (x := nI 40) at_X5_rules_3 (by decide) ?_
                  refine E_iconst (x := nI 0) at_X5_rules_5 (by decide) ?_
                  have e4 : Ev ab_Z0 3 120 [.ref 0, .int (nI a1k), .int (nI a2k), .int (nI 40), .int (nI 0)] (ww im lf s d k ls rf rz ra rn rq lt m1 m2 m3 m4 bd fc hd sz el s g fm hm so si sh ce ca td wa kp la bf oo bo pw ow tr) (some (.int (nI 0)), (ww im lf s d k ls rf rz ra rn rq lt m1 m2 m3 m4 bd fc hd sz el s g fm hm so si sh ce ca td wa kp la bf oo bo pw ow tr)) := by
                    refine Ef.in (md := mX5_whyNoTwos) (L := [some (.ref 0), some (.int (nI a1k)), some (.int (nI a2k)), some (.int (nI 40)), some (.int (nI 0)), none]) rfl (Nat.le_of_ble_eq_true rfl) rfl ?_
                    refine E_aload_n at_X5_whyNoTwos_0 rfl ?_
                    refine E_iload_n at_X5_whyNoTwos_1 rfl ?_
                    have e3 : Ev ab_Z0 2 119 [.ref 0, .int (nI a1k)] (ww im lf s d k ls rf rz ra rn rq lt m1 m2 m3 m4 bd fc hd sz el s g fm hm so si sh ce ca td wa kp la bf oo bo pw ow tr) (some (.int (nI 0)), (ww im lf s d k ls rf rz ra rn rq lt m1 m2 m3 m4 bd fc hd sz el s g fm hm so si sh ce ca td wa kp la bf oo bo pw ow tr)) := by
                      refine Ef.in (md := mX5_whyNoRow) (L := [some (.ref 0), some (.int (nI a1k))]) rfl (Nat.le_of_ble_eq_true rfl) rfl ?_
                      refine E_iload_n at_X5_whyNoRow_0 rfl ?_
                      refine E_callS (v := some (.int (nI 1))) (As := [.int (nI a1k)]) (r0 := []) (cs2 := (ww im lf s d k ls rf rz ra rn rq lt m1 m2 m3 m4 bd fc hd sz el s g fm hm so si sh ce ca td wa kp la bf oo bo pw ow tr)) at_X5_whyNoRow_1 rfl rfl (Nat.le_of_ble_eq_true rfl) rfl (L39_X5_isShelf (by omega) (by omega) (by omega)) (by decide) rfl ?_
                      refine E_if (t := 9) (b := true) at_X5_whyNoRow_4 rfl (by decide) ?_
                      refine E_aload_n at_X5_whyNoRow_9 rfl ?_
                      refine E_getfield (v := .ref 31) at_X5_whyNoRow_10 w0 rfl (by decide) rfl ?_
                      refine E_iload_n at_X5_whyNoRow_13 rfl ?_
                      refine E_aalN (b := 49 + 2 * a1k) at_X5_whyNoRow_14 w31 (by omega) (w_shs (by omega)) ?_
                      have e1 : Ev ab_Z0 1 33 [.ref (49 + 2 * a1k)] (ww im lf s d k ls rf rz ra rn rq lt m1 m2 m3 m4 bd fc hd sz el s g fm hm so si sh ce ca td wa kp la bf oo bo pw ow tr) (some (.int (nI 0)), (ww im lf s d k ls rf rz ra rn rq lt m1 m2 m3 m4 bd fc hd sz el s g fm hm so si sh ce ca td wa kp la bf oo bo pw ow tr)) := by
                        refine Ef.in (md := mX3_isOtherThanRow) (L := [some (.ref (49 + 2 * a1k))]) rfl (Nat.le_of_ble_eq_true rfl) rfl ?_
                        refine E_aload_n at_X3_isOtherThanRow_0 rfl ?_
                        refine E_getfield (v := .int (nI (100 + so.getD a1k 0))) at_X3_isOtherThanRow_1 (w_shv (j := a1k) (by omega) u1 u2) rfl (by decide) rfl ?_
                        refine E_if (t := 20) (b := false) at_X3_isOtherThanRow_4 rfl ((cn_lt (nI_toInt (by omega)) (by decide : (0 : Int32).toInt = 0)).trans (decide_eq_false (by omega))) ?_
                        refine E_aload_n at_X3_isOtherThanRow_7 rfl ?_
                        refine E_getfield (v := .int (nI (100 + so.getD a1k 0))) at_X3_isOtherThanRow_8 (w_shv (j := a1k) (by omega) u1 u2) rfl (by decide) rfl ?_
                        refine E_bipush (x := nI 100) at_X3_isOtherThanRow_11 (by decide) ?_
                        refine E_ic (t := 20) (b := true) at_X3_isOtherThanRow_13 rfl ((cn_ge (nI_toInt (by omega)) (nI_toInt (by omega))).trans (decide_eq_true (by omega))) ?_
                        refine E_iconst (x := nI 0) at_X3_isOtherThanRow_20 (by decide) ?_
                        exact E_iret at_X3_isOtherThanRow_21 rfl
                      refine E_callV (v := some (.int (nI 0))) (As := [.ref (49 + 2 * a1k)]) (r0 := []) (cs2 := (ww im lf s d k ls rf rz ra rn rq lt m1 m2 m3 m4 bd fc hd sz el s g fm hm so si sh ce ca td wa kp la bf oo bo pw ow tr)) at_X5_whyNoRow_15 rfl rfl (Nat.le_of_ble_eq_true rfl) rfl (ab_rvOf (w_shv (j := a1k) (by omega) u1 u2) rfl) e1 (by decide) rfl ?_
                      refine E_if (t := 23) (b := true) at_X5_whyNoRow_18 rfl (by decide) ?_
                      refine E_aload_n at_X5_whyNoRow_23 rfl ?_
                      refine E_getfield (v := .ref 31) at_X5_whyNoRow_24 w0 rfl (by decide) rfl ?_
                      refine E_iload_n at_X5_whyNoRow_27 rfl ?_
                      refine E_aalN (b := 49 + 2 * a1k) at_X5_whyNoRow_28 w31 (by omega) (w_shs (by omega)) ?_
                      have e2 : Ev ab_Z0 1 32 [.ref (49 + 2 * a1k)] (ww im lf s d k ls rf rz ra rn rq lt m1 m2 m3 m4 bd fc hd sz el s g fm hm so si sh ce ca td wa kp la bf oo bo pw ow tr) (some (.int (nI 0)), (ww im lf s d k ls rf rz ra rn rq lt m1 m2 m3 m4 bd fc hd sz el s g fm hm so si sh ce ca td wa kp la bf oo bo pw ow tr)) := by
                        refine Ef.in (md := mX3_isEmpty) (L := [some (.ref (49 + 2 * a1k))]) rfl (Nat.le_of_ble_eq_true rfl) rfl ?_
                        refine E_aload_n at_X3_isEmpty_0 rfl ?_
                        refine E_getfield (v := .int (nI (100 + so.getD a1k 0))) at_X3_isEmpty_1 (w_shv (j := a1k) (by omega) u1 u2) rfl (by decide) rfl ?_
                        refine E_iconst (x := (-1)) at_X3_isEmpty_4 (by decide) ?_
                        refine E_ic (t := 12) (b := true) at_X3_isEmpty_5 rfl ((cn_ne (nI_toInt (by omega)) (by decide : (-1 : Int32).toInt = -1)).trans (decide_eq_true (by omega))) ?_
                        refine E_iconst (x := nI 0) at_X3_isEmpty_12 (by decide) ?_
                        exact E_iret at_X3_isEmpty_13 rfl
                      refine E_callV (v := some (.int (nI 0))) (As := [.ref (49 + 2 * a1k)]) (r0 := []) (cs2 := (ww im lf s d k ls rf rz ra rn rq lt m1 m2 m3 m4 bd fc hd sz el s g fm hm so si sh ce ca td wa kp la bf oo bo pw ow tr)) at_X5_whyNoRow_29 rfl rfl (Nat.le_of_ble_eq_true rfl) rfl (ab_rvOf (w_shv (j := a1k) (by omega) u1 u2) rfl) e2 (by decide) rfl ?_
                      refine E_if (t := 39) (b := true) at_X5_whyNoRow_32 rfl (by decide) ?_
                      refine E_iconst (x := nI 0) at_X5_whyNoRow_39 (by decide) ?_
                      exact E_iret at_X5_whyNoRow_40 rfl
                    refine E_callV (v := some (.int (nI 0))) (As := [.ref 0, .int (nI a1k)]) (r0 := []) (cs2 := (ww im lf s d k ls rf rz ra rn rq lt m1 m2 m3 m4 bd fc hd sz el s g fm hm so si sh ce ca td wa kp la bf oo bo pw ow tr)) at_X5_whyNoTwos_2 rfl rfl (Nat.le_of_ble_eq_true rfl) rfl (ab_rvOf w0 rfl) e3 (by decide) rfl ?_
                    refine E_istore (L2 := [some (.ref 0), some (.int (nI a1k)), some (.int (nI a2k)), some (.int (nI 40)), some (.int (nI 0)), some (.int (nI 0))]) at_X5_whyNoTwos_5 rfl ?_
                    refine E_iload at_X5_whyNoTwos_7 rfl ?_
                    refine E_if (t := 15) (b := true) at_X5_whyNoTwos_9 rfl (by decide) ?_
                    refine E_iload_n at_X5_whyNoTwos_15 rfl ?_
                    refine E_if (t := 21) (b := true) at_X5_whyNoTwos_16 rfl ((cn_ge (nI_toInt (by omega)) (by decide : (0 : Int32).toInt = 0)).trans (decide_eq_true (by omega))) ?_
                    refine E_iload at_X5_whyNoTwos_21 rfl ?_
                    refine E_if (t := 41) (b := false) at_X5_whyNoTwos_23 rfl (by decide) ?_
                    refine E_iload_n at_X5_whyNoTwos_26 rfl ?_
                    refine E_aload_n at_X5_whyNoTwos_27 rfl ?_
                    refine E_getfield (v := .ref 31) at_X5_whyNoTwos_28 w0 rfl (by decide) rfl ?_
                    refine E_iload_n at_X5_whyNoTwos_31 rfl ?_
                    refine E_aalN (b := 49 + 2 * a1k) at_X5_whyNoTwos_32 w31 (by omega) (w_shs (by omega)) ?_
                    refine E_getfield (v := .int (nI (si.getD a1k 0))) at_X5_whyNoTwos_33 (w_shv (j := a1k) (by omega) u1 u2) rfl (by decide) rfl ?_
                    refine E_iconst (x := nI 2) at_X5_whyNoTwos_36 (by decide) ?_
                    refine E_idiv (z := nI ((si.getD a1k 0) / 2)) at_X5_whyNoTwos_37 (by decide) (pk_div (by omega) (by omega) (by omega)) ?_
                    refine E_ic (t := 43) (b := true) at_X5_whyNoTwos_38 rfl ((cn_le (nI_toInt (by omega)) (nI_toInt (by omega))).trans (decide_eq_true (by omega))) ?_
                    refine E_iload_n at_X5_whyNoTwos_43 rfl ?_
                    refine E_iload_n at_X5_whyNoTwos_44 rfl ?_
                    refine E_ic (t := 53) (b := true) at_X5_whyNoTwos_45 rfl ((cn_le (nI_toInt (by omega)) (nI_toInt (by omega))).trans (decide_eq_true (by omega))) ?_
                    refine E_iconst (x := nI 0) at_X5_whyNoTwos_53 (by decide) ?_
                    exact E_iret at_X5_whyNoTwos_54 rfl
                  refine E_callV (v := some (.int (nI 0))) (As := [.ref 0, .int (nI a1k), .int (nI a2k), .int (nI 40), .int (nI 0)]) (r0 := []) (cs2 := (ww im lf s d k ls rf rz ra rn rq lt m1 m2 m3 m4 bd fc hd sz el s g fm hm so si sh ce ca td wa kp la bf oo bo pw ow tr)) at_X5_rules_6 rfl rfl (Nat.le_of_ble_eq_true rfl) rfl (ab_rvOf w0 rfl) e4 (by decide) rfl ?_
                  refine E_istore_n (L2 := [some (.ref 0), some (.int (nI a1k)), some (.int (nI a2k)), some (.int (nI 0)), none, none, none, none]) at_X5_rules_9 rfl ?_
                  refine E_iload_n at_X5_rules_10 rfl ?_
                  refine E_if (t := 20) (b := true) at_X5_rules_11 rfl (by decide) ?_
                  refine E_aload_n at_X5_rules_20 rfl ?_
                  refine E_getfield (v := .ref 31) at_X5_rules_21 w0 rfl (by decide) rfl ?_
                  refine E_iload_n at_X5_rules_24 rfl ?_
                  refine E_aalN (b := 49 + 2 * a1k) at_X5_rules_25 w31 (by omega) (w_shs (by omega)) ?_
                  refine E_astore (L2 := [some (.ref 0), some (.int (nI a1k)), some (.int (nI a2k)), some (.int (nI 0)), some (.ref (49 + 2 * a1k)), none, none, none]) at_X5_rules_26 rfl ?_
                  refine E_iconst (x := nI 0) at_X5_rules_28 (by decide) ?_
                  refine E_istore (L2 := [some (.ref 0), some (.int (nI a1k)), some (.int (nI a2k)), some (.int (nI 0)), some (.ref (49 + 2 * a1k)), some (.int (nI 0)), none, none]) at_X5_rules_29 rfl ?_
                  exact ru_cb (by omega) u2 (by omega) (l_el _ (by omega)) (by omega) (lr.2.2.2.1) a2k 0 (Nat.zero_add _) (by obtain ⟨q, h1, h2⟩ := hb; exact ⟨q, Nat.zero_le _, h1, h2⟩)
                · show Ev ab_Z0 4 187 [.ref 65, .int (nI a1k), .int (nI a2k)] (ww im lf s d k ls rf rz ra rn rq lt m1 m2 m3 m4 bd (fc.set 6 ((fc.getD 6 0) + (nI 1))) hd sz el s g fm hm so si sh ce ca td wa kp la bf oo bo pw ow tr) (some (.int (-6)), (ww im lf s d k ls rf rz ra rn rq lt m1 m2 m3 m4 bd (fc.set 6 ((fc.getD 6 0) + (nI 1))) hd sz el s g (fm.set 6 ((fm.getD 6 0) + (nI 1))) hm so si sh ce ca td wa kp la bf oo bo pw ow tr))
                  refine Ef.in (md := mX6_rules) (L := [some (.ref 65), some (.int (nI a1k)), some (.int (nI a2k)), none, none, none, none, none]) rfl (Nat.le_of_ble_eq_true rfl) rfl ?_
                  refine E_aload_n rfl rfl ?_
                  refine E_iload_n rfl rfl ?_
                  refine E_iload_n rfl rfl ?_
                  refine E_bipush (x := nI 40) rfl (by decide) ?_
                  refine E_iconst (x := nI 1) rfl (by decide) ?_
                  have e6 : Ev ab_Z0 3 186 [.ref 65, .int (nI a1k), .int (nI a2k), .int (nI 40), .int (nI 1)] (ww im lf s d k ls rf rz ra rn rq lt m1 m2 m3 m4 bd (fc.set 6 ((fc.getD 6 0) + (nI 1))) hd sz el s g fm hm so si sh ce ca td wa kp la bf oo bo pw ow tr) (some (.int (nI 0)), (ww im lf s d k ls rf rz ra rn rq lt m1 m2 m3 m4 bd (fc.set 6 ((fc.getD 6 0) + (nI 1))) hd sz el s g fm hm so si sh ce ca td wa kp la bf oo bo pw ow tr)) := by
                    refine Ef.in (md := mX6_barsOf) (L := [some (.ref 65), some (.int (nI a1k)), some (.int (nI a2k)), some (.int (nI 40)), some (.int (nI 1)), none]) rfl (Nat.le_of_ble_eq_true rfl) rfl ?_
                    refine E_aload_n at_X6_barsOf_0 rfl ?_
                    refine E_iload_n at_X6_barsOf_1 rfl ?_
                    have e5 : Ev ab_Z0 2 142 [.ref 65, .int (nI a1k)] (ww im lf s d k ls rf rz ra rn rq lt m1 m2 m3 m4 bd (fc.set 6 ((fc.getD 6 0) + (nI 1))) hd sz el s g fm hm so si sh ce ca td wa kp la bf oo bo pw ow tr) (some (.int (nI 0)), (ww im lf s d k ls rf rz ra rn rq lt m1 m2 m3 m4 bd (fc.set 6 ((fc.getD 6 0) + (nI 1))) hd sz el s g fm hm so si sh ce ca td wa kp la bf oo bo pw ow tr)) := by
                      refine Ef.in (md := mX6_wanted) (L := [some (.ref 65), some (.int (nI a1k))]) rfl (Nat.le_of_ble_eq_true rfl) rfl ?_
                      refine E_aload_n at_X6_wanted_0 rfl ?_
                      refine E_iload_n at_X6_wanted_1 rfl ?_
                      refine E_callV (v := some (.int (nI 1))) (As := [.ref 65, .int (nI a1k)]) (r0 := []) (cs2 := (ww im lf s d k ls rf rz ra rn rq lt m1 m2 m3 m4 bd (fc.set 6 ((fc.getD 6 0) + (nI 1))) hd sz el s g fm hm so si sh ce ca td wa kp la bf oo bo pw ow tr)) at_X6_wanted_2 rfl rfl (Nat.le_of_ble_eq_true rfl) rfl (ab_rvOf w65 rfl) (L40_X6_isShelf (by omega) (by omega) (by omega)) (by decide) rfl ?_
                      refine E_if (t := 12) (b := true) at_X6_wanted_5 rfl (by decide) ?_
                      refine E_aload_n at_X6_wanted_12 rfl ?_
                      refine E_getfield (v := .ref 76) at_X6_wanted_13 w65 rfl (by decide) rfl ?_
                      refine E_iload_n at_X6_wanted_16 rfl ?_
                      refine E_ialN (l := hm) (v := hm.getD a1k 0) at_X6_wanted_17 w76 (by omega) (by omega) rfl ?_
                      refine E_iconst (x := nI 2) at_X6_wanted_18 (by decide) ?_
                      refine E_ic (t := 27) (b := true) at_X6_wanted_19 rfl ((cn_ne (nI_toInt (by omega)) (nI_toInt (by omega))).trans (decide_eq_true (by omega))) ?_
                      refine E_aload_n at_X6_wanted_27 rfl ?_
                      refine E_getfield (v := .ref 76) at_X6_wanted_28 w65 rfl (by decide) rfl ?_
                      refine E_iload_n at_X6_wanted_31 rfl ?_
                      refine E_ialN (l := hm) (v := hm.getD a1k 0) at_X6_wanted_32 w76 (by omega) (by omega) rfl ?_
                      refine E_if (t := 41) (b := true) at_X6_wanted_33 rfl ((cn_ne (nI_toInt (by omega)) (by decide : (0 : Int32).toInt = 0)).trans (decide_eq_true (by omega))) ?_
                      refine E_iconst (x := nI 0) at_X6_wanted_41 (by decide) ?_
                      exact E_iret at_X6_wanted_42 rfl
                    refine E_callV (v := some (.int (nI 0))) (As := [.ref 65, .int (nI a1k)]) (r0 := []) (cs2 := (ww im lf s d k ls rf rz ra rn rq lt m1 m2 m3 m4 bd (fc.set 6 ((fc.getD 6 0) + (nI 1))) hd sz el s g fm hm so si sh ce ca td wa kp la bf oo bo pw ow tr)) at_X6_barsOf_2 rfl rfl (Nat.le_of_ble_eq_true rfl) rfl (ab_rvOf w65 rfl) e5 (by decide) rfl ?_
                    refine E_istore (L2 := [some (.ref 65), some (.int (nI a1k)), some (.int (nI a2k)), some (.int (nI 40)), some (.int (nI 1)), some (.int (nI 0))]) at_X6_barsOf_5 rfl ?_
                    refine E_iload at_X6_barsOf_7 rfl ?_
                    refine E_if (t := 17) (b := true) at_X6_barsOf_9 rfl (by decide) ?_
                    refine E_iload_n at_X6_barsOf_17 rfl ?_
                    refine E_if (t := 26) (b := true) at_X6_barsOf_18 rfl ((cn_ge (nI_toInt (by omega)) (by decide : (0 : Int32).toInt = 0)).trans (decide_eq_true (by omega))) ?_
                    refine E_iload_n at_X6_barsOf_26 rfl ?_
                    refine E_aload_n at_X6_barsOf_27 rfl ?_
                    refine E_getfield (v := .ref 78) at_X6_barsOf_28 w65 rfl (by decide) rfl ?_
                    refine E_iload_n at_X6_barsOf_31 rfl ?_
                    refine E_ialN (l := si) (v := si.getD a1k 0) at_X6_barsOf_32 w78 (by omega) (by omega) rfl ?_
                    refine E_iconst (x := nI 2) at_X6_barsOf_33 (by decide) ?_
                    refine E_idiv (z := nI ((si.getD a1k 0) / 2)) at_X6_barsOf_34 (by decide) (pk_div (by omega) (by omega) (by omega)) ?_
                    refine E_ic (t := 43) (b := false) at_X6_barsOf_35 rfl ((cn_gt (nI_toInt (by omega)) (nI_toInt (by omega))).trans (decide_eq_false (by omega))) ?_
                    refine E_iload at_X6_barsOf_38 rfl ?_
                    refine E_if (t := 48) (b := true) at_X6_barsOf_40 rfl (by decide) ?_
                    refine E_iload_n at_X6_barsOf_48 rfl ?_
                    refine E_iload_n at_X6_barsOf_49 rfl ?_
                    refine E_ic (t := 58) (b := true) at_X6_barsOf_50 rfl ((cn_le (nI_toInt (by omega)) (nI_toInt (by omega))).trans (decide_eq_true (by omega))) ?_
                    refine E_iconst (x := nI 0) at_X6_barsOf_58 (by decide) ?_
                    exact E_iret at_X6_barsOf_59 rfl
                  refine E_callV (v := some (.int (nI 0))) (As := [.ref 65, .int (nI a1k), .int (nI a2k), .int (nI 40), .int (nI 1)]) (r0 := []) (cs2 := (ww im lf s d k ls rf rz ra rn rq lt m1 m2 m3 m4 bd (fc.set 6 ((fc.getD 6 0) + (nI 1))) hd sz el s g fm hm so si sh ce ca td wa kp la bf oo bo pw ow tr)) rfl rfl rfl (Nat.le_of_ble_eq_true rfl) rfl (ab_rvOf w65 rfl) e6 (by decide) rfl ?_
                  refine E_istore_n (L2 := [some (.ref 65), some (.int (nI a1k)), some (.int (nI a2k)), some (.int (nI 0)), none, none, none, none]) rfl rfl ?_
                  refine E_iconst (x := nI 0) rfl (by decide) ?_
                  refine E_istore (L2 := [some (.ref 65), some (.int (nI a1k)), some (.int (nI a2k)), some (.int (nI 0)), some (.int (nI 0)), none, none, none]) rfl rfl ?_
                  refine ru_mb (by omega) u2 (by omega) (l_el _ (by omega)) (by omega) (lr.2.2.2.2.2.2.2.2.2.1) u6 (fun x4 h4 => ?_) a2k 0 (Nat.zero_add _) (by obtain ⟨q, h1, h2⟩ := hb; exact ⟨q, Nat.zero_le _, h1, h2⟩)
                  refine E_iload_n rfl rfl ?_
                  refine E_if (t := 61) (b := false) rfl rfl (by decide) ?_
                  refine E_aload_n rfl rfl ?_
                  refine E_iload_n rfl rfl ?_
                  refine E_callV (v := some (.int (-6))) (As := [.ref 65, .int (-6)]) (r0 := []) (cs2 := (ww im lf s d k ls rf rz ra rn rq lt m1 m2 m3 m4 bd (fc.set 6 ((fc.getD 6 0) + (nI 1))) hd sz el s g (fm.set 6 ((fm.getD 6 0) + (nI 1))) hm so si sh ce ca td wa kp la bf oo bo pw ow tr)) rfl rfl rfl (Nat.le_of_ble_eq_true rfl) rfl (ab_rvOf w65 rfl) (L28_X6_no (by omega)) (by decide) w_lens ?_
                  exact E_iret rfl rfl
                · exact ⟨I, rfl, hf, iQ, iM, iT, iS, l_el, (lr.1), (lr.2.1), (lr.2.2.1), (by simp only [List.length_set]; exact (lr.2.2.2.1)), (by simp only [List.length_set]; exact (lr.2.2.2.2.1)), (lr.2.2.2.2.2.1), (lr.2.2.2.2.2.2.1), (lr.2.2.2.2.2.2.2.1), (lr.2.2.2.2.2.2.2.2.1), (lr.2.2.2.2.2.2.2.2.2.1), (lr.2.2.2.2.2.2.2.2.2.2.1), (lr.2.2.2.2.2.2.2.2.2.2.2.1), (lr.2.2.2.2.2.2.2.2.2.2.2.2.1), (lr.2.2.2.2.2.2.2.2.2.2.2.2.2.1), (lr.2.2.2.2.2.2.2.2.2.2.2.2.2.2.1), (lr.2.2.2.2.2.2.2.2.2.2.2.2.2.2.2.1), (lr.2.2.2.2.2.2.2.2.2.2.2.2.2.2.2.2.1), (lr.2.2.2.2.2.2.2.2.2.2.2.2.2.2.2.2.2.1), (lr.2.2.2.2.2.2.2.2.2.2.2.2.2.2.2.2.2.2.1), (lr.2.2.2.2.2.2.2.2.2.2.2.2.2.2.2.2.2.2.2.1), (lr.2.2.2.2.2.2.2.2.2.2.2.2.2.2.2.2.2.2.2.2)⟩
        · refine ⟨(-4), (im, lf, s, d, k, ls, rf, rz, ra, rn, rq, lt, m1, m2, m3, m4, bd, (fc.set 4 ((fc.getD 4 0) + (nI 1))), hd, sz, el, s, g, fm, hm, so, si, sh, ce, ca, td, wa, kp, la, bf, oo, bo, pw, ow, tr), (im, lf, s, d, k, ls, rf, rz, ra, rn, rq, lt, m1, m2, m3, m4, bd, (fc.set 4 ((fc.getD 4 0) + (nI 1))), hd, sz, el, s, g, (fm.set 4 ((fm.getD 4 0) + (nI 1))), hm, so, si, sh, ce, ca, td, wa, kp, la, bf, oo, bo, pw, ow, tr), ?_, ?_, ?_⟩
          · show Ev ab_Z0 5 99 [.ref 0, .int (nI a1k), .int a2] (ww im lf s d k ls rf rz ra rn rq lt m1 m2 m3 m4 bd fc hd sz el s g fm hm so si sh ce ca td wa kp la bf oo bo pw ow tr) (some (.int (-4)), (ww im lf s d k ls rf rz ra rn rq lt m1 m2 m3 m4 bd (fc.set 4 ((fc.getD 4 0) + (nI 1))) hd sz el s g fm hm so si sh ce ca td wa kp la bf oo bo pw ow tr))
            refine Ef.in (md := mX5_rules) (L := [some (.ref 0), some (.int (nI a1k)), some (.int a2), none, none, none, none, none]) rfl (Nat.le_of_ble_eq_true rfl) rfl ?_
            refine E_aload_n at_X5_rules_0 rfl ?_
            refine E_iload_n at_X5_rules_1 rfl ?_
            refine E_iload_n at_X5_rules_2 rfl ?_
            refine E_bipush (x := nI 40) at_X5_rules_3 (by decide) ?_
            refine E_iconst (x := nI 0) at_X5_rules_5 (by decide) ?_
            have e4 : Ev ab_Z0 3 120 [.ref 0, .int (nI a1k), .int a2, .int (nI 40), .int (nI 0)] (ww im lf s d k ls rf rz ra rn rq lt m1 m2 m3 m4 bd fc hd sz el s g fm hm so si sh ce ca td wa kp la bf oo bo pw ow tr) (some (.int (nI 4)), (ww im lf s d k ls rf rz ra rn rq lt m1 m2 m3 m4 bd fc hd sz el s g fm hm so si sh ce ca td wa kp la bf oo bo pw ow tr)) := by
              refine Ef.in (md := mX5_whyNoTwos) (L := [some (.ref 0), some (.int (nI a1k)), some (.int a2), some (.int (nI 40)), some (.int (nI 0)), none]) rfl (Nat.le_of_ble_eq_true rfl) rfl ?_
              refine E_aload_n at_X5_whyNoTwos_0 rfl ?_
              refine E_iload_n at_X5_whyNoTwos_1 rfl ?_
              have e3 : Ev ab_Z0 2 119 [.ref 0, .int (nI a1k)] (ww im lf s d k ls rf rz ra rn rq lt m1 m2 m3 m4 bd fc hd sz el s g fm hm so si sh ce ca td wa kp la bf oo bo pw ow tr) (some (.int (nI 0)), (ww im lf s d k ls rf rz ra rn rq lt m1 m2 m3 m4 bd fc hd sz el s g fm hm so si sh ce ca td wa kp la bf oo bo pw ow tr)) := by
                refine Ef.in (md := mX5_whyNoRow) (L := [some (.ref 0), some (.int (nI a1k))]) rfl (Nat.le_of_ble_eq_true rfl) rfl ?_
                refine E_iload_n at_X5_whyNoRow_0 rfl ?_
                refine E_callS (v := some (.int (nI 1))) (As := [.int (nI a1k)]) (r0 := []) (cs2 := (ww im lf s d k ls rf rz ra rn rq lt m1 m2 m3 m4 bd fc hd sz el s g fm hm so si sh ce ca td wa kp la bf oo bo pw ow tr)) at_X5_whyNoRow_1 rfl rfl (Nat.le_of_ble_eq_true rfl) rfl (L39_X5_isShelf (by omega) (by omega) (by omega)) (by decide) rfl ?_
                refine E_if (t := 9) (b := true) at_X5_whyNoRow_4 rfl (by decide) ?_
                refine E_aload_n at_X5_whyNoRow_9 rfl ?_
                refine E_getfield (v := .ref 31) at_X5_whyNoRow_10 w0 rfl (by decide) rfl ?_
                refine E_iload_n at_X5_whyNoRow_13 rfl ?_
                refine E_aalN (b := 49 + 2 * a1k) at_X5_whyNoRow_14 w31 (by omega) (w_shs (by omega)) ?_
                have e1 : Ev ab_Z0 1 33 [.ref (49 + 2 * a1k)] (ww im lf s d k ls rf rz ra rn rq lt m1 m2 m3 m4 bd fc hd sz el s g fm hm so si sh ce ca td wa kp la bf oo bo pw ow tr) (some (.int (nI 0)), (ww im lf s d k ls rf rz ra rn rq lt m1 m2 m3 m4 bd fc hd sz el s g fm hm so si sh ce ca td wa kp la bf oo bo pw ow tr)) := by
                  refine Ef.in (md := mX3_isOtherThanRow) (L := [some (.ref (49 + 2 * a1k))]) rfl (Nat.le_of_ble_eq_true rfl) rfl ?_
                  refine E_aload_n at_X3_isOtherThanRow_0 rfl ?_
                  refine E_getfield (v := .int (nI (100 + so.getD a1k 0))) at_X3_isOtherThanRow_1 (w_shv (j := a1k) (by omega) u1 u2) rfl (by decide) rfl ?_
                  refine E_if (t := 20) (b := false) at_X3_isOtherThanRow_4 rfl ((cn_lt (nI_toInt (by omega)) (by decide : (0 : Int32).toInt = 0)).trans (decide_eq_false (by omega))) ?_
                  refine E_aload_n at_X3_isOtherThanRow_7 rfl ?_
                  refine E_getfield (v := .int (nI (100 + so.getD a1k 0))) at_X3_isOtherThanRow_8 (w_shv (j := a1k) (by omega) u1 u2) rfl (by decide) rfl ?_
                  refine E_bipush (x := nI 100) at_X3_isOtherThanRow_11 (by decide) ?_
                  refine E_ic (t := 20) (b := true) at_X3_isOtherThanRow_13 rfl ((cn_ge (nI_toInt (by omega)) (nI_toInt (by omega))).trans (decide_eq_true (by omega))) ?_
                  refine E_iconst (x := nI 0) at_X3_isOtherThanRow_20 (by decide) ?_
                  exact E_iret at_X3_isOtherThanRow_21 rfl
                refine E_callV (v := some (.int (nI 0))) (As := [.ref (49 + 2 * a1k)]) (r0 := []) (cs2 := (ww im lf s d k ls rf rz ra rn rq lt m1 m2 m3 m4 bd fc hd sz el s g fm hm so si sh ce ca td wa kp la bf oo bo pw ow tr)) at_X5_whyNoRow_15 rfl rfl (Nat.le_of_ble_eq_true rfl) rfl (ab_rvOf (w_shv (j := a1k) (by omega) u1 u2) rfl) e1 (by decide) rfl ?_
                refine E_if (t := 23) (b := true) at_X5_whyNoRow_18 rfl (by decide) ?_
                refine E_aload_n at_X5_whyNoRow_23 rfl ?_
                refine E_getfield (v := .ref 31) at_X5_whyNoRow_24 w0 rfl (by decide) rfl ?_
                refine E_iload_n at_X5_whyNoRow_27 rfl ?_
                refine E_aalN (b := 49 + 2 * a1k) at_X5_whyNoRow_28 w31 (by omega) (w_shs (by omega)) ?_
                have e2 : Ev ab_Z0 1 32 [.ref (49 + 2 * a1k)] (ww im lf s d k ls rf rz ra rn rq lt m1 m2 m3 m4 bd fc hd sz el s g fm hm so si sh ce ca td wa kp la bf oo bo pw ow tr) (some (.int (nI 0)), (ww im lf s d k ls rf rz ra rn rq lt m1 m2 m3 m4 bd fc hd sz el s g fm hm so si sh ce ca td wa kp la bf oo bo pw ow tr)) := by
                  refine Ef.in (md := mX3_isEmpty) (L := [some (.ref (49 + 2 * a1k))]) rfl (Nat.le_of_ble_eq_true rfl) rfl ?_
                  refine E_aload_n at_X3_isEmpty_0 rfl ?_
                  refine E_getfield (v := .int (nI (100 + so.getD a1k 0))) at_X3_isEmpty_1 (w_shv (j := a1k) (by omega) u1 u2) rfl (by decide) rfl ?_
                  refine E_iconst (x := (-1)) at_X3_isEmpty_4 (by decide) ?_
                  refine E_ic (t := 12) (b := true) at_X3_isEmpty_5 rfl ((cn_ne (nI_toInt (by omega)) (by decide : (-1 : Int32).toInt = -1)).trans (decide_eq_true (by omega))) ?_
                  refine E_iconst (x := nI 0) at_X3_isEmpty_12 (by decide) ?_
                  exact E_iret at_X3_isEmpty_13 rfl
                refine E_callV (v := some (.int (nI 0))) (As := [.ref (49 + 2 * a1k)]) (r0 := []) (cs2 := (ww im lf s d k ls rf rz ra rn rq lt m1 m2 m3 m4 bd fc hd sz el s g fm hm so si sh ce ca td wa kp la bf oo bo pw ow tr)) at_X5_whyNoRow_29 rfl rfl (Nat.le_of_ble_eq_true rfl) rfl (ab_rvOf (w_shv (j := a1k) (by omega) u1 u2) rfl) e2 (by decide) rfl ?_
                refine E_if (t := 39) (b := true) at_X5_whyNoRow_32 rfl (by decide) ?_
                refine E_iconst (x := nI 0) at_X5_whyNoRow_39 (by decide) ?_
                exact E_iret at_X5_whyNoRow_40 rfl
              refine E_callV (v := some (.int (nI 0))) (As := [.ref 0, .int (nI a1k)]) (r0 := []) (cs2 := (ww im lf s d k ls rf rz ra rn rq lt m1 m2 m3 m4 bd fc hd sz el s g fm hm so si sh ce ca td wa kp la bf oo bo pw ow tr)) at_X5_whyNoTwos_2 rfl rfl (Nat.le_of_ble_eq_true rfl) rfl (ab_rvOf w0 rfl) e3 (by decide) rfl ?_
              refine E_istore (L2 := [some (.ref 0), some (.int (nI a1k)), some (.int a2), some (.int (nI 40)), some (.int (nI 0)), some (.int (nI 0))]) at_X5_whyNoTwos_5 rfl ?_
              refine E_iload at_X5_whyNoTwos_7 rfl ?_
              refine E_if (t := 15) (b := true) at_X5_whyNoTwos_9 rfl (by decide) ?_
              refine E_iload_n at_X5_whyNoTwos_15 rfl ?_
              refine E_if (t := 21) (b := false) at_X5_whyNoTwos_16 rfl ((cn_ge rfl (by decide : (0 : Int32).toInt = 0)).trans (decide_eq_false (by omega))) ?_
              refine E_iconst (x := nI 4) at_X5_whyNoTwos_19 (by decide) ?_
              exact E_iret at_X5_whyNoTwos_20 rfl
            refine E_callV (v := some (.int (nI 4))) (As := [.ref 0, .int (nI a1k), .int a2, .int (nI 40), .int (nI 0)]) (r0 := []) (cs2 := (ww im lf s d k ls rf rz ra rn rq lt m1 m2 m3 m4 bd fc hd sz el s g fm hm so si sh ce ca td wa kp la bf oo bo pw ow tr)) at_X5_rules_6 rfl rfl (Nat.le_of_ble_eq_true rfl) rfl (ab_rvOf w0 rfl) e4 (by decide) rfl ?_
            refine E_istore_n (L2 := [some (.ref 0), some (.int (nI a1k)), some (.int a2), some (.int (nI 4)), none, none, none, none]) at_X5_rules_9 rfl ?_
            refine E_iload_n at_X5_rules_10 rfl ?_
            refine E_if (t := 20) (b := false) at_X5_rules_11 rfl (by decide) ?_
            refine E_aload_n at_X5_rules_14 rfl ?_
            refine E_iload_n at_X5_rules_15 rfl ?_
            refine E_callV (v := some (.int (-4))) (As := [.ref 0, .int (nI 4)]) (r0 := []) (cs2 := (ww im lf s d k ls rf rz ra rn rq lt m1 m2 m3 m4 bd (fc.set 4 ((fc.getD 4 0) + (nI 1))) hd sz el s g fm hm so si sh ce ca td wa kp la bf oo bo pw ow tr)) at_X5_rules_16 rfl rfl (Nat.le_of_ble_eq_true rfl) rfl (ab_rvOf w0 rfl) (L45_X5_refuse (by omega)) (by decide) w_lens ?_
            exact E_iret at_X5_rules_19 rfl
          · show Ev ab_Z0 4 187 [.ref 65, .int (nI a1k), .int a2] (ww im lf s d k ls rf rz ra rn rq lt m1 m2 m3 m4 bd (fc.set 4 ((fc.getD 4 0) + (nI 1))) hd sz el s g fm hm so si sh ce ca td wa kp la bf oo bo pw ow tr) (some (.int (-4)), (ww im lf s d k ls rf rz ra rn rq lt m1 m2 m3 m4 bd (fc.set 4 ((fc.getD 4 0) + (nI 1))) hd sz el s g (fm.set 4 ((fm.getD 4 0) + (nI 1))) hm so si sh ce ca td wa kp la bf oo bo pw ow tr))
            refine Ef.in (md := mX6_rules) (L := [some (.ref 65), some (.int (nI a1k)), some (.int a2), none, none, none, none, none]) rfl (Nat.le_of_ble_eq_true rfl) rfl ?_
            refine E_aload_n at_X6_rules_0 rfl ?_
            refine E_iload_n at_X6_rules_1 rfl ?_
            refine E_iload_n at_X6_rules_2 rfl ?_
            refine E_bipush (x := nI 40) at_X6_rules_3 (by decide) ?_
            refine E_iconst (x := nI 1) at_X6_rules_5 (by decide) ?_
            have e6 : Ev ab_Z0 3 186 [.ref 65, .int (nI a1k), .int a2, .int (nI 40), .int (nI 1)] (ww im lf s d k ls rf rz ra rn rq lt m1 m2 m3 m4 bd (fc.set 4 ((fc.getD 4 0) + (nI 1))) hd sz el s g fm hm so si sh ce ca td wa kp la bf oo bo pw ow tr) (some (.int (-4)), (ww im lf s d k ls rf rz ra rn rq lt m1 m2 m3 m4 bd (fc.set 4 ((fc.getD 4 0) + (nI 1))) hd sz el s g fm hm so si sh ce ca td wa kp la bf oo bo pw ow tr)) := by
              refine Ef.in (md := mX6_barsOf) (L := [some (.ref 65), some (.int (nI a1k)), some (.int a2), some (.int (nI 40)), some (.int (nI 1)), none]) rfl (Nat.le_of_ble_eq_true rfl) rfl ?_
              refine E_aload_n at_X6_barsOf_0 rfl ?_
              refine E_iload_n at_X6_barsOf_1 rfl ?_
              have e5 : Ev ab_Z0 2 142 [.ref 65, .int (nI a1k)] (ww im lf s d k ls rf rz ra rn rq lt m1 m2 m3 m4 bd (fc.set 4 ((fc.getD 4 0) + (nI 1))) hd sz el s g fm hm so si sh ce ca td wa kp la bf oo bo pw ow tr) (some (.int (nI 0)), (ww im lf s d k ls rf rz ra rn rq lt m1 m2 m3 m4 bd (fc.set 4 ((fc.getD 4 0) + (nI 1))) hd sz el s g fm hm so si sh ce ca td wa kp la bf oo bo pw ow tr)) := by
                refine Ef.in (md := mX6_wanted) (L := [some (.ref 65), some (.int (nI a1k))]) rfl (Nat.le_of_ble_eq_true rfl) rfl ?_
                refine E_aload_n at_X6_wanted_0 rfl ?_
                refine E_iload_n at_X6_wanted_1 rfl ?_
                refine E_callV (v := some (.int (nI 1))) (As := [.ref 65, .int (nI a1k)]) (r0 := []) (cs2 := (ww im lf s d k ls rf rz ra rn rq lt m1 m2 m3 m4 bd (fc.set 4 ((fc.getD 4 0) + (nI 1))) hd sz el s g fm hm so si sh ce ca td wa kp la bf oo bo pw ow tr)) at_X6_wanted_2 rfl rfl (Nat.le_of_ble_eq_true rfl) rfl (ab_rvOf w65 rfl) (L40_X6_isShelf (by omega) (by omega) (by omega)) (by decide) rfl ?_
                refine E_if (t := 12) (b := true) at_X6_wanted_5 rfl (by decide) ?_
                refine E_aload_n at_X6_wanted_12 rfl ?_
                refine E_getfield (v := .ref 76) at_X6_wanted_13 w65 rfl (by decide) rfl ?_
                refine E_iload_n at_X6_wanted_16 rfl ?_
                refine E_ialN (l := hm) (v := hm.getD a1k 0) at_X6_wanted_17 w76 (by omega) (by omega) rfl ?_
                refine E_iconst (x := nI 2) at_X6_wanted_18 (by decide) ?_
                refine E_ic (t := 27) (b := true) at_X6_wanted_19 rfl ((cn_ne (nI_toInt (by omega)) (nI_toInt (by omega))).trans (decide_eq_true (by omega))) ?_
                refine E_aload_n at_X6_wanted_27 rfl ?_
                refine E_getfield (v := .ref 76) at_X6_wanted_28 w65 rfl (by decide) rfl ?_
                refine E_iload_n at_X6_wanted_31 rfl ?_
                refine E_ialN (l := hm) (v := hm.getD a1k 0) at_X6_wanted_32 w76 (by omega) (by omega) rfl ?_
                refine E_if (t := 41) (b := true) at_X6_wanted_33 rfl ((cn_ne (nI_toInt (by omega)) (by decide : (0 : Int32).toInt = 0)).trans (decide_eq_true (by omega))) ?_
                refine E_iconst (x := nI 0) at_X6_wanted_41 (by decide) ?_
                exact E_iret at_X6_wanted_42 rfl
              refine E_callV (v := some (.int (nI 0))) (As := [.ref 65, .int (nI a1k)]) (r0 := []) (cs2 := (ww im lf s d k ls rf rz ra rn rq lt m1 m2 m3 m4 bd (fc.set 4 ((fc.getD 4 0) + (nI 1))) hd sz el s g fm hm so si sh ce ca td wa kp la bf oo bo pw ow tr)) at_X6_barsOf_2 rfl rfl (Nat.le_of_ble_eq_true rfl) rfl (ab_rvOf w65 rfl) e5 (by decide) rfl ?_
              refine E_istore (L2 := [some (.ref 65), some (.int (nI a1k)), some (.int a2), some (.int (nI 40)), some (.int (nI 1)), some (.int (nI 0))]) at_X6_barsOf_5 rfl ?_
              refine E_iload at_X6_barsOf_7 rfl ?_
              refine E_if (t := 17) (b := true) at_X6_barsOf_9 rfl (by decide) ?_
              refine E_iload_n at_X6_barsOf_17 rfl ?_
              refine E_if (t := 26) (b := false) at_X6_barsOf_18 rfl ((cn_ge rfl (by decide : (0 : Int32).toInt = 0)).trans (decide_eq_false (by omega))) ?_
              refine E_bipush (x := (-4)) at_X6_barsOf_21 (by decide) ?_
              refine E_goto (t := 59) at_X6_barsOf_23 rfl ?_
              exact E_iret at_X6_barsOf_59 rfl
            refine E_callV (v := some (.int (-4))) (As := [.ref 65, .int (nI a1k), .int a2, .int (nI 40), .int (nI 1)]) (r0 := []) (cs2 := (ww im lf s d k ls rf rz ra rn rq lt m1 m2 m3 m4 bd (fc.set 4 ((fc.getD 4 0) + (nI 1))) hd sz el s g fm hm so si sh ce ca td wa kp la bf oo bo pw ow tr)) at_X6_rules_6 rfl rfl (Nat.le_of_ble_eq_true rfl) rfl (ab_rvOf w65 rfl) e6 (by decide) rfl ?_
            refine E_istore_n (L2 := [some (.ref 65), some (.int (nI a1k)), some (.int a2), some (.int (-4)), none, none, none, none]) at_X6_rules_9 rfl ?_
            refine E_iconst (x := nI 0) at_X6_rules_10 (by decide) ?_
            refine E_istore (L2 := [some (.ref 65), some (.int (nI a1k)), some (.int a2), some (.int (-4)), some (.int (nI 0)), none, none, none]) at_X6_rules_11 rfl ?_
            refine E_iload at_X6_rules_13 rfl ?_
            refine E_iload_n at_X6_rules_15 rfl ?_
            refine E_ic (t := 51) (b := true) at_X6_rules_16 rfl ((cn_ge (nI_toInt (by omega)) rfl).trans (decide_eq_true (by omega))) ?_
            refine E_iload_n at_X6_rules_51 rfl ?_
            refine E_if (t := 61) (b := false) at_X6_rules_52 rfl (by decide) ?_
            refine E_aload_n at_X6_rules_55 rfl ?_
            refine E_iload_n at_X6_rules_56 rfl ?_
            refine E_callV (v := some (.int (-4))) (As := [.ref 65, .int (-4)]) (r0 := []) (cs2 := (ww im lf s d k ls rf rz ra rn rq lt m1 m2 m3 m4 bd (fc.set 4 ((fc.getD 4 0) + (nI 1))) hd sz el s g (fm.set 4 ((fm.getD 4 0) + (nI 1))) hm so si sh ce ca td wa kp la bf oo bo pw ow tr)) at_X6_rules_57 rfl rfl (Nat.le_of_ble_eq_true rfl) rfl (ab_rvOf w65 rfl) (L46_X6_no (by omega)) (by decide) w_lens ?_
            exact E_iret at_X6_rules_60 rfl
          · exact ⟨I, rfl, hf, iQ, iM, iT, iS, l_el, (lr.1), (lr.2.1), (lr.2.2.1), (by simp only [List.length_set]; exact (lr.2.2.2.1)), (by simp only [List.length_set]; exact (lr.2.2.2.2.1)), (lr.2.2.2.2.2.1), (lr.2.2.2.2.2.2.1), (lr.2.2.2.2.2.2.2.1), (lr.2.2.2.2.2.2.2.2.1), (lr.2.2.2.2.2.2.2.2.2.1), (lr.2.2.2.2.2.2.2.2.2.2.1), (lr.2.2.2.2.2.2.2.2.2.2.2.1), (lr.2.2.2.2.2.2.2.2.2.2.2.2.1), (lr.2.2.2.2.2.2.2.2.2.2.2.2.2.1), (lr.2.2.2.2.2.2.2.2.2.2.2.2.2.2.1), (lr.2.2.2.2.2.2.2.2.2.2.2.2.2.2.2.1), (lr.2.2.2.2.2.2.2.2.2.2.2.2.2.2.2.2.1), (lr.2.2.2.2.2.2.2.2.2.2.2.2.2.2.2.2.2.1), (lr.2.2.2.2.2.2.2.2.2.2.2.2.2.2.2.2.2.2.1), (lr.2.2.2.2.2.2.2.2.2.2.2.2.2.2.2.2.2.2.2.1), (lr.2.2.2.2.2.2.2.2.2.2.2.2.2.2.2.2.2.2.2.2)⟩
    · rcases ab_int a2 with ⟨a2k, f2, rfl⟩ | f2
      · by_cases f3 : 0 < a2k
        · refine ⟨(-1), (im, lf, s, d, k, ls, rf, rz, ra, rn, rq, lt, m1, m2, m3, m4, bd, (fc.set 1 ((fc.getD 1 0) + (nI 1))), hd, sz, el, s, g, fm, hm, so, si, sh, ce, ca, td, wa, kp, la, bf, oo, bo, pw, ow, tr), (im, lf, s, d, k, ls, rf, rz, ra, rn, rq, lt, m1, m2, m3, m4, bd, (fc.set 1 ((fc.getD 1 0) + (nI 1))), hd, sz, el, s, g, (fm.set 1 ((fm.getD 1 0) + (nI 1))), hm, so, si, sh, ce, ca, td, wa, kp, la, bf, oo, bo, pw, ow, tr), ?_, ?_, ?_⟩
          · show Ev ab_Z0 5 99 [.ref 0, .int (nI a1k), .int (nI a2k)] (ww im lf s d k ls rf rz ra rn rq lt m1 m2 m3 m4 bd fc hd sz el s g fm hm so si sh ce ca td wa kp la bf oo bo pw ow tr) (some (.int (-1)), (ww im lf s d k ls rf rz ra rn rq lt m1 m2 m3 m4 bd (fc.set 1 ((fc.getD 1 0) + (nI 1))) hd sz el s g fm hm so si sh ce ca td wa kp la bf oo bo pw ow tr))
            refine Ef.in (md := mX5_rules) (L := [some (.ref 0), some (.int (nI a1k)), some (.int (nI a2k)), none, none, none, none, none]) rfl (Nat.le_of_ble_eq_true rfl) rfl ?_
            refine E_aload_n at_X5_rules_0 rfl ?_
            refine E_iload_n at_X5_rules_1 rfl ?_
            refine E_iload_n at_X5_rules_2 rfl ?_
            refine E_bipush (x := nI 40) at_X5_rules_3 (by decide) ?_
            refine E_iconst (x := nI 0) at_X5_rules_5 (by decide) ?_
            have e2 : Ev ab_Z0 3 120 [.ref 0, .int (nI a1k), .int (nI a2k), .int (nI 40), .int (nI 0)] (ww im lf s d k ls rf rz ra rn rq lt m1 m2 m3 m4 bd fc hd sz el s g fm hm so si sh ce ca td wa kp la bf oo bo pw ow tr) (some (.int (nI 1)), (ww im lf s d k ls rf rz ra rn rq lt m1 m2 m3 m4 bd fc hd sz el s g fm hm so si sh ce ca td wa kp la bf oo bo pw ow tr)) := by
              refine Ef.in (md := mX5_whyNoTwos) (L := [some (.ref 0), some (.int (nI a1k)), some (.int (nI a2k)), some (.int (nI 40)), some (.int (nI 0)), none]) rfl (Nat.le_of_ble_eq_true rfl) rfl ?_
              refine E_aload_n at_X5_whyNoTwos_0 rfl ?_
              refine E_iload_n at_X5_whyNoTwos_1 rfl ?_
              have e1 : Ev ab_Z0 2 119 [.ref 0, .int (nI a1k)] (ww im lf s d k ls rf rz ra rn rq lt m1 m2 m3 m4 bd fc hd sz el s g fm hm so si sh ce ca td wa kp la bf oo bo pw ow tr) (some (.int (nI 1)), (ww im lf s d k ls rf rz ra rn rq lt m1 m2 m3 m4 bd fc hd sz el s g fm hm so si sh ce ca td wa kp la bf oo bo pw ow tr)) := by
                refine Ef.in (md := mX5_whyNoRow) (L := [some (.ref 0), some (.int (nI a1k))]) rfl (Nat.le_of_ble_eq_true rfl) rfl ?_
                refine E_iload_n at_X5_whyNoRow_0 rfl ?_
                refine E_callS (v := some (.int (nI 0))) (As := [.int (nI a1k)]) (r0 := []) (cs2 := (ww im lf s d k ls rf rz ra rn rq lt m1 m2 m3 m4 bd fc hd sz el s g fm hm so si sh ce ca td wa kp la bf oo bo pw ow tr)) at_X5_whyNoRow_1 rfl rfl (Nat.le_of_ble_eq_true rfl) rfl (L47_X5_isShelf (by omega) (by omega) (by omega)) (by decide) rfl ?_
                refine E_if (t := 9) (b := false) at_X5_whyNoRow_4 rfl (by decide) ?_
                refine E_iconst (x := nI 1) at_X5_whyNoRow_7 (by decide) ?_
                exact E_iret at_X5_whyNoRow_8 rfl
              refine E_callV (v := some (.int (nI 1))) (As := [.ref 0, .int (nI a1k)]) (r0 := []) (cs2 := (ww im lf s d k ls rf rz ra rn rq lt m1 m2 m3 m4 bd fc hd sz el s g fm hm so si sh ce ca td wa kp la bf oo bo pw ow tr)) at_X5_whyNoTwos_2 rfl rfl (Nat.le_of_ble_eq_true rfl) rfl (ab_rvOf w0 rfl) e1 (by decide) rfl ?_
              refine E_istore (L2 := [some (.ref 0), some (.int (nI a1k)), some (.int (nI a2k)), some (.int (nI 40)), some (.int (nI 0)), some (.int (nI 1))]) at_X5_whyNoTwos_5 rfl ?_
              refine E_iload at_X5_whyNoTwos_7 rfl ?_
              refine E_if (t := 15) (b := false) at_X5_whyNoTwos_9 rfl (by decide) ?_
              refine E_iload at_X5_whyNoTwos_12 rfl ?_
              exact E_iret at_X5_whyNoTwos_14 rfl
            refine E_callV (v := some (.int (nI 1))) (As := [.ref 0, .int (nI a1k), .int (nI a2k), .int (nI 40), .int (nI 0)]) (r0 := []) (cs2 := (ww im lf s d k ls rf rz ra rn rq lt m1 m2 m3 m4 bd fc hd sz el s g fm hm so si sh ce ca td wa kp la bf oo bo pw ow tr)) at_X5_rules_6 rfl rfl (Nat.le_of_ble_eq_true rfl) rfl (ab_rvOf w0 rfl) e2 (by decide) rfl ?_
            refine E_istore_n (L2 := [some (.ref 0), some (.int (nI a1k)), some (.int (nI a2k)), some (.int (nI 1)), none, none, none, none]) at_X5_rules_9 rfl ?_
            refine E_iload_n at_X5_rules_10 rfl ?_
            refine E_if (t := 20) (b := false) at_X5_rules_11 rfl (by decide) ?_
            refine E_aload_n at_X5_rules_14 rfl ?_
            refine E_iload_n at_X5_rules_15 rfl ?_
            refine E_callV (v := some (.int (-1))) (As := [.ref 0, .int (nI 1)]) (r0 := []) (cs2 := (ww im lf s d k ls rf rz ra rn rq lt m1 m2 m3 m4 bd (fc.set 1 ((fc.getD 1 0) + (nI 1))) hd sz el s g fm hm so si sh ce ca td wa kp la bf oo bo pw ow tr)) at_X5_rules_16 rfl rfl (Nat.le_of_ble_eq_true rfl) rfl (ab_rvOf w0 rfl) (L6_X5_refuse (by omega)) (by decide) w_lens ?_
            exact E_iret at_X5_rules_19 rfl
          · show Ev ab_Z0 4 187 [.ref 65, .int (nI a1k), .int (nI a2k)] (ww im lf s d k ls rf rz ra rn rq lt m1 m2 m3 m4 bd (fc.set 1 ((fc.getD 1 0) + (nI 1))) hd sz el s g fm hm so si sh ce ca td wa kp la bf oo bo pw ow tr) (some (.int (-1)), (ww im lf s d k ls rf rz ra rn rq lt m1 m2 m3 m4 bd (fc.set 1 ((fc.getD 1 0) + (nI 1))) hd sz el s g (fm.set 1 ((fm.getD 1 0) + (nI 1))) hm so si sh ce ca td wa kp la bf oo bo pw ow tr))
            refine Ef.in (md := mX6_rules) (L := [some (.ref 65), some (.int (nI a1k)), some (.int (nI a2k)), none, none, none, none, none]) rfl (Nat.le_of_ble_eq_true rfl) rfl ?_
            refine E_aload_n at_X6_rules_0 rfl ?_
            refine E_iload_n at_X6_rules_1 rfl ?_
            refine E_iload_n at_X6_rules_2 rfl ?_
            refine E_bipush (x := nI 40) at_X6_rules_3 (by decide) ?_
            refine E_iconst (x := nI 1) at_X6_rules_5 (by decide) ?_
            have e4 : Ev ab_Z0 3 186 [.ref 65, .int (nI a1k), .int (nI a2k), .int (nI 40), .int (nI 1)] (ww im lf s d k ls rf rz ra rn rq lt m1 m2 m3 m4 bd (fc.set 1 ((fc.getD 1 0) + (nI 1))) hd sz el s g fm hm so si sh ce ca td wa kp la bf oo bo pw ow tr) (some (.int (-1)), (ww im lf s d k ls rf rz ra rn rq lt m1 m2 m3 m4 bd (fc.set 1 ((fc.getD 1 0) + (nI 1))) hd sz el s g fm hm so si sh ce ca td wa kp la bf oo bo pw ow tr)) := by
              refine Ef.in (md := mX6_barsOf) (L := [some (.ref 65), some (.int (nI a1k)), some (.int (nI a2k)), some (.int (nI 40)), some (.int (nI 1)), none]) rfl (Nat.le_of_ble_eq_true rfl) rfl ?_
              refine E_aload_n at_X6_barsOf_0 rfl ?_
              refine E_iload_n at_X6_barsOf_1 rfl ?_
              have e3 : Ev ab_Z0 2 142 [.ref 65, .int (nI a1k)] (ww im lf s d k ls rf rz ra rn rq lt m1 m2 m3 m4 bd (fc.set 1 ((fc.getD 1 0) + (nI 1))) hd sz el s g fm hm so si sh ce ca td wa kp la bf oo bo pw ow tr) (some (.int (-1)), (ww im lf s d k ls rf rz ra rn rq lt m1 m2 m3 m4 bd (fc.set 1 ((fc.getD 1 0) + (nI 1))) hd sz el s g fm hm so si sh ce ca td wa kp la bf oo bo pw ow tr)) := by
                refine Ef.in (md := mX6_wanted) (L := [some (.ref 65), some (.int (nI a1k))]) rfl (Nat.le_of_ble_eq_true rfl) rfl ?_
                refine E_aload_n at_X6_wanted_0 rfl ?_
                refine E_iload_n at_X6_wanted_1 rfl ?_
                refine E_callV (v := some (.int (nI 0))) (As := [.ref 65, .int (nI a1k)]) (r0 := []) (cs2 := (ww im lf s d k ls rf rz ra rn rq lt m1 m2 m3 m4 bd (fc.set 1 ((fc.getD 1 0) + (nI 1))) hd sz el s g fm hm so si sh ce ca td wa kp la bf oo bo pw ow tr)) at_X6_wanted_2 rfl rfl (Nat.le_of_ble_eq_true rfl) rfl (ab_rvOf w65 rfl) (L48_X6_isShelf (by omega) (by omega) (by omega)) (by decide) rfl ?_
                refine E_if (t := 12) (b := false) at_X6_wanted_5 rfl (by decide) ?_
                refine E_iconst (x := (-1)) at_X6_wanted_8 (by decide) ?_
                refine E_goto (t := 42) at_X6_wanted_9 rfl ?_
                exact E_iret at_X6_wanted_42 rfl
              refine E_callV (v := some (.int (-1))) (As := [.ref 65, .int (nI a1k)]) (r0 := []) (cs2 := (ww im lf s d k ls rf rz ra rn rq lt m1 m2 m3 m4 bd (fc.set 1 ((fc.getD 1 0) + (nI 1))) hd sz el s g fm hm so si sh ce ca td wa kp la bf oo bo pw ow tr)) at_X6_barsOf_2 rfl rfl (Nat.le_of_ble_eq_true rfl) rfl (ab_rvOf w65 rfl) e3 (by decide) rfl ?_
              refine E_istore (L2 := [some (.ref 65), some (.int (nI a1k)), some (.int (nI a2k)), some (.int (nI 40)), some (.int (nI 1)), some (.int (-1))]) at_X6_barsOf_5 rfl ?_
              refine E_iload at_X6_barsOf_7 rfl ?_
              refine E_if (t := 17) (b := false) at_X6_barsOf_9 rfl (by decide) ?_
              refine E_iload at_X6_barsOf_12 rfl ?_
              refine E_goto (t := 59) at_X6_barsOf_14 rfl ?_
              exact E_iret at_X6_barsOf_59 rfl
            refine E_callV (v := some (.int (-1))) (As := [.ref 65, .int (nI a1k), .int (nI a2k), .int (nI 40), .int (nI 1)]) (r0 := []) (cs2 := (ww im lf s d k ls rf rz ra rn rq lt m1 m2 m3 m4 bd (fc.set 1 ((fc.getD 1 0) + (nI 1))) hd sz el s g fm hm so si sh ce ca td wa kp la bf oo bo pw ow tr)) at_X6_rules_6 rfl rfl (Nat.le_of_ble_eq_true rfl) rfl (ab_rvOf w65 rfl) e4 (by decide) rfl ?_
            refine E_istore_n (L2 := [some (.ref 65), some (.int (nI a1k)), some (.int (nI a2k)), some (.int (-1)), none, none, none, none]) at_X6_rules_9 rfl ?_
            refine E_iconst (x := nI 0) at_X6_rules_10 (by decide) ?_
            refine E_istore (L2 := [some (.ref 65), some (.int (nI a1k)), some (.int (nI a2k)), some (.int (-1)), some (.int (nI 0)), none, none, none]) at_X6_rules_11 rfl ?_
            refine E_iload at_X6_rules_13 rfl ?_
            refine E_iload_n at_X6_rules_15 rfl ?_
            refine E_ic (t := 51) (b := false) at_X6_rules_16 rfl ((cn_ge (nI_toInt (by omega)) (nI_toInt (by omega))).trans (decide_eq_false (by omega))) ?_
            refine E_iload_n at_X6_rules_19 rfl ?_
            refine E_if (t := 51) (b := true) at_X6_rules_20 rfl (by decide) ?_
            refine E_iload_n at_X6_rules_51 rfl ?_
            refine E_if (t := 61) (b := false) at_X6_rules_52 rfl (by decide) ?_
            refine E_aload_n at_X6_rules_55 rfl ?_
            refine E_iload_n at_X6_rules_56 rfl ?_
            refine E_callV (v := some (.int (-1))) (As := [.ref 65, .int (-1)]) (r0 := []) (cs2 := (ww im lf s d k ls rf rz ra rn rq lt m1 m2 m3 m4 bd (fc.set 1 ((fc.getD 1 0) + (nI 1))) hd sz el s g (fm.set 1 ((fm.getD 1 0) + (nI 1))) hm so si sh ce ca td wa kp la bf oo bo pw ow tr)) at_X6_rules_57 rfl rfl (Nat.le_of_ble_eq_true rfl) rfl (ab_rvOf w65 rfl) (L8_X6_no (by omega)) (by decide) w_lens ?_
            exact E_iret at_X6_rules_60 rfl
          · exact ⟨I, rfl, hf, iQ, iM, iT, iS, l_el, (lr.1), (lr.2.1), (lr.2.2.1), (by simp only [List.length_set]; exact (lr.2.2.2.1)), (by simp only [List.length_set]; exact (lr.2.2.2.2.1)), (lr.2.2.2.2.2.1), (lr.2.2.2.2.2.2.1), (lr.2.2.2.2.2.2.2.1), (lr.2.2.2.2.2.2.2.2.1), (lr.2.2.2.2.2.2.2.2.2.1), (lr.2.2.2.2.2.2.2.2.2.2.1), (lr.2.2.2.2.2.2.2.2.2.2.2.1), (lr.2.2.2.2.2.2.2.2.2.2.2.2.1), (lr.2.2.2.2.2.2.2.2.2.2.2.2.2.1), (lr.2.2.2.2.2.2.2.2.2.2.2.2.2.2.1), (lr.2.2.2.2.2.2.2.2.2.2.2.2.2.2.2.1), (lr.2.2.2.2.2.2.2.2.2.2.2.2.2.2.2.2.1), (lr.2.2.2.2.2.2.2.2.2.2.2.2.2.2.2.2.2.1), (lr.2.2.2.2.2.2.2.2.2.2.2.2.2.2.2.2.2.2.1), (lr.2.2.2.2.2.2.2.2.2.2.2.2.2.2.2.2.2.2.2.1), (lr.2.2.2.2.2.2.2.2.2.2.2.2.2.2.2.2.2.2.2.2)⟩
        · refine ⟨(-1), (im, lf, s, d, k, ls, rf, rz, ra, rn, rq, lt, m1, m2, m3, m4, bd, (fc.set 1 ((fc.getD 1 0) + (nI 1))), hd, sz, el, s, g, fm, hm, so, si, sh, ce, ca, td, wa, kp, la, bf, oo, bo, pw, ow, tr), (im, lf, s, d, k, ls, rf, rz, ra, rn, rq, lt, m1, m2, m3, m4, bd, (fc.set 1 ((fc.getD 1 0) + (nI 1))), hd, sz, el, s, g, (fm.set 1 ((fm.getD 1 0) + (nI 1))), hm, so, si, sh, ce, ca, td, wa, kp, la, bf, oo, bo, pw, ow, tr), ?_, ?_, ?_⟩
          · show Ev ab_Z0 5 99 [.ref 0, .int (nI a1k), .int (nI a2k)] (ww im lf s d k ls rf rz ra rn rq lt m1 m2 m3 m4 bd fc hd sz el s g fm hm so si sh ce ca td wa kp la bf oo bo pw ow tr) (some (.int (-1)), (ww im lf s d k ls rf rz ra rn rq lt m1 m2 m3 m4 bd (fc.set 1 ((fc.getD 1 0) + (nI 1))) hd sz el s g fm hm so si sh ce ca td wa kp la bf oo bo pw ow tr))
            refine Ef.in (md := mX5_rules) (L := [some (.ref 0), some (.int (nI a1k)), some (.int (nI a2k)), none, none, none, none, none]) rfl (Nat.le_of_ble_eq_true rfl) rfl ?_
            refine E_aload_n at_X5_rules_0 rfl ?_
            refine E_iload_n at_X5_rules_1 rfl ?_
            refine E_iload_n at_X5_rules_2 rfl ?_
            refine E_bipush (x := nI 40) at_X5_rules_3 (by decide) ?_
            refine E_iconst (x := nI 0) at_X5_rules_5 (by decide) ?_
            have e2 : Ev ab_Z0 3 120 [.ref 0, .int (nI a1k), .int (nI a2k), .int (nI 40), .int (nI 0)] (ww im lf s d k ls rf rz ra rn rq lt m1 m2 m3 m4 bd fc hd sz el s g fm hm so si sh ce ca td wa kp la bf oo bo pw ow tr) (some (.int (nI 1)), (ww im lf s d k ls rf rz ra rn rq lt m1 m2 m3 m4 bd fc hd sz el s g fm hm so si sh ce ca td wa kp la bf oo bo pw ow tr)) := by
              refine Ef.in (md := mX5_whyNoTwos) (L := [some (.ref 0), some (.int (nI a1k)), some (.int (nI a2k)), some (.int (nI 40)), some (.int (nI 0)), none]) rfl (Nat.le_of_ble_eq_true rfl) rfl ?_
              refine E_aload_n at_X5_whyNoTwos_0 rfl ?_
              refine E_iload_n at_X5_whyNoTwos_1 rfl ?_
              have e1 : Ev ab_Z0 2 119 [.ref 0, .int (nI a1k)] (ww im lf s d k ls rf rz ra rn rq lt m1 m2 m3 m4 bd fc hd sz el s g fm hm so si sh ce ca td wa kp la bf oo bo pw ow tr) (some (.int (nI 1)), (ww im lf s d k ls rf rz ra rn rq lt m1 m2 m3 m4 bd fc hd sz el s g fm hm so si sh ce ca td wa kp la bf oo bo pw ow tr)) := by
                refine Ef.in (md := mX5_whyNoRow) (L := [some (.ref 0), some (.int (nI a1k))]) rfl (Nat.le_of_ble_eq_true rfl) rfl ?_
                refine E_iload_n at_X5_whyNoRow_0 rfl ?_
                refine E_callS (v := some (.int (nI 0))) (As := [.int (nI a1k)]) (r0 := []) (cs2 := (ww im lf s d k ls rf rz ra rn rq lt m1 m2 m3 m4 bd fc hd sz el s g fm hm so si sh ce ca td wa kp la bf oo bo pw ow tr)) at_X5_whyNoRow_1 rfl rfl (Nat.le_of_ble_eq_true rfl) rfl (L47_X5_isShelf (by omega) (by omega) (by omega)) (by decide) rfl ?_
                refine E_if (t := 9) (b := false) at_X5_whyNoRow_4 rfl (by decide) ?_
                refine E_iconst (x := nI 1) at_X5_whyNoRow_7 (by decide) ?_
                exact E_iret at_X5_whyNoRow_8 rfl
              refine E_callV (v := some (.int (nI 1))) (As := [.ref 0, .int (nI a1k)]) (r0 := []) (cs2 := (ww im lf s d k ls rf rz ra rn rq lt m1 m2 m3 m4 bd fc hd sz el s g fm hm so si sh ce ca td wa kp la bf oo bo pw ow tr)) at_X5_whyNoTwos_2 rfl rfl (Nat.le_of_ble_eq_true rfl) rfl (ab_rvOf w0 rfl) e1 (by decide) rfl ?_
              refine E_istore (L2 := [some (.ref 0), some (.int (nI a1k)), some (.int (nI a2k)), some (.int (nI 40)), some (.int (nI 0)), some (.int (nI 1))]) at_X5_whyNoTwos_5 rfl ?_
              refine E_iload at_X5_whyNoTwos_7 rfl ?_
              refine E_if (t := 15) (b := false) at_X5_whyNoTwos_9 rfl (by decide) ?_
              refine E_iload at_X5_whyNoTwos_12 rfl ?_
              exact E_iret at_X5_whyNoTwos_14 rfl
            refine E_callV (v := some (.int (nI 1))) (As := [.ref 0, .int (nI a1k), .int (nI a2k), .int (nI 40), .int (nI 0)]) (r0 := []) (cs2 := (ww im lf s d k ls rf rz ra rn rq lt m1 m2 m3 m4 bd fc hd sz el s g fm hm so si sh ce ca td wa kp la bf oo bo pw ow tr)) at_X5_rules_6 rfl rfl (Nat.le_of_ble_eq_true rfl) rfl (ab_rvOf w0 rfl) e2 (by decide) rfl ?_
            refine E_istore_n (L2 := [some (.ref 0), some (.int (nI a1k)), some (.int (nI a2k)), some (.int (nI 1)), none, none, none, none]) at_X5_rules_9 rfl ?_
            refine E_iload_n at_X5_rules_10 rfl ?_
            refine E_if (t := 20) (b := false) at_X5_rules_11 rfl (by decide) ?_
            refine E_aload_n at_X5_rules_14 rfl ?_
            refine E_iload_n at_X5_rules_15 rfl ?_
            refine E_callV (v := some (.int (-1))) (As := [.ref 0, .int (nI 1)]) (r0 := []) (cs2 := (ww im lf s d k ls rf rz ra rn rq lt m1 m2 m3 m4 bd (fc.set 1 ((fc.getD 1 0) + (nI 1))) hd sz el s g fm hm so si sh ce ca td wa kp la bf oo bo pw ow tr)) at_X5_rules_16 rfl rfl (Nat.le_of_ble_eq_true rfl) rfl (ab_rvOf w0 rfl) (L6_X5_refuse (by omega)) (by decide) w_lens ?_
            exact E_iret at_X5_rules_19 rfl
          · show Ev ab_Z0 4 187 [.ref 65, .int (nI a1k), .int (nI a2k)] (ww im lf s d k ls rf rz ra rn rq lt m1 m2 m3 m4 bd (fc.set 1 ((fc.getD 1 0) + (nI 1))) hd sz el s g fm hm so si sh ce ca td wa kp la bf oo bo pw ow tr) (some (.int (-1)), (ww im lf s d k ls rf rz ra rn rq lt m1 m2 m3 m4 bd (fc.set 1 ((fc.getD 1 0) + (nI 1))) hd sz el s g (fm.set 1 ((fm.getD 1 0) + (nI 1))) hm so si sh ce ca td wa kp la bf oo bo pw ow tr))
            refine Ef.in (md := mX6_rules) (L := [some (.ref 65), some (.int (nI a1k)), some (.int (nI a2k)), none, none, none, none, none]) rfl (Nat.le_of_ble_eq_true rfl) rfl ?_
            refine E_aload_n at_X6_rules_0 rfl ?_
            refine E_iload_n at_X6_rules_1 rfl ?_
            refine E_iload_n at_X6_rules_2 rfl ?_
            refine E_bipush (x := nI 40) at_X6_rules_3 (by decide) ?_
            refine E_iconst (x := nI 1) at_X6_rules_5 (by decide) ?_
            have e4 : Ev ab_Z0 3 186 [.ref 65, .int (nI a1k), .int (nI a2k), .int (nI 40), .int (nI 1)] (ww im lf s d k ls rf rz ra rn rq lt m1 m2 m3 m4 bd (fc.set 1 ((fc.getD 1 0) + (nI 1))) hd sz el s g fm hm so si sh ce ca td wa kp la bf oo bo pw ow tr) (some (.int (-1)), (ww im lf s d k ls rf rz ra rn rq lt m1 m2 m3 m4 bd (fc.set 1 ((fc.getD 1 0) + (nI 1))) hd sz el s g fm hm so si sh ce ca td wa kp la bf oo bo pw ow tr)) := by
              refine Ef.in (md := mX6_barsOf) (L := [some (.ref 65), some (.int (nI a1k)), some (.int (nI a2k)), some (.int (nI 40)), some (.int (nI 1)), none]) rfl (Nat.le_of_ble_eq_true rfl) rfl ?_
              refine E_aload_n at_X6_barsOf_0 rfl ?_
              refine E_iload_n at_X6_barsOf_1 rfl ?_
              have e3 : Ev ab_Z0 2 142 [.ref 65, .int (nI a1k)] (ww im lf s d k ls rf rz ra rn rq lt m1 m2 m3 m4 bd (fc.set 1 ((fc.getD 1 0) + (nI 1))) hd sz el s g fm hm so si sh ce ca td wa kp la bf oo bo pw ow tr) (some (.int (-1)), (ww im lf s d k ls rf rz ra rn rq lt m1 m2 m3 m4 bd (fc.set 1 ((fc.getD 1 0) + (nI 1))) hd sz el s g fm hm so si sh ce ca td wa kp la bf oo bo pw ow tr)) := by
                refine Ef.in (md := mX6_wanted) (L := [some (.ref 65), some (.int (nI a1k))]) rfl (Nat.le_of_ble_eq_true rfl) rfl ?_
                refine E_aload_n at_X6_wanted_0 rfl ?_
                refine E_iload_n at_X6_wanted_1 rfl ?_
                refine E_callV (v := some (.int (nI 0))) (As := [.ref 65, .int (nI a1k)]) (r0 := []) (cs2 := (ww im lf s d k ls rf rz ra rn rq lt m1 m2 m3 m4 bd (fc.set 1 ((fc.getD 1 0) + (nI 1))) hd sz el s g fm hm so si sh ce ca td wa kp la bf oo bo pw ow tr)) at_X6_wanted_2 rfl rfl (Nat.le_of_ble_eq_true rfl) rfl (ab_rvOf w65 rfl) (L48_X6_isShelf (by omega) (by omega) (by omega)) (by decide) rfl ?_
                refine E_if (t := 12) (b := false) at_X6_wanted_5 rfl (by decide) ?_
                refine E_iconst (x := (-1)) at_X6_wanted_8 (by decide) ?_
                refine E_goto (t := 42) at_X6_wanted_9 rfl ?_
                exact E_iret at_X6_wanted_42 rfl
              refine E_callV (v := some (.int (-1))) (As := [.ref 65, .int (nI a1k)]) (r0 := []) (cs2 := (ww im lf s d k ls rf rz ra rn rq lt m1 m2 m3 m4 bd (fc.set 1 ((fc.getD 1 0) + (nI 1))) hd sz el s g fm hm so si sh ce ca td wa kp la bf oo bo pw ow tr)) at_X6_barsOf_2 rfl rfl (Nat.le_of_ble_eq_true rfl) rfl (ab_rvOf w65 rfl) e3 (by decide) rfl ?_
              refine E_istore (L2 := [some (.ref 65), some (.int (nI a1k)), some (.int (nI a2k)), some (.int (nI 40)), some (.int (nI 1)), some (.int (-1))]) at_X6_barsOf_5 rfl ?_
              refine E_iload at_X6_barsOf_7 rfl ?_
              refine E_if (t := 17) (b := false) at_X6_barsOf_9 rfl (by decide) ?_
              refine E_iload at_X6_barsOf_12 rfl ?_
              refine E_goto (t := 59) at_X6_barsOf_14 rfl ?_
              exact E_iret at_X6_barsOf_59 rfl
            refine E_callV (v := some (.int (-1))) (As := [.ref 65, .int (nI a1k), .int (nI a2k), .int (nI 40), .int (nI 1)]) (r0 := []) (cs2 := (ww im lf s d k ls rf rz ra rn rq lt m1 m2 m3 m4 bd (fc.set 1 ((fc.getD 1 0) + (nI 1))) hd sz el s g fm hm so si sh ce ca td wa kp la bf oo bo pw ow tr)) at_X6_rules_6 rfl rfl (Nat.le_of_ble_eq_true rfl) rfl (ab_rvOf w65 rfl) e4 (by decide) rfl ?_
            refine E_istore_n (L2 := [some (.ref 65), some (.int (nI a1k)), some (.int (nI a2k)), some (.int (-1)), none, none, none, none]) at_X6_rules_9 rfl ?_
            refine E_iconst (x := nI 0) at_X6_rules_10 (by decide) ?_
            refine E_istore (L2 := [some (.ref 65), some (.int (nI a1k)), some (.int (nI a2k)), some (.int (-1)), some (.int (nI 0)), none, none, none]) at_X6_rules_11 rfl ?_
            refine E_iload at_X6_rules_13 rfl ?_
            refine E_iload_n at_X6_rules_15 rfl ?_
            refine E_ic (t := 51) (b := true) at_X6_rules_16 rfl ((cn_ge (nI_toInt (by omega)) (nI_toInt (by omega))).trans (decide_eq_true (by omega))) ?_
            refine E_iload_n at_X6_rules_51 rfl ?_
            refine E_if (t := 61) (b := false) at_X6_rules_52 rfl (by decide) ?_
            refine E_aload_n at_X6_rules_55 rfl ?_
            refine E_iload_n at_X6_rules_56 rfl ?_
            refine E_callV (v := some (.int (-1))) (As := [.ref 65, .int (-1)]) (r0 := []) (cs2 := (ww im lf s d k ls rf rz ra rn rq lt m1 m2 m3 m4 bd (fc.set 1 ((fc.getD 1 0) + (nI 1))) hd sz el s g (fm.set 1 ((fm.getD 1 0) + (nI 1))) hm so si sh ce ca td wa kp la bf oo bo pw ow tr)) at_X6_rules_57 rfl rfl (Nat.le_of_ble_eq_true rfl) rfl (ab_rvOf w65 rfl) (L8_X6_no (by omega)) (by decide) w_lens ?_
            exact E_iret at_X6_rules_60 rfl
          · exact ⟨I, rfl, hf, iQ, iM, iT, iS, l_el, (lr.1), (lr.2.1), (lr.2.2.1), (by simp only [List.length_set]; exact (lr.2.2.2.1)), (by simp only [List.length_set]; exact (lr.2.2.2.2.1)), (lr.2.2.2.2.2.1), (lr.2.2.2.2.2.2.1), (lr.2.2.2.2.2.2.2.1), (lr.2.2.2.2.2.2.2.2.1), (lr.2.2.2.2.2.2.2.2.2.1), (lr.2.2.2.2.2.2.2.2.2.2.1), (lr.2.2.2.2.2.2.2.2.2.2.2.1), (lr.2.2.2.2.2.2.2.2.2.2.2.2.1), (lr.2.2.2.2.2.2.2.2.2.2.2.2.2.1), (lr.2.2.2.2.2.2.2.2.2.2.2.2.2.2.1), (lr.2.2.2.2.2.2.2.2.2.2.2.2.2.2.2.1), (lr.2.2.2.2.2.2.2.2.2.2.2.2.2.2.2.2.1), (lr.2.2.2.2.2.2.2.2.2.2.2.2.2.2.2.2.2.1), (lr.2.2.2.2.2.2.2.2.2.2.2.2.2.2.2.2.2.2.1), (lr.2.2.2.2.2.2.2.2.2.2.2.2.2.2.2.2.2.2.2.1), (lr.2.2.2.2.2.2.2.2.2.2.2.2.2.2.2.2.2.2.2.2)⟩
      · refine ⟨(-1), (im, lf, s, d, k, ls, rf, rz, ra, rn, rq, lt, m1, m2, m3, m4, bd, (fc.set 1 ((fc.getD 1 0) + (nI 1))), hd, sz, el, s, g, fm, hm, so, si, sh, ce, ca, td, wa, kp, la, bf, oo, bo, pw, ow, tr), (im, lf, s, d, k, ls, rf, rz, ra, rn, rq, lt, m1, m2, m3, m4, bd, (fc.set 1 ((fc.getD 1 0) + (nI 1))), hd, sz, el, s, g, (fm.set 1 ((fm.getD 1 0) + (nI 1))), hm, so, si, sh, ce, ca, td, wa, kp, la, bf, oo, bo, pw, ow, tr), ?_, ?_, ?_⟩
        · show Ev ab_Z0 5 99 [.ref 0, .int (nI a1k), .int a2] (ww im lf s d k ls rf rz ra rn rq lt m1 m2 m3 m4 bd fc hd sz el s g fm hm so si sh ce ca td wa kp la bf oo bo pw ow tr) (some (.int (-1)), (ww im lf s d k ls rf rz ra rn rq lt m1 m2 m3 m4 bd (fc.set 1 ((fc.getD 1 0) + (nI 1))) hd sz el s g fm hm so si sh ce ca td wa kp la bf oo bo pw ow tr))
          refine Ef.in (md := mX5_rules) (L := [some (.ref 0), some (.int (nI a1k)), some (.int a2), none, none, none, none, none]) rfl (Nat.le_of_ble_eq_true rfl) rfl ?_
          refine E_aload_n at_X5_rules_0 rfl ?_
          refine E_iload_n at_X5_rules_1 rfl ?_
          refine E_iload_n at_X5_rules_2 rfl ?_
          refine E_bipush (x := nI 40) at_X5_rules_3 (by decide) ?_
          refine E_iconst (x := nI 0) at_X5_rules_5 (by decide) ?_
          have e2 : Ev ab_Z0 3 120 [.ref 0, .int (nI a1k), .int a2, .int (nI 40), .int (nI 0)] (ww im lf s d k ls rf rz ra rn rq lt m1 m2 m3 m4 bd fc hd sz el s g fm hm so si sh ce ca td wa kp la bf oo bo pw ow tr) (some (.int (nI 1)), (ww im lf s d k ls rf rz ra rn rq lt m1 m2 m3 m4 bd fc hd sz el s g fm hm so si sh ce ca td wa kp la bf oo bo pw ow tr)) := by
            refine Ef.in (md := mX5_whyNoTwos) (L := [some (.ref 0), some (.int (nI a1k)), some (.int a2), some (.int (nI 40)), some (.int (nI 0)), none]) rfl (Nat.le_of_ble_eq_true rfl) rfl ?_
            refine E_aload_n at_X5_whyNoTwos_0 rfl ?_
            refine E_iload_n at_X5_whyNoTwos_1 rfl ?_
            have e1 : Ev ab_Z0 2 119 [.ref 0, .int (nI a1k)] (ww im lf s d k ls rf rz ra rn rq lt m1 m2 m3 m4 bd fc hd sz el s g fm hm so si sh ce ca td wa kp la bf oo bo pw ow tr) (some (.int (nI 1)), (ww im lf s d k ls rf rz ra rn rq lt m1 m2 m3 m4 bd fc hd sz el s g fm hm so si sh ce ca td wa kp la bf oo bo pw ow tr)) := by
              refine Ef.in (md := mX5_whyNoRow) (L := [some (.ref 0), some (.int (nI a1k))]) rfl (Nat.le_of_ble_eq_true rfl) rfl ?_
              refine E_iload_n at_X5_whyNoRow_0 rfl ?_
              refine E_callS (v := some (.int (nI 0))) (As := [.int (nI a1k)]) (r0 := []) (cs2 := (ww im lf s d k ls rf rz ra rn rq lt m1 m2 m3 m4 bd fc hd sz el s g fm hm so si sh ce ca td wa kp la bf oo bo pw ow tr)) at_X5_whyNoRow_1 rfl rfl (Nat.le_of_ble_eq_true rfl) rfl (L47_X5_isShelf (by omega) (by omega) (by omega)) (by decide) rfl ?_
              refine E_if (t := 9) (b := false) at_X5_whyNoRow_4 rfl (by decide) ?_
              refine E_iconst (x := nI 1) at_X5_whyNoRow_7 (by decide) ?_
              exact E_iret at_X5_whyNoRow_8 rfl
            refine E_callV (v := some (.int (nI 1))) (As := [.ref 0, .int (nI a1k)]) (r0 := []) (cs2 := (ww im lf s d k ls rf rz ra rn rq lt m1 m2 m3 m4 bd fc hd sz el s g fm hm so si sh ce ca td wa kp la bf oo bo pw ow tr)) at_X5_whyNoTwos_2 rfl rfl (Nat.le_of_ble_eq_true rfl) rfl (ab_rvOf w0 rfl) e1 (by decide) rfl ?_
            refine E_istore (L2 := [some (.ref 0), some (.int (nI a1k)), some (.int a2), some (.int (nI 40)), some (.int (nI 0)), some (.int (nI 1))]) at_X5_whyNoTwos_5 rfl ?_
            refine E_iload at_X5_whyNoTwos_7 rfl ?_
            refine E_if (t := 15) (b := false) at_X5_whyNoTwos_9 rfl (by decide) ?_
            refine E_iload at_X5_whyNoTwos_12 rfl ?_
            exact E_iret at_X5_whyNoTwos_14 rfl
          refine E_callV (v := some (.int (nI 1))) (As := [.ref 0, .int (nI a1k), .int a2, .int (nI 40), .int (nI 0)]) (r0 := []) (cs2 := (ww im lf s d k ls rf rz ra rn rq lt m1 m2 m3 m4 bd fc hd sz el s g fm hm so si sh ce ca td wa kp la bf oo bo pw ow tr)) at_X5_rules_6 rfl rfl (Nat.le_of_ble_eq_true rfl) rfl (ab_rvOf w0 rfl) e2 (by decide) rfl ?_
          refine E_istore_n (L2 := [some (.ref 0), some (.int (nI a1k)), some (.int a2), some (.int (nI 1)), none, none, none, none]) at_X5_rules_9 rfl ?_
          refine E_iload_n at_X5_rules_10 rfl ?_
          refine E_if (t := 20) (b := false) at_X5_rules_11 rfl (by decide) ?_
          refine E_aload_n at_X5_rules_14 rfl ?_
          refine E_iload_n at_X5_rules_15 rfl ?_
          refine E_callV (v := some (.int (-1))) (As := [.ref 0, .int (nI 1)]) (r0 := []) (cs2 := (ww im lf s d k ls rf rz ra rn rq lt m1 m2 m3 m4 bd (fc.set 1 ((fc.getD 1 0) + (nI 1))) hd sz el s g fm hm so si sh ce ca td wa kp la bf oo bo pw ow tr)) at_X5_rules_16 rfl rfl (Nat.le_of_ble_eq_true rfl) rfl (ab_rvOf w0 rfl) (L6_X5_refuse (by omega)) (by decide) w_lens ?_
          exact E_iret at_X5_rules_19 rfl
        · show Ev ab_Z0 4 187 [.ref 65, .int (nI a1k), .int a2] (ww im lf s d k ls rf rz ra rn rq lt m1 m2 m3 m4 bd (fc.set 1 ((fc.getD 1 0) + (nI 1))) hd sz el s g fm hm so si sh ce ca td wa kp la bf oo bo pw ow tr) (some (.int (-1)), (ww im lf s d k ls rf rz ra rn rq lt m1 m2 m3 m4 bd (fc.set 1 ((fc.getD 1 0) + (nI 1))) hd sz el s g (fm.set 1 ((fm.getD 1 0) + (nI 1))) hm so si sh ce ca td wa kp la bf oo bo pw ow tr))
          refine Ef.in (md := mX6_rules) (L := [some (.ref 65), some (.int (nI a1k)), some (.int a2), none, none, none, none, none]) rfl (Nat.le_of_ble_eq_true rfl) rfl ?_
          refine E_aload_n at_X6_rules_0 rfl ?_
          refine E_iload_n at_X6_rules_1 rfl ?_
          refine E_iload_n at_X6_rules_2 rfl ?_
          refine E_bipush (x := nI 40) at_X6_rules_3 (by decide) ?_
          refine E_iconst (x := nI 1) at_X6_rules_5 (by decide) ?_
          have e4 : Ev ab_Z0 3 186 [.ref 65, .int (nI a1k), .int a2, .int (nI 40), .int (nI 1)] (ww im lf s d k ls rf rz ra rn rq lt m1 m2 m3 m4 bd (fc.set 1 ((fc.getD 1 0) + (nI 1))) hd sz el s g fm hm so si sh ce ca td wa kp la bf oo bo pw ow tr) (some (.int (-1)), (ww im lf s d k ls rf rz ra rn rq lt m1 m2 m3 m4 bd (fc.set 1 ((fc.getD 1 0) + (nI 1))) hd sz el s g fm hm so si sh ce ca td wa kp la bf oo bo pw ow tr)) := by
            refine Ef.in (md := mX6_barsOf) (L := [some (.ref 65), some (.int (nI a1k)), some (.int a2), some (.int (nI 40)), some (.int (nI 1)), none]) rfl (Nat.le_of_ble_eq_true rfl) rfl ?_
            refine E_aload_n at_X6_barsOf_0 rfl ?_
            refine E_iload_n at_X6_barsOf_1 rfl ?_
            have e3 : Ev ab_Z0 2 142 [.ref 65, .int (nI a1k)] (ww im lf s d k ls rf rz ra rn rq lt m1 m2 m3 m4 bd (fc.set 1 ((fc.getD 1 0) + (nI 1))) hd sz el s g fm hm so si sh ce ca td wa kp la bf oo bo pw ow tr) (some (.int (-1)), (ww im lf s d k ls rf rz ra rn rq lt m1 m2 m3 m4 bd (fc.set 1 ((fc.getD 1 0) + (nI 1))) hd sz el s g fm hm so si sh ce ca td wa kp la bf oo bo pw ow tr)) := by
              refine Ef.in (md := mX6_wanted) (L := [some (.ref 65), some (.int (nI a1k))]) rfl (Nat.le_of_ble_eq_true rfl) rfl ?_
              refine E_aload_n at_X6_wanted_0 rfl ?_
              refine E_iload_n at_X6_wanted_1 rfl ?_
              refine E_callV (v := some (.int (nI 0))) (As := [.ref 65, .int (nI a1k)]) (r0 := []) (cs2 := (ww im lf s d k ls rf rz ra rn rq lt m1 m2 m3 m4 bd (fc.set 1 ((fc.getD 1 0) + (nI 1))) hd sz el s g fm hm so si sh ce ca td wa kp la bf oo bo pw ow tr)) at_X6_wanted_2 rfl rfl (Nat.le_of_ble_eq_true rfl) rfl (ab_rvOf w65 rfl) (L48_X6_isShelf (by omega) (by omega) (by omega)) (by decide) rfl ?_
              refine E_if (t := 12) (b := false) at_X6_wanted_5 rfl (by decide) ?_
              refine E_iconst (x := (-1)) at_X6_wanted_8 (by decide) ?_
              refine E_goto (t := 42) at_X6_wanted_9 rfl ?_
              exact E_iret at_X6_wanted_42 rfl
            refine E_callV (v := some (.int (-1))) (As := [.ref 65, .int (nI a1k)]) (r0 := []) (cs2 := (ww im lf s d k ls rf rz ra rn rq lt m1 m2 m3 m4 bd (fc.set 1 ((fc.getD 1 0) + (nI 1))) hd sz el s g fm hm so si sh ce ca td wa kp la bf oo bo pw ow tr)) at_X6_barsOf_2 rfl rfl (Nat.le_of_ble_eq_true rfl) rfl (ab_rvOf w65 rfl) e3 (by decide) rfl ?_
            refine E_istore (L2 := [some (.ref 65), some (.int (nI a1k)), some (.int a2), some (.int (nI 40)), some (.int (nI 1)), some (.int (-1))]) at_X6_barsOf_5 rfl ?_
            refine E_iload at_X6_barsOf_7 rfl ?_
            refine E_if (t := 17) (b := false) at_X6_barsOf_9 rfl (by decide) ?_
            refine E_iload at_X6_barsOf_12 rfl ?_
            refine E_goto (t := 59) at_X6_barsOf_14 rfl ?_
            exact E_iret at_X6_barsOf_59 rfl
          refine E_callV (v := some (.int (-1))) (As := [.ref 65, .int (nI a1k), .int a2, .int (nI 40), .int (nI 1)]) (r0 := []) (cs2 := (ww im lf s d k ls rf rz ra rn rq lt m1 m2 m3 m4 bd (fc.set 1 ((fc.getD 1 0) + (nI 1))) hd sz el s g fm hm so si sh ce ca td wa kp la bf oo bo pw ow tr)) at_X6_rules_6 rfl rfl (Nat.le_of_ble_eq_true rfl) rfl (ab_rvOf w65 rfl) e4 (by decide) rfl ?_
          refine E_istore_n (L2 := [some (.ref 65), some (.int (nI a1k)), some (.int a2), some (.int (-1)), none, none, none, none]) at_X6_rules_9 rfl ?_
          refine E_iconst (x := nI 0) at_X6_rules_10 (by decide) ?_
          refine E_istore (L2 := [some (.ref 65), some (.int (nI a1k)), some (.int a2), some (.int (-1)), some (.int (nI 0)), none, none, none]) at_X6_rules_11 rfl ?_
          refine E_iload at_X6_rules_13 rfl ?_
          refine E_iload_n at_X6_rules_15 rfl ?_
          refine E_ic (t := 51) (b := true) at_X6_rules_16 rfl ((cn_ge (nI_toInt (by omega)) rfl).trans (decide_eq_true (by omega))) ?_
          refine E_iload_n at_X6_rules_51 rfl ?_
          refine E_if (t := 61) (b := false) at_X6_rules_52 rfl (by decide) ?_
          refine E_aload_n at_X6_rules_55 rfl ?_
          refine E_iload_n at_X6_rules_56 rfl ?_
          refine E_callV (v := some (.int (-1))) (As := [.ref 65, .int (-1)]) (r0 := []) (cs2 := (ww im lf s d k ls rf rz ra rn rq lt m1 m2 m3 m4 bd (fc.set 1 ((fc.getD 1 0) + (nI 1))) hd sz el s g (fm.set 1 ((fm.getD 1 0) + (nI 1))) hm so si sh ce ca td wa kp la bf oo bo pw ow tr)) at_X6_rules_57 rfl rfl (Nat.le_of_ble_eq_true rfl) rfl (ab_rvOf w65 rfl) (L8_X6_no (by omega)) (by decide) w_lens ?_
          exact E_iret at_X6_rules_60 rfl
        · exact ⟨I, rfl, hf, iQ, iM, iT, iS, l_el, (lr.1), (lr.2.1), (lr.2.2.1), (by simp only [List.length_set]; exact (lr.2.2.2.1)), (by simp only [List.length_set]; exact (lr.2.2.2.2.1)), (lr.2.2.2.2.2.1), (lr.2.2.2.2.2.2.1), (lr.2.2.2.2.2.2.2.1), (lr.2.2.2.2.2.2.2.2.1), (lr.2.2.2.2.2.2.2.2.2.1), (lr.2.2.2.2.2.2.2.2.2.2.1), (lr.2.2.2.2.2.2.2.2.2.2.2.1), (lr.2.2.2.2.2.2.2.2.2.2.2.2.1), (lr.2.2.2.2.2.2.2.2.2.2.2.2.2.1), (lr.2.2.2.2.2.2.2.2.2.2.2.2.2.2.1), (lr.2.2.2.2.2.2.2.2.2.2.2.2.2.2.2.1), (lr.2.2.2.2.2.2.2.2.2.2.2.2.2.2.2.2.1), (lr.2.2.2.2.2.2.2.2.2.2.2.2.2.2.2.2.2.1), (lr.2.2.2.2.2.2.2.2.2.2.2.2.2.2.2.2.2.2.1), (lr.2.2.2.2.2.2.2.2.2.2.2.2.2.2.2.2.2.2.2.1), (lr.2.2.2.2.2.2.2.2.2.2.2.2.2.2.2.2.2.2.2.2)⟩
  · rcases ab_int a2 with ⟨a2k, f1, rfl⟩ | f1
    · by_cases f2 : 0 < a2k
      · refine ⟨(-1), (im, lf, s, d, k, ls, rf, rz, ra, rn, rq, lt, m1, m2, m3, m4, bd, (fc.set 1 ((fc.getD 1 0) + (nI 1))), hd, sz, el, s, g, fm, hm, so, si, sh, ce, ca, td, wa, kp, la, bf, oo, bo, pw, ow, tr), (im, lf, s, d, k, ls, rf, rz, ra, rn, rq, lt, m1, m2, m3, m4, bd, (fc.set 1 ((fc.getD 1 0) + (nI 1))), hd, sz, el, s, g, (fm.set 1 ((fm.getD 1 0) + (nI 1))), hm, so, si, sh, ce, ca, td, wa, kp, la, bf, oo, bo, pw, ow, tr), ?_, ?_, ?_⟩
        · show Ev ab_Z0 5 99 [.ref 0, .int a1, .int (nI a2k)] (ww im lf s d k ls rf rz ra rn rq lt m1 m2 m3 m4 bd fc hd sz el s g fm hm so si sh ce ca td wa kp la bf oo bo pw ow tr) (some (.int (-1)), (ww im lf s d k ls rf rz ra rn rq lt m1 m2 m3 m4 bd (fc.set 1 ((fc.getD 1 0) + (nI 1))) hd sz el s g fm hm so si sh ce ca td wa kp la bf oo bo pw ow tr))
          refine Ef.in (md := mX5_rules) (L := [some (.ref 0), some (.int a1), some (.int (nI a2k)), none, none, none, none, none]) rfl (Nat.le_of_ble_eq_true rfl) rfl ?_
          refine E_aload_n at_X5_rules_0 rfl ?_
          refine E_iload_n at_X5_rules_1 rfl ?_
          refine E_iload_n at_X5_rules_2 rfl ?_
          refine E_bipush (x := nI 40) at_X5_rules_3 (by decide) ?_
          refine E_iconst (x := nI 0) at_X5_rules_5 (by decide) ?_
          have e2 : Ev ab_Z0 3 120 [.ref 0, .int a1, .int (nI a2k), .int (nI 40), .int (nI 0)] (ww im lf s d k ls rf rz ra rn rq lt m1 m2 m3 m4 bd fc hd sz el s g fm hm so si sh ce ca td wa kp la bf oo bo pw ow tr) (some (.int (nI 1)), (ww im lf s d k ls rf rz ra rn rq lt m1 m2 m3 m4 bd fc hd sz el s g fm hm so si sh ce ca td wa kp la bf oo bo pw ow tr)) := by
            refine Ef.in (md := mX5_whyNoTwos) (L := [some (.ref 0), some (.int a1), some (.int (nI a2k)), some (.int (nI 40)), some (.int (nI 0)), none]) rfl (Nat.le_of_ble_eq_true rfl) rfl ?_
            refine E_aload_n at_X5_whyNoTwos_0 rfl ?_
            refine E_iload_n at_X5_whyNoTwos_1 rfl ?_
            have e1 : Ev ab_Z0 2 119 [.ref 0, .int a1] (ww im lf s d k ls rf rz ra rn rq lt m1 m2 m3 m4 bd fc hd sz el s g fm hm so si sh ce ca td wa kp la bf oo bo pw ow tr) (some (.int (nI 1)), (ww im lf s d k ls rf rz ra rn rq lt m1 m2 m3 m4 bd fc hd sz el s g fm hm so si sh ce ca td wa kp la bf oo bo pw ow tr)) := by
              refine Ef.in (md := mX5_whyNoRow) (L := [some (.ref 0), some (.int a1)]) rfl (Nat.le_of_ble_eq_true rfl) rfl ?_
              refine E_iload_n at_X5_whyNoRow_0 rfl ?_
              refine E_callS (v := some (.int (nI 0))) (As := [.int a1]) (r0 := []) (cs2 := (ww im lf s d k ls rf rz ra rn rq lt m1 m2 m3 m4 bd fc hd sz el s g fm hm so si sh ce ca td wa kp la bf oo bo pw ow tr)) at_X5_whyNoRow_1 rfl rfl (Nat.le_of_ble_eq_true rfl) rfl (L49_X5_isShelf (by omega) (by omega)) (by decide) rfl ?_
              refine E_if (t := 9) (b := false) at_X5_whyNoRow_4 rfl (by decide) ?_
              refine E_iconst (x := nI 1) at_X5_whyNoRow_7 (by decide) ?_
              exact E_iret at_X5_whyNoRow_8 rfl
            refine E_callV (v := some (.int (nI 1))) (As := [.ref 0, .int a1]) (r0 := []) (cs2 := (ww im lf s d k ls rf rz ra rn rq lt m1 m2 m3 m4 bd fc hd sz el s g fm hm so si sh ce ca td wa kp la bf oo bo pw ow tr)) at_X5_whyNoTwos_2 rfl rfl (Nat.le_of_ble_eq_true rfl) rfl (ab_rvOf w0 rfl) e1 (by decide) rfl ?_
            refine E_istore (L2 := [some (.ref 0), some (.int a1), some (.int (nI a2k)), some (.int (nI 40)), some (.int (nI 0)), some (.int (nI 1))]) at_X5_whyNoTwos_5 rfl ?_
            refine E_iload at_X5_whyNoTwos_7 rfl ?_
            refine E_if (t := 15) (b := false) at_X5_whyNoTwos_9 rfl (by decide) ?_
            refine E_iload at_X5_whyNoTwos_12 rfl ?_
            exact E_iret at_X5_whyNoTwos_14 rfl
          refine E_callV (v := some (.int (nI 1))) (As := [.ref 0, .int a1, .int (nI a2k), .int (nI 40), .int (nI 0)]) (r0 := []) (cs2 := (ww im lf s d k ls rf rz ra rn rq lt m1 m2 m3 m4 bd fc hd sz el s g fm hm so si sh ce ca td wa kp la bf oo bo pw ow tr)) at_X5_rules_6 rfl rfl (Nat.le_of_ble_eq_true rfl) rfl (ab_rvOf w0 rfl) e2 (by decide) rfl ?_
          refine E_istore_n (L2 := [some (.ref 0), some (.int a1), some (.int (nI a2k)), some (.int (nI 1)), none, none, none, none]) at_X5_rules_9 rfl ?_
          refine E_iload_n at_X5_rules_10 rfl ?_
          refine E_if (t := 20) (b := false) at_X5_rules_11 rfl (by decide) ?_
          refine E_aload_n at_X5_rules_14 rfl ?_
          refine E_iload_n at_X5_rules_15 rfl ?_
          refine E_callV (v := some (.int (-1))) (As := [.ref 0, .int (nI 1)]) (r0 := []) (cs2 := (ww im lf s d k ls rf rz ra rn rq lt m1 m2 m3 m4 bd (fc.set 1 ((fc.getD 1 0) + (nI 1))) hd sz el s g fm hm so si sh ce ca td wa kp la bf oo bo pw ow tr)) at_X5_rules_16 rfl rfl (Nat.le_of_ble_eq_true rfl) rfl (ab_rvOf w0 rfl) (L6_X5_refuse (by omega)) (by decide) w_lens ?_
          exact E_iret at_X5_rules_19 rfl
        · show Ev ab_Z0 4 187 [.ref 65, .int a1, .int (nI a2k)] (ww im lf s d k ls rf rz ra rn rq lt m1 m2 m3 m4 bd (fc.set 1 ((fc.getD 1 0) + (nI 1))) hd sz el s g fm hm so si sh ce ca td wa kp la bf oo bo pw ow tr) (some (.int (-1)), (ww im lf s d k ls rf rz ra rn rq lt m1 m2 m3 m4 bd (fc.set 1 ((fc.getD 1 0) + (nI 1))) hd sz el s g (fm.set 1 ((fm.getD 1 0) + (nI 1))) hm so si sh ce ca td wa kp la bf oo bo pw ow tr))
          refine Ef.in (md := mX6_rules) (L := [some (.ref 65), some (.int a1), some (.int (nI a2k)), none, none, none, none, none]) rfl (Nat.le_of_ble_eq_true rfl) rfl ?_
          refine E_aload_n at_X6_rules_0 rfl ?_
          refine E_iload_n at_X6_rules_1 rfl ?_
          refine E_iload_n at_X6_rules_2 rfl ?_
          refine E_bipush (x := nI 40) at_X6_rules_3 (by decide) ?_
          refine E_iconst (x := nI 1) at_X6_rules_5 (by decide) ?_
          have e4 : Ev ab_Z0 3 186 [.ref 65, .int a1, .int (nI a2k), .int (nI 40), .int (nI 1)] (ww im lf s d k ls rf rz ra rn rq lt m1 m2 m3 m4 bd (fc.set 1 ((fc.getD 1 0) + (nI 1))) hd sz el s g fm hm so si sh ce ca td wa kp la bf oo bo pw ow tr) (some (.int (-1)), (ww im lf s d k ls rf rz ra rn rq lt m1 m2 m3 m4 bd (fc.set 1 ((fc.getD 1 0) + (nI 1))) hd sz el s g fm hm so si sh ce ca td wa kp la bf oo bo pw ow tr)) := by
            refine Ef.in (md := mX6_barsOf) (L := [some (.ref 65), some (.int a1), some (.int (nI a2k)), some (.int (nI 40)), some (.int (nI 1)), none]) rfl (Nat.le_of_ble_eq_true rfl) rfl ?_
            refine E_aload_n at_X6_barsOf_0 rfl ?_
            refine E_iload_n at_X6_barsOf_1 rfl ?_
            have e3 : Ev ab_Z0 2 142 [.ref 65, .int a1] (ww im lf s d k ls rf rz ra rn rq lt m1 m2 m3 m4 bd (fc.set 1 ((fc.getD 1 0) + (nI 1))) hd sz el s g fm hm so si sh ce ca td wa kp la bf oo bo pw ow tr) (some (.int (-1)), (ww im lf s d k ls rf rz ra rn rq lt m1 m2 m3 m4 bd (fc.set 1 ((fc.getD 1 0) + (nI 1))) hd sz el s g fm hm so si sh ce ca td wa kp la bf oo bo pw ow tr)) := by
              refine Ef.in (md := mX6_wanted) (L := [some (.ref 65), some (.int a1)]) rfl (Nat.le_of_ble_eq_true rfl) rfl ?_
              refine E_aload_n at_X6_wanted_0 rfl ?_
              refine E_iload_n at_X6_wanted_1 rfl ?_
              refine E_callV (v := some (.int (nI 0))) (As := [.ref 65, .int a1]) (r0 := []) (cs2 := (ww im lf s d k ls rf rz ra rn rq lt m1 m2 m3 m4 bd (fc.set 1 ((fc.getD 1 0) + (nI 1))) hd sz el s g fm hm so si sh ce ca td wa kp la bf oo bo pw ow tr)) at_X6_wanted_2 rfl rfl (Nat.le_of_ble_eq_true rfl) rfl (ab_rvOf w65 rfl) (L50_X6_isShelf (by omega) (by omega)) (by decide) rfl ?_
              refine E_if (t := 12) (b := false) at_X6_wanted_5 rfl (by decide) ?_
              refine E_iconst (x := (-1)) at_X6_wanted_8 (by decide) ?_
              refine E_goto (t := 42) at_X6_wanted_9 rfl ?_
              exact E_iret at_X6_wanted_42 rfl
            refine E_callV (v := some (.int (-1))) (As := [.ref 65, .int a1]) (r0 := []) (cs2 := (ww im lf s d k ls rf rz ra rn rq lt m1 m2 m3 m4 bd (fc.set 1 ((fc.getD 1 0) + (nI 1))) hd sz el s g fm hm so si sh ce ca td wa kp la bf oo bo pw ow tr)) at_X6_barsOf_2 rfl rfl (Nat.le_of_ble_eq_true rfl) rfl (ab_rvOf w65 rfl) e3 (by decide) rfl ?_
            refine E_istore (L2 := [some (.ref 65), some (.int a1), some (.int (nI a2k)), some (.int (nI 40)), some (.int (nI 1)), some (.int (-1))]) at_X6_barsOf_5 rfl ?_
            refine E_iload at_X6_barsOf_7 rfl ?_
            refine E_if (t := 17) (b := false) at_X6_barsOf_9 rfl (by decide) ?_
            refine E_iload at_X6_barsOf_12 rfl ?_
            refine E_goto (t := 59) at_X6_barsOf_14 rfl ?_
            exact E_iret at_X6_barsOf_59 rfl
          refine E_callV (v := some (.int (-1))) (As := [.ref 65, .int a1, .int (nI a2k), .int (nI 40), .int (nI 1)]) (r0 := []) (cs2 := (ww im lf s d k ls rf rz ra rn rq lt m1 m2 m3 m4 bd (fc.set 1 ((fc.getD 1 0) + (nI 1))) hd sz el s g fm hm so si sh ce ca td wa kp la bf oo bo pw ow tr)) at_X6_rules_6 rfl rfl (Nat.le_of_ble_eq_true rfl) rfl (ab_rvOf w65 rfl) e4 (by decide) rfl ?_
          refine E_istore_n (L2 := [some (.ref 65), some (.int a1), some (.int (nI a2k)), some (.int (-1)), none, none, none, none]) at_X6_rules_9 rfl ?_
          refine E_iconst (x := nI 0) at_X6_rules_10 (by decide) ?_
          refine E_istore (L2 := [some (.ref 65), some (.int a1), some (.int (nI a2k)), some (.int (-1)), some (.int (nI 0)), none, none, none]) at_X6_rules_11 rfl ?_
          refine E_iload at_X6_rules_13 rfl ?_
          refine E_iload_n at_X6_rules_15 rfl ?_
          refine E_ic (t := 51) (b := false) at_X6_rules_16 rfl ((cn_ge (nI_toInt (by omega)) (nI_toInt (by omega))).trans (decide_eq_false (by omega))) ?_
          refine E_iload_n at_X6_rules_19 rfl ?_
          refine E_if (t := 51) (b := true) at_X6_rules_20 rfl (by decide) ?_
          refine E_iload_n at_X6_rules_51 rfl ?_
          refine E_if (t := 61) (b := false) at_X6_rules_52 rfl (by decide) ?_
          refine E_aload_n at_X6_rules_55 rfl ?_
          refine E_iload_n at_X6_rules_56 rfl ?_
          refine E_callV (v := some (.int (-1))) (As := [.ref 65, .int (-1)]) (r0 := []) (cs2 := (ww im lf s d k ls rf rz ra rn rq lt m1 m2 m3 m4 bd (fc.set 1 ((fc.getD 1 0) + (nI 1))) hd sz el s g (fm.set 1 ((fm.getD 1 0) + (nI 1))) hm so si sh ce ca td wa kp la bf oo bo pw ow tr)) at_X6_rules_57 rfl rfl (Nat.le_of_ble_eq_true rfl) rfl (ab_rvOf w65 rfl) (L8_X6_no (by omega)) (by decide) w_lens ?_
          exact E_iret at_X6_rules_60 rfl
        · exact ⟨I, rfl, hf, iQ, iM, iT, iS, l_el, (lr.1), (lr.2.1), (lr.2.2.1), (by simp only [List.length_set]; exact (lr.2.2.2.1)), (by simp only [List.length_set]; exact (lr.2.2.2.2.1)), (lr.2.2.2.2.2.1), (lr.2.2.2.2.2.2.1), (lr.2.2.2.2.2.2.2.1), (lr.2.2.2.2.2.2.2.2.1), (lr.2.2.2.2.2.2.2.2.2.1), (lr.2.2.2.2.2.2.2.2.2.2.1), (lr.2.2.2.2.2.2.2.2.2.2.2.1), (lr.2.2.2.2.2.2.2.2.2.2.2.2.1), (lr.2.2.2.2.2.2.2.2.2.2.2.2.2.1), (lr.2.2.2.2.2.2.2.2.2.2.2.2.2.2.1), (lr.2.2.2.2.2.2.2.2.2.2.2.2.2.2.2.1), (lr.2.2.2.2.2.2.2.2.2.2.2.2.2.2.2.2.1), (lr.2.2.2.2.2.2.2.2.2.2.2.2.2.2.2.2.2.1), (lr.2.2.2.2.2.2.2.2.2.2.2.2.2.2.2.2.2.2.1), (lr.2.2.2.2.2.2.2.2.2.2.2.2.2.2.2.2.2.2.2.1), (lr.2.2.2.2.2.2.2.2.2.2.2.2.2.2.2.2.2.2.2.2)⟩
      · refine ⟨(-1), (im, lf, s, d, k, ls, rf, rz, ra, rn, rq, lt, m1, m2, m3, m4, bd, (fc.set 1 ((fc.getD 1 0) + (nI 1))), hd, sz, el, s, g, fm, hm, so, si, sh, ce, ca, td, wa, kp, la, bf, oo, bo, pw, ow, tr), (im, lf, s, d, k, ls, rf, rz, ra, rn, rq, lt, m1, m2, m3, m4, bd, (fc.set 1 ((fc.getD 1 0) + (nI 1))), hd, sz, el, s, g, (fm.set 1 ((fm.getD 1 0) + (nI 1))), hm, so, si, sh, ce, ca, td, wa, kp, la, bf, oo, bo, pw, ow, tr), ?_, ?_, ?_⟩
        · show Ev ab_Z0 5 99 [.ref 0, .int a1, .int (nI a2k)] (ww im lf s d k ls rf rz ra rn rq lt m1 m2 m3 m4 bd fc hd sz el s g fm hm so si sh ce ca td wa kp la bf oo bo pw ow tr) (some (.int (-1)), (ww im lf s d k ls rf rz ra rn rq lt m1 m2 m3 m4 bd (fc.set 1 ((fc.getD 1 0) + (nI 1))) hd sz el s g fm hm so si sh ce ca td wa kp la bf oo bo pw ow tr))
          refine Ef.in (md := mX5_rules) (L := [some (.ref 0), some (.int a1), some (.int (nI a2k)), none, none, none, none, none]) rfl (Nat.le_of_ble_eq_true rfl) rfl ?_
          refine E_aload_n at_X5_rules_0 rfl ?_
          refine E_iload_n at_X5_rules_1 rfl ?_
          refine E_iload_n at_X5_rules_2 rfl ?_
          refine E_bipush (x := nI 40) at_X5_rules_3 (by decide) ?_
          refine E_iconst (x := nI 0) at_X5_rules_5 (by decide) ?_
          have e2 : Ev ab_Z0 3 120 [.ref 0, .int a1, .int (nI a2k), .int (nI 40), .int (nI 0)] (ww im lf s d k ls rf rz ra rn rq lt m1 m2 m3 m4 bd fc hd sz el s g fm hm so si sh ce ca td wa kp la bf oo bo pw ow tr) (some (.int (nI 1)), (ww im lf s d k ls rf rz ra rn rq lt m1 m2 m3 m4 bd fc hd sz el s g fm hm so si sh ce ca td wa kp la bf oo bo pw ow tr)) := by
            refine Ef.in (md := mX5_whyNoTwos) (L := [some (.ref 0), some (.int a1), some (.int (nI a2k)), some (.int (nI 40)), some (.int (nI 0)), none]) rfl (Nat.le_of_ble_eq_true rfl) rfl ?_
            refine E_aload_n at_X5_whyNoTwos_0 rfl ?_
            refine E_iload_n at_X5_whyNoTwos_1 rfl ?_
            have e1 : Ev ab_Z0 2 119 [.ref 0, .int a1] (ww im lf s d k ls rf rz ra rn rq lt m1 m2 m3 m4 bd fc hd sz el s g fm hm so si sh ce ca td wa kp la bf oo bo pw ow tr) (some (.int (nI 1)), (ww im lf s d k ls rf rz ra rn rq lt m1 m2 m3 m4 bd fc hd sz el s g fm hm so si sh ce ca td wa kp la bf oo bo pw ow tr)) := by
              refine Ef.in (md := mX5_whyNoRow) (L := [some (.ref 0), some (.int a1)]) rfl (Nat.le_of_ble_eq_true rfl) rfl ?_
              refine E_iload_n at_X5_whyNoRow_0 rfl ?_
              refine E_callS (v := some (.int (nI 0))) (As := [.int a1]) (r0 := []) (cs2 := (ww im lf s d k ls rf rz ra rn rq lt m1 m2 m3 m4 bd fc hd sz el s g fm hm so si sh ce ca td wa kp la bf oo bo pw ow tr)) at_X5_whyNoRow_1 rfl rfl (Nat.le_of_ble_eq_true rfl) rfl (L49_X5_isShelf (by omega) (by omega)) (by decide) rfl ?_
              refine E_if (t := 9) (b := false) at_X5_whyNoRow_4 rfl (by decide) ?_
              refine E_iconst (x := nI 1) at_X5_whyNoRow_7 (by decide) ?_
              exact E_iret at_X5_whyNoRow_8 rfl
            refine E_callV (v := some (.int (nI 1))) (As := [.ref 0, .int a1]) (r0 := []) (cs2 := (ww im lf s d k ls rf rz ra rn rq lt m1 m2 m3 m4 bd fc hd sz el s g fm hm so si sh ce ca td wa kp la bf oo bo pw ow tr)) at_X5_whyNoTwos_2 rfl rfl (Nat.le_of_ble_eq_true rfl) rfl (ab_rvOf w0 rfl) e1 (by decide) rfl ?_
            refine E_istore (L2 := [some (.ref 0), some (.int a1), some (.int (nI a2k)), some (.int (nI 40)), some (.int (nI 0)), some (.int (nI 1))]) at_X5_whyNoTwos_5 rfl ?_
            refine E_iload at_X5_whyNoTwos_7 rfl ?_
            refine E_if (t := 15) (b := false) at_X5_whyNoTwos_9 rfl (by decide) ?_
            refine E_iload at_X5_whyNoTwos_12 rfl ?_
            exact E_iret at_X5_whyNoTwos_14 rfl
          refine E_callV (v := some (.int (nI 1))) (As := [.ref 0, .int a1, .int (nI a2k), .int (nI 40), .int (nI 0)]) (r0 := []) (cs2 := (ww im lf s d k ls rf rz ra rn rq lt m1 m2 m3 m4 bd fc hd sz el s g fm hm so si sh ce ca td wa kp la bf oo bo pw ow tr)) at_X5_rules_6 rfl rfl (Nat.le_of_ble_eq_true rfl) rfl (ab_rvOf w0 rfl) e2 (by decide) rfl ?_
          refine E_istore_n (L2 := [some (.ref 0), some (.int a1), some (.int (nI a2k)), some (.int (nI 1)), none, none, none, none]) at_X5_rules_9 rfl ?_
          refine E_iload_n at_X5_rules_10 rfl ?_
          refine E_if (t := 20) (b := false) at_X5_rules_11 rfl (by decide) ?_
          refine E_aload_n at_X5_rules_14 rfl ?_
          refine E_iload_n at_X5_rules_15 rfl ?_
          refine E_callV (v := some (.int (-1))) (As := [.ref 0, .int (nI 1)]) (r0 := []) (cs2 := (ww im lf s d k ls rf rz ra rn rq lt m1 m2 m3 m4 bd (fc.set 1 ((fc.getD 1 0) + (nI 1))) hd sz el s g fm hm so si sh ce ca td wa kp la bf oo bo pw ow tr)) at_X5_rules_16 rfl rfl (Nat.le_of_ble_eq_true rfl) rfl (ab_rvOf w0 rfl) (L6_X5_refuse (by omega)) (by decide) w_lens ?_
          exact E_iret at_X5_rules_19 rfl
        · show Ev ab_Z0 4 187 [.ref 65, .int a1, .int (nI a2k)] (ww im lf s d k ls rf rz ra rn rq lt m1 m2 m3 m4 bd (fc.set 1 ((fc.getD 1 0) + (nI 1))) hd sz el s g fm hm so si sh ce ca td wa kp la bf oo bo pw ow tr) (some (.int (-1)), (ww im lf s d k ls rf rz ra rn rq lt m1 m2 m3 m4 bd (fc.set 1 ((fc.getD 1 0) + (nI 1))) hd sz el s g (fm.set 1 ((fm.getD 1 0) + (nI 1))) hm so si sh ce ca td wa kp la bf oo bo pw ow tr))
          refine Ef.in (md := mX6_rules) (L := [some (.ref 65), some (.int a1), some (.int (nI a2k)), none, none, none, none, none]) rfl (Nat.le_of_ble_eq_true rfl) rfl ?_
          refine E_aload_n at_X6_rules_0 rfl ?_
          refine E_iload_n at_X6_rules_1 rfl ?_
          refine E_iload_n at_X6_rules_2 rfl ?_
          refine E_bipush (x := nI 40) at_X6_rules_3 (by decide) ?_
          refine E_iconst (x := nI 1) at_X6_rules_5 (by decide) ?_
          have e4 : Ev ab_Z0 3 186 [.ref 65, .int a1, .int (nI a2k), .int (nI 40), .int (nI 1)] (ww im lf s d k ls rf rz ra rn rq lt m1 m2 m3 m4 bd (fc.set 1 ((fc.getD 1 0) + (nI 1))) hd sz el s g fm hm so si sh ce ca td wa kp la bf oo bo pw ow tr) (some (.int (-1)), (ww im lf s d k ls rf rz ra rn rq lt m1 m2 m3 m4 bd (fc.set 1 ((fc.getD 1 0) + (nI 1))) hd sz el s g fm hm so si sh ce ca td wa kp la bf oo bo pw ow tr)) := by
            refine Ef.in (md := mX6_barsOf) (L := [some (.ref 65), some (.int a1), some (.int (nI a2k)), some (.int (nI 40)), some (.int (nI 1)), none]) rfl (Nat.le_of_ble_eq_true rfl) rfl ?_
            refine E_aload_n at_X6_barsOf_0 rfl ?_
            refine E_iload_n at_X6_barsOf_1 rfl ?_
            have e3 : Ev ab_Z0 2 142 [.ref 65, .int a1] (ww im lf s d k ls rf rz ra rn rq lt m1 m2 m3 m4 bd (fc.set 1 ((fc.getD 1 0) + (nI 1))) hd sz el s g fm hm so si sh ce ca td wa kp la bf oo bo pw ow tr) (some (.int (-1)), (ww im lf s d k ls rf rz ra rn rq lt m1 m2 m3 m4 bd (fc.set 1 ((fc.getD 1 0) + (nI 1))) hd sz el s g fm hm so si sh ce ca td wa kp la bf oo bo pw ow tr)) := by
              refine Ef.in (md := mX6_wanted) (L := [some (.ref 65), some (.int a1)]) rfl (Nat.le_of_ble_eq_true rfl) rfl ?_
              refine E_aload_n at_X6_wanted_0 rfl ?_
              refine E_iload_n at_X6_wanted_1 rfl ?_
              refine E_callV (v := some (.int (nI 0))) (As := [.ref 65, .int a1]) (r0 := []) (cs2 := (ww im lf s d k ls rf rz ra rn rq lt m1 m2 m3 m4 bd (fc.set 1 ((fc.getD 1 0) + (nI 1))) hd sz el s g fm hm so si sh ce ca td wa kp la bf oo bo pw ow tr)) at_X6_wanted_2 rfl rfl (Nat.le_of_ble_eq_true rfl) rfl (ab_rvOf w65 rfl) (L50_X6_isShelf (by omega) (by omega)) (by decide) rfl ?_
              refine E_if (t := 12) (b := false) at_X6_wanted_5 rfl (by decide) ?_
              refine E_iconst (x := (-1)) at_X6_wanted_8 (by decide) ?_
              refine E_goto (t := 42) at_X6_wanted_9 rfl ?_
              exact E_iret at_X6_wanted_42 rfl
            refine E_callV (v := some (.int (-1))) (As := [.ref 65, .int a1]) (r0 := []) (cs2 := (ww im lf s d k ls rf rz ra rn rq lt m1 m2 m3 m4 bd (fc.set 1 ((fc.getD 1 0) + (nI 1))) hd sz el s g fm hm so si sh ce ca td wa kp la bf oo bo pw ow tr)) at_X6_barsOf_2 rfl rfl (Nat.le_of_ble_eq_true rfl) rfl (ab_rvOf w65 rfl) e3 (by decide) rfl ?_
            refine E_istore (L2 := [some (.ref 65), some (.int a1), some (.int (nI a2k)), some (.int (nI 40)), some (.int (nI 1)), some (.int (-1))]) at_X6_barsOf_5 rfl ?_
            refine E_iload at_X6_barsOf_7 rfl ?_
            refine E_if (t := 17) (b := false) at_X6_barsOf_9 rfl (by decide) ?_
            refine E_iload at_X6_barsOf_12 rfl ?_
            refine E_goto (t := 59) at_X6_barsOf_14 rfl ?_
            exact E_iret at_X6_barsOf_59 rfl
          refine E_callV (v := some (.int (-1))) (As := [.ref 65, .int a1, .int (nI a2k), .int (nI 40), .int (nI 1)]) (r0 := []) (cs2 := (ww im lf s d k ls rf rz ra rn rq lt m1 m2 m3 m4 bd (fc.set 1 ((fc.getD 1 0) + (nI 1))) hd sz el s g fm hm so si sh ce ca td wa kp la bf oo bo pw ow tr)) at_X6_rules_6 rfl rfl (Nat.le_of_ble_eq_true rfl) rfl (ab_rvOf w65 rfl) e4 (by decide) rfl ?_
          refine E_istore_n (L2 := [some (.ref 65), some (.int a1), some (.int (nI a2k)), some (.int (-1)), none, none, none, none]) at_X6_rules_9 rfl ?_
          refine E_iconst (x := nI 0) at_X6_rules_10 (by decide) ?_
          refine E_istore (L2 := [some (.ref 65), some (.int a1), some (.int (nI a2k)), some (.int (-1)), some (.int (nI 0)), none, none, none]) at_X6_rules_11 rfl ?_
          refine E_iload at_X6_rules_13 rfl ?_
          refine E_iload_n at_X6_rules_15 rfl ?_
          refine E_ic (t := 51) (b := true) at_X6_rules_16 rfl ((cn_ge (nI_toInt (by omega)) (nI_toInt (by omega))).trans (decide_eq_true (by omega))) ?_
          refine E_iload_n at_X6_rules_51 rfl ?_
          refine E_if (t := 61) (b := false) at_X6_rules_52 rfl (by decide) ?_
          refine E_aload_n at_X6_rules_55 rfl ?_
          refine E_iload_n at_X6_rules_56 rfl ?_
          refine E_callV (v := some (.int (-1))) (As := [.ref 65, .int (-1)]) (r0 := []) (cs2 := (ww im lf s d k ls rf rz ra rn rq lt m1 m2 m3 m4 bd (fc.set 1 ((fc.getD 1 0) + (nI 1))) hd sz el s g (fm.set 1 ((fm.getD 1 0) + (nI 1))) hm so si sh ce ca td wa kp la bf oo bo pw ow tr)) at_X6_rules_57 rfl rfl (Nat.le_of_ble_eq_true rfl) rfl (ab_rvOf w65 rfl) (L8_X6_no (by omega)) (by decide) w_lens ?_
          exact E_iret at_X6_rules_60 rfl
        · exact ⟨I, rfl, hf, iQ, iM, iT, iS, l_el, (lr.1), (lr.2.1), (lr.2.2.1), (by simp only [List.length_set]; exact (lr.2.2.2.1)), (by simp only [List.length_set]; exact (lr.2.2.2.2.1)), (lr.2.2.2.2.2.1), (lr.2.2.2.2.2.2.1), (lr.2.2.2.2.2.2.2.1), (lr.2.2.2.2.2.2.2.2.1), (lr.2.2.2.2.2.2.2.2.2.1), (lr.2.2.2.2.2.2.2.2.2.2.1), (lr.2.2.2.2.2.2.2.2.2.2.2.1), (lr.2.2.2.2.2.2.2.2.2.2.2.2.1), (lr.2.2.2.2.2.2.2.2.2.2.2.2.2.1), (lr.2.2.2.2.2.2.2.2.2.2.2.2.2.2.1), (lr.2.2.2.2.2.2.2.2.2.2.2.2.2.2.2.1), (lr.2.2.2.2.2.2.2.2.2.2.2.2.2.2.2.2.1), (lr.2.2.2.2.2.2.2.2.2.2.2.2.2.2.2.2.2.1), (lr.2.2.2.2.2.2.2.2.2.2.2.2.2.2.2.2.2.2.1), (lr.2.2.2.2.2.2.2.2.2.2.2.2.2.2.2.2.2.2.2.1), (lr.2.2.2.2.2.2.2.2.2.2.2.2.2.2.2.2.2.2.2.2)⟩
    · refine ⟨(-1), (im, lf, s, d, k, ls, rf, rz, ra, rn, rq, lt, m1, m2, m3, m4, bd, (fc.set 1 ((fc.getD 1 0) + (nI 1))), hd, sz, el, s, g, fm, hm, so, si, sh, ce, ca, td, wa, kp, la, bf, oo, bo, pw, ow, tr), (im, lf, s, d, k, ls, rf, rz, ra, rn, rq, lt, m1, m2, m3, m4, bd, (fc.set 1 ((fc.getD 1 0) + (nI 1))), hd, sz, el, s, g, (fm.set 1 ((fm.getD 1 0) + (nI 1))), hm, so, si, sh, ce, ca, td, wa, kp, la, bf, oo, bo, pw, ow, tr), ?_, ?_, ?_⟩
      · show Ev ab_Z0 5 99 [.ref 0, .int a1, .int a2] (ww im lf s d k ls rf rz ra rn rq lt m1 m2 m3 m4 bd fc hd sz el s g fm hm so si sh ce ca td wa kp la bf oo bo pw ow tr) (some (.int (-1)), (ww im lf s d k ls rf rz ra rn rq lt m1 m2 m3 m4 bd (fc.set 1 ((fc.getD 1 0) + (nI 1))) hd sz el s g fm hm so si sh ce ca td wa kp la bf oo bo pw ow tr))
        refine Ef.in (md := mX5_rules) (L := [some (.ref 0), some (.int a1), some (.int a2), none, none, none, none, none]) rfl (Nat.le_of_ble_eq_true rfl) rfl ?_
        refine E_aload_n at_X5_rules_0 rfl ?_
        refine E_iload_n at_X5_rules_1 rfl ?_
        refine E_iload_n at_X5_rules_2 rfl ?_
        refine E_bipush (x := nI 40) at_X5_rules_3 (by decide) ?_
        refine E_iconst (x := nI 0) at_X5_rules_5 (by decide) ?_
        have e2 : Ev ab_Z0 3 120 [.ref 0, .int a1, .int a2, .int (nI 40), .int (nI 0)] (ww im lf s d k ls rf rz ra rn rq lt m1 m2 m3 m4 bd fc hd sz el s g fm hm so si sh ce ca td wa kp la bf oo bo pw ow tr) (some (.int (nI 1)), (ww im lf s d k ls rf rz ra rn rq lt m1 m2 m3 m4 bd fc hd sz el s g fm hm so si sh ce ca td wa kp la bf oo bo pw ow tr)) := by
          refine Ef.in (md := mX5_whyNoTwos) (L := [some (.ref 0), some (.int a1), some (.int a2), some (.int (nI 40)), some (.int (nI 0)), none]) rfl (Nat.le_of_ble_eq_true rfl) rfl ?_
          refine E_aload_n at_X5_whyNoTwos_0 rfl ?_
          refine E_iload_n at_X5_whyNoTwos_1 rfl ?_
          have e1 : Ev ab_Z0 2 119 [.ref 0, .int a1] (ww im lf s d k ls rf rz ra rn rq lt m1 m2 m3 m4 bd fc hd sz el s g fm hm so si sh ce ca td wa kp la bf oo bo pw ow tr) (some (.int (nI 1)), (ww im lf s d k ls rf rz ra rn rq lt m1 m2 m3 m4 bd fc hd sz el s g fm hm so si sh ce ca td wa kp la bf oo bo pw ow tr)) := by
            refine Ef.in (md := mX5_whyNoRow) (L := [some (.ref 0), some (.int a1)]) rfl (Nat.le_of_ble_eq_true rfl) rfl ?_
            refine E_iload_n at_X5_whyNoRow_0 rfl ?_
            refine E_callS (v := some (.int (nI 0))) (As := [.int a1]) (r0 := []) (cs2 := (ww im lf s d k ls rf rz ra rn rq lt m1 m2 m3 m4 bd fc hd sz el s g fm hm so si sh ce ca td wa kp la bf oo bo pw ow tr)) at_X5_whyNoRow_1 rfl rfl (Nat.le_of_ble_eq_true rfl) rfl (L49_X5_isShelf (by omega) (by omega)) (by decide) rfl ?_
            refine E_if (t := 9) (b := false) at_X5_whyNoRow_4 rfl (by decide) ?_
            refine E_iconst (x := nI 1) at_X5_whyNoRow_7 (by decide) ?_
            exact E_iret at_X5_whyNoRow_8 rfl
          refine E_callV (v := some (.int (nI 1))) (As := [.ref 0, .int a1]) (r0 := []) (cs2 := (ww im lf s d k ls rf rz ra rn rq lt m1 m2 m3 m4 bd fc hd sz el s g fm hm so si sh ce ca td wa kp la bf oo bo pw ow tr)) at_X5_whyNoTwos_2 rfl rfl (Nat.le_of_ble_eq_true rfl) rfl (ab_rvOf w0 rfl) e1 (by decide) rfl ?_
          refine E_istore (L2 := [some (.ref 0), some (.int a1), some (.int a2), some (.int (nI 40)), some (.int (nI 0)), some (.int (nI 1))]) at_X5_whyNoTwos_5 rfl ?_
          refine E_iload at_X5_whyNoTwos_7 rfl ?_
          refine E_if (t := 15) (b := false) at_X5_whyNoTwos_9 rfl (by decide) ?_
          refine E_iload at_X5_whyNoTwos_12 rfl ?_
          exact E_iret at_X5_whyNoTwos_14 rfl
        refine E_callV (v := some (.int (nI 1))) (As := [.ref 0, .int a1, .int a2, .int (nI 40), .int (nI 0)]) (r0 := []) (cs2 := (ww im lf s d k ls rf rz ra rn rq lt m1 m2 m3 m4 bd fc hd sz el s g fm hm so si sh ce ca td wa kp la bf oo bo pw ow tr)) at_X5_rules_6 rfl rfl (Nat.le_of_ble_eq_true rfl) rfl (ab_rvOf w0 rfl) e2 (by decide) rfl ?_
        refine E_istore_n (L2 := [some (.ref 0), some (.int a1), some (.int a2), some (.int (nI 1)), none, none, none, none]) at_X5_rules_9 rfl ?_
        refine E_iload_n at_X5_rules_10 rfl ?_
        refine E_if (t := 20) (b := false) at_X5_rules_11 rfl (by decide) ?_
        refine E_aload_n at_X5_rules_14 rfl ?_
        refine E_iload_n at_X5_rules_15 rfl ?_
        refine E_callV (v := some (.int (-1))) (As := [.ref 0, .int (nI 1)]) (r0 := []) (cs2 := (ww im lf s d k ls rf rz ra rn rq lt m1 m2 m3 m4 bd (fc.set 1 ((fc.getD 1 0) + (nI 1))) hd sz el s g fm hm so si sh ce ca td wa kp la bf oo bo pw ow tr)) at_X5_rules_16 rfl rfl (Nat.le_of_ble_eq_true rfl) rfl (ab_rvOf w0 rfl) (L6_X5_refuse (by omega)) (by decide) w_lens ?_
        exact E_iret at_X5_rules_19 rfl
      · show Ev ab_Z0 4 187 [.ref 65, .int a1, .int a2] (ww im lf s d k ls rf rz ra rn rq lt m1 m2 m3 m4 bd (fc.set 1 ((fc.getD 1 0) + (nI 1))) hd sz el s g fm hm so si sh ce ca td wa kp la bf oo bo pw ow tr) (some (.int (-1)), (ww im lf s d k ls rf rz ra rn rq lt m1 m2 m3 m4 bd (fc.set 1 ((fc.getD 1 0) + (nI 1))) hd sz el s g (fm.set 1 ((fm.getD 1 0) + (nI 1))) hm so si sh ce ca td wa kp la bf oo bo pw ow tr))
        refine Ef.in (md := mX6_rules) (L := [some (.ref 65), some (.int a1), some (.int a2), none, none, none, none, none]) rfl (Nat.le_of_ble_eq_true rfl) rfl ?_
        refine E_aload_n at_X6_rules_0 rfl ?_
        refine E_iload_n at_X6_rules_1 rfl ?_
        refine E_iload_n at_X6_rules_2 rfl ?_
        refine E_bipush (x := nI 40) at_X6_rules_3 (by decide) ?_
        refine E_iconst (x := nI 1) at_X6_rules_5 (by decide) ?_
        have e4 : Ev ab_Z0 3 186 [.ref 65, .int a1, .int a2, .int (nI 40), .int (nI 1)] (ww im lf s d k ls rf rz ra rn rq lt m1 m2 m3 m4 bd (fc.set 1 ((fc.getD 1 0) + (nI 1))) hd sz el s g fm hm so si sh ce ca td wa kp la bf oo bo pw ow tr) (some (.int (-1)), (ww im lf s d k ls rf rz ra rn rq lt m1 m2 m3 m4 bd (fc.set 1 ((fc.getD 1 0) + (nI 1))) hd sz el s g fm hm so si sh ce ca td wa kp la bf oo bo pw ow tr)) := by
          refine Ef.in (md := mX6_barsOf) (L := [some (.ref 65), some (.int a1), some (.int a2), some (.int (nI 40)), some (.int (nI 1)), none]) rfl (Nat.le_of_ble_eq_true rfl) rfl ?_
          refine E_aload_n at_X6_barsOf_0 rfl ?_
          refine E_iload_n at_X6_barsOf_1 rfl ?_
          have e3 : Ev ab_Z0 2 142 [.ref 65, .int a1] (ww im lf s d k ls rf rz ra rn rq lt m1 m2 m3 m4 bd (fc.set 1 ((fc.getD 1 0) + (nI 1))) hd sz el s g fm hm so si sh ce ca td wa kp la bf oo bo pw ow tr) (some (.int (-1)), (ww im lf s d k ls rf rz ra rn rq lt m1 m2 m3 m4 bd (fc.set 1 ((fc.getD 1 0) + (nI 1))) hd sz el s g fm hm so si sh ce ca td wa kp la bf oo bo pw ow tr)) := by
            refine Ef.in (md := mX6_wanted) (L := [some (.ref 65), some (.int a1)]) rfl (Nat.le_of_ble_eq_true rfl) rfl ?_
            refine E_aload_n at_X6_wanted_0 rfl ?_
            refine E_iload_n at_X6_wanted_1 rfl ?_
            refine E_callV (v := some (.int (nI 0))) (As := [.ref 65, .int a1]) (r0 := []) (cs2 := (ww im lf s d k ls rf rz ra rn rq lt m1 m2 m3 m4 bd (fc.set 1 ((fc.getD 1 0) + (nI 1))) hd sz el s g fm hm so si sh ce ca td wa kp la bf oo bo pw ow tr)) at_X6_wanted_2 rfl rfl (Nat.le_of_ble_eq_true rfl) rfl (ab_rvOf w65 rfl) (L50_X6_isShelf (by omega) (by omega)) (by decide) rfl ?_
            refine E_if (t := 12) (b := false) at_X6_wanted_5 rfl (by decide) ?_
            refine E_iconst (x := (-1)) at_X6_wanted_8 (by decide) ?_
            refine E_goto (t := 42) at_X6_wanted_9 rfl ?_
            exact E_iret at_X6_wanted_42 rfl
          refine E_callV (v := some (.int (-1))) (As := [.ref 65, .int a1]) (r0 := []) (cs2 := (ww im lf s d k ls rf rz ra rn rq lt m1 m2 m3 m4 bd (fc.set 1 ((fc.getD 1 0) + (nI 1))) hd sz el s g fm hm so si sh ce ca td wa kp la bf oo bo pw ow tr)) at_X6_barsOf_2 rfl rfl (Nat.le_of_ble_eq_true rfl) rfl (ab_rvOf w65 rfl) e3 (by decide) rfl ?_
          refine E_istore (L2 := [some (.ref 65), some (.int a1), some (.int a2), some (.int (nI 40)), some (.int (nI 1)), some (.int (-1))]) at_X6_barsOf_5 rfl ?_
          refine E_iload at_X6_barsOf_7 rfl ?_
          refine E_if (t := 17) (b := false) at_X6_barsOf_9 rfl (by decide) ?_
          refine E_iload at_X6_barsOf_12 rfl ?_
          refine E_goto (t := 59) at_X6_barsOf_14 rfl ?_
          exact E_iret at_X6_barsOf_59 rfl
        refine E_callV (v := some (.int (-1))) (As := [.ref 65, .int a1, .int a2, .int (nI 40), .int (nI 1)]) (r0 := []) (cs2 := (ww im lf s d k ls rf rz ra rn rq lt m1 m2 m3 m4 bd (fc.set 1 ((fc.getD 1 0) + (nI 1))) hd sz el s g fm hm so si sh ce ca td wa kp la bf oo bo pw ow tr)) at_X6_rules_6 rfl rfl (Nat.le_of_ble_eq_true rfl) rfl (ab_rvOf w65 rfl) e4 (by decide) rfl ?_
        refine E_istore_n (L2 := [some (.ref 65), some (.int a1), some (.int a2), some (.int (-1)), none, none, none, none]) at_X6_rules_9 rfl ?_
        refine E_iconst (x := nI 0) at_X6_rules_10 (by decide) ?_
        refine E_istore (L2 := [some (.ref 65), some (.int a1), some (.int a2), some (.int (-1)), some (.int (nI 0)), none, none, none]) at_X6_rules_11 rfl ?_
        refine E_iload at_X6_rules_13 rfl ?_
        refine E_iload_n at_X6_rules_15 rfl ?_
        refine E_ic (t := 51) (b := true) at_X6_rules_16 rfl ((cn_ge (nI_toInt (by omega)) rfl).trans (decide_eq_true (by omega))) ?_
        refine E_iload_n at_X6_rules_51 rfl ?_
        refine E_if (t := 61) (b := false) at_X6_rules_52 rfl (by decide) ?_
        refine E_aload_n at_X6_rules_55 rfl ?_
        refine E_iload_n at_X6_rules_56 rfl ?_
        refine E_callV (v := some (.int (-1))) (As := [.ref 65, .int (-1)]) (r0 := []) (cs2 := (ww im lf s d k ls rf rz ra rn rq lt m1 m2 m3 m4 bd (fc.set 1 ((fc.getD 1 0) + (nI 1))) hd sz el s g (fm.set 1 ((fm.getD 1 0) + (nI 1))) hm so si sh ce ca td wa kp la bf oo bo pw ow tr)) at_X6_rules_57 rfl rfl (Nat.le_of_ble_eq_true rfl) rfl (ab_rvOf w65 rfl) (L8_X6_no (by omega)) (by decide) w_lens ?_
        exact E_iret at_X6_rules_60 rfl
      · exact ⟨I, rfl, hf, iQ, iM, iT, iS, l_el, (lr.1), (lr.2.1), (lr.2.2.1), (by simp only [List.length_set]; exact (lr.2.2.2.1)), (by simp only [List.length_set]; exact (lr.2.2.2.2.1)), (lr.2.2.2.2.2.1), (lr.2.2.2.2.2.2.1), (lr.2.2.2.2.2.2.2.1), (lr.2.2.2.2.2.2.2.2.1), (lr.2.2.2.2.2.2.2.2.2.1), (lr.2.2.2.2.2.2.2.2.2.2.1), (lr.2.2.2.2.2.2.2.2.2.2.2.1), (lr.2.2.2.2.2.2.2.2.2.2.2.2.1), (lr.2.2.2.2.2.2.2.2.2.2.2.2.2.1), (lr.2.2.2.2.2.2.2.2.2.2.2.2.2.2.1), (lr.2.2.2.2.2.2.2.2.2.2.2.2.2.2.2.1), (lr.2.2.2.2.2.2.2.2.2.2.2.2.2.2.2.2.1), (lr.2.2.2.2.2.2.2.2.2.2.2.2.2.2.2.2.2.1), (lr.2.2.2.2.2.2.2.2.2.2.2.2.2.2.2.2.2.2.1), (lr.2.2.2.2.2.2.2.2.2.2.2.2.2.2.2.2.2.2.2.1), (lr.2.2.2.2.2.2.2.2.2.2.2.2.2.2.2.2.2.2.2.2)⟩
