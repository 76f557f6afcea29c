/-! element; by program (wip/tools/op.py) -/
set_option maxHeartbeats 4000000 in
theorem op_element (x : St) (hx : wI x) (a1 : Int32) (a2 : Int32) : ∃ (r : Int64) (x1 x2 : St), Ev ab_Z0 3 79 [.ref 0, .int a1, .int a2] (wt x) (some (.long r), wt x1) ∧ Ev ab_Z0 2 138 [.ref 65, .int a1, .int a2] (wt x1) (some (.long r), wt x2) ∧ wI x2 := by
  obtain ⟨im, lf, s, d, k, ls, rf, rz, ra, rn, rq, lt, m1, m2, m3, m4, bd, fc, hd, sz, el, t, g, fm, hm, so, si, sh, ce, ca, td, wa, kp, la, bf, oo, bo, pw, ow, tr⟩ := x
  obtain ⟨I, ts, hf, iQ, iM, iT, iS, l_el, lr⟩ := hx
  replace lr : Hd _ := lr
  have l_fc := lr.2.2.2.1
  have l_fm := lr.2.2.2.2.1
  have l_hm := lr.2.2.2.2.2.1
  have l_si := lr.2.2.2.2.2.2.2.1
  have l_ce := lr.2.2.2.2.2.2.2.2.2.1
  subst ts
  obtain ⟨⟨i0, i1, i2, i3⟩, ⟨i4, i5, i6, i7, i8⟩, ⟨i9, i10⟩, I1, I2, I3, I4⟩ := id I
  rcases ab_int a1 with ⟨a1k, f0, rfl⟩ | f0
  · by_cases f1 : a1k < 8
    · rcases iS a1k (by omega) with ⟨u1, u2, u3⟩ | ⟨xq, u1, u2, u3, u4, u5⟩ | ⟨u1, u2, u3, u4, u5, u6⟩
      · rcases ab_int a2 with ⟨a2k, f3, rfl⟩ | f3
        · refine ⟨0, (im, lf, s, d, k, ls, rf, rz, ra, rn, rq, lt, m1, m2, m3, m4, bd, fc, hd, sz, el, s, g, fm, hm, so, si, sh, ce, ca, td, wa, kp, la, bf, oo, bo, pw, ow, tr), (im, lf, s, d, k, ls, rf, rz, ra, rn, rq, lt, m1, m2, m3, m4, bd, fc, hd, sz, el, s, g, fm, hm, so, si, sh, ce, ca, td, wa, kp, la, bf, oo, bo, pw, ow, tr), ?_, ?_, ?_⟩
          · show Ev ab_Z0 3 79 [.ref 0, .int (nI a1k), .int (nI a2k)] (ww im lf s d k ls rf rz ra rn rq lt m1 m2 m3 m4 bd fc hd sz el s g fm hm so si sh ce ca td wa kp la bf oo bo pw ow tr) (some (.long 0), (ww im lf s d k ls rf rz ra rn rq lt m1 m2 m3 m4 bd fc hd sz el s g fm hm so si sh ce ca td wa kp la bf oo bo pw ow tr))
            refine Ef.in (md := mX5_element) (L := [some (.ref 0), some (.int (nI a1k)), some (.int (nI a2k))]) rfl (Nat.le_of_ble_eq_true rfl) rfl ?_
            refine E_iload_n at_X5_element_0 rfl ?_
            refine E_callS (v := some (.int (nI 1))) (As := [.int (nI a1k)]) (r0 := []) (cs2 := (ww im lf s d k ls rf rz ra rn rq lt m1 m2 m3 m4 bd fc hd sz el s g fm hm so si sh ce ca td wa kp la bf oo bo pw ow tr)) at_X5_element_1 rfl rfl (Nat.le_of_ble_eq_true rfl) rfl (L39_X5_isShelf (by omega) (by omega) (by omega)) (by decide) rfl ?_
            refine E_if (t := 20) (b := false) at_X5_element_4 rfl (by decide) ?_
            refine E_aload_n at_X5_element_7 rfl ?_
            refine E_getfield (v := .ref 31) at_X5_element_8 w0 rfl (by decide) rfl ?_
            refine E_iload_n at_X5_element_11 rfl ?_
            refine E_aalN (b := 49 + 2 * a1k) at_X5_element_12 w31 (by omega) (w_shs (by omega)) ?_
            refine E_iload_n at_X5_element_13 rfl ?_
            have e2 : Ev ab_Z0 2 40 [.ref (49 + 2 * a1k), .int (nI a2k)] (ww im lf s d k ls rf rz ra rn rq lt m1 m2 m3 m4 bd fc hd sz el s g fm hm so si sh ce ca td wa kp la bf oo bo pw ow tr) (some (.long 0), (ww im lf s d k ls rf rz ra rn rq lt m1 m2 m3 m4 bd fc hd sz el s g fm hm so si sh ce ca td wa kp la bf oo bo pw ow tr)) := by
              refine Ef.in (md := mX3_whole) (L := [some (.ref (49 + 2 * a1k)), some (.int (nI a2k))]) rfl (Nat.le_of_ble_eq_true rfl) rfl ?_
              refine E_aload_n at_X3_whole_0 rfl ?_
              refine E_iload_n at_X3_whole_1 rfl ?_
              have e1 : Ev ab_Z0 1 35 [.ref (49 + 2 * a1k), .int (nI a2k)] (ww im lf s d k ls rf rz ra rn rq lt m1 m2 m3 m4 bd fc hd sz el s g fm hm so si sh ce ca td wa kp la bf oo bo pw ow tr) (some (.int (nI 0)), (ww im lf s d k ls rf rz ra rn rq lt m1 m2 m3 m4 bd fc hd sz el s g fm hm so si sh ce ca td wa kp la bf oo bo pw ow tr)) := by
                refine Ef.in (md := mX3_hasElement) (L := [some (.ref (49 + 2 * a1k)), some (.int (nI a2k))]) rfl (Nat.le_of_ble_eq_true rfl) rfl ?_
                refine E_iload_n at_X3_hasElement_0 rfl ?_
                refine E_if (t := 16) (b := false) at_X3_hasElement_1 rfl ((cn_lt (nI_toInt (by omega)) (by decide : (0 : Int32).toInt = 0)).trans (decide_eq_false (by omega))) ?_
                refine E_iload_n at_X3_hasElement_4 rfl ?_
                refine E_aload_n at_X3_hasElement_5 rfl ?_
                refine E_getfield (v := .int (nI 0)) at_X3_hasElement_6 (w_shv (j := a1k) (by omega) u1 u2) rfl (by decide) rfl ?_
                refine E_ic (t := 16) (b := true) at_X3_hasElement_9 rfl ((cn_ge (nI_toInt (by omega)) (nI_toInt (by omega))).trans (decide_eq_true (by omega))) ?_
                refine E_iconst (x := nI 0) at_X3_hasElement_16 (by decide) ?_
                exact E_iret at_X3_hasElement_17 rfl
              refine E_callV (v := some (.int (nI 0))) (As := [.ref (49 + 2 * a1k), .int (nI a2k)]) (r0 := []) (cs2 := (ww im lf s d k ls rf rz ra rn rq lt m1 m2 m3 m4 bd fc hd sz el s g fm hm so si sh ce ca td wa kp la bf oo bo pw ow tr)) at_X3_whole_2 rfl rfl (Nat.le_of_ble_eq_true rfl) rfl (ab_rvOf (w_shv (j := a1k) (by omega) u1 u2) rfl) e1 (by decide) rfl ?_
              refine E_if (t := 17) (b := true) at_X3_whole_5 rfl (by decide) ?_
              refine E_lconst (x := 0) at_X3_whole_17 (by decide) ?_
              exact E_lret at_X3_whole_18 rfl
            refine E_callV (v := some (.long 0)) (As := [.ref (49 + 2 * a1k), .int (nI a2k)]) (r0 := []) (cs2 := (ww im lf s d k ls rf rz ra rn rq lt m1 m2 m3 m4 bd fc hd sz el s g fm hm so si sh ce ca td wa kp la bf oo bo pw ow tr)) at_X5_element_14 rfl rfl (Nat.le_of_ble_eq_true rfl) rfl (ab_rvOf (w_shv (j := a1k) (by omega) u1 u2) rfl) e2 (by decide) rfl ?_
            refine E_goto (t := 21) at_X5_element_17 rfl ?_
            exact E_lret at_X5_element_21 rfl
          · show Ev ab_Z0 2 138 [.ref 65, .int (nI a1k), .int (nI a2k)] (ww im lf s d k ls rf rz ra rn rq lt m1 m2 m3 m4 bd fc hd sz el s g fm hm so si sh ce ca td wa kp la bf oo bo pw ow tr) (some (.long 0), (ww im lf s d k ls rf rz ra rn rq lt m1 m2 m3 m4 bd fc hd sz el s g fm hm so si sh ce ca td wa kp la bf oo bo pw ow tr))
            refine Ef.in (md := mX6_element) (L := [some (.ref 65), some (.int (nI a1k)), some (.int (nI a2k))]) rfl (Nat.le_of_ble_eq_true rfl) rfl ?_
            refine E_aload_n at_X6_element_0 rfl ?_
            refine E_iload_n at_X6_element_1 rfl ?_
            refine E_callV (v := some (.int (nI 1))) (As := [.ref 65, .int (nI a1k)]) (r0 := []) (cs2 := (ww im lf s d k ls rf rz ra rn rq lt m1 m2 m3 m4 bd fc hd sz el s g fm hm so si sh ce ca td wa kp la bf oo bo pw ow tr)) at_X6_element_2 rfl rfl (Nat.le_of_ble_eq_true rfl) rfl (ab_rvOf w65 rfl) (L40_X6_isShelf (by omega) (by omega) (by omega)) (by decide) rfl ?_
            refine E_if (t := 47) (b := false) at_X6_element_5 rfl (by decide) ?_
            refine E_aload_n at_X6_element_8 rfl ?_
            refine E_getfield (v := .ref 76) at_X6_element_9 w65 rfl (by decide) rfl ?_
            refine E_iload_n at_X6_element_12 rfl ?_
            refine E_ialN (l := hm) (v := hm.getD a1k 0) at_X6_element_13 w76 (by omega) (by omega) rfl ?_
            refine E_iconst (x := nI 1) at_X6_element_14 (by decide) ?_
            refine E_ic (t := 47) (b := true) at_X6_element_15 rfl ((cn_ne (nI_toInt (by omega)) (nI_toInt (by omega))).trans (decide_eq_true (by omega))) ?_
            refine E_lconst (x := 0) at_X6_element_47 (by decide) ?_
            exact E_lret at_X6_element_48 rfl
          · exact ⟨I, rfl, hf, iQ, iM, iT, iS, l_el, (lr.1), (lr.2.1), (lr.2.2.1), (lr.2.2.2.1), (lr.2.2.2.2.1), (lr.2.2.2.2.2.1), (lr.2.2.2.2.2.2.1), (lr.2.2.2.2.2.2.2.1), (lr.2.2.2.2.2.2.2.2.1), (lr.2.2.2.2.2.2.2.2.2.1), (lr.2.2.2.2.2.2.2.2.2.2.1), (lr.2.2.2.2.2.2.2.2.2.2.2.1), (lr.2.2.2.2.2.2.2.2.2.2.2.2.1), (lr.2.2.2.2.2.2.2.2.2.2.2.2.2.1), (lr.2.2.2.2.2.2.2.2.2.2.2.2.2.2.1), (lr.2.2.2.2.2.2.2.2.2.2.2.2.2.2.2.1), (lr.2.2.2.2.2.2.2.2.2.2.2.2.2.2.2.2.1), (lr.2.2.2.2.2.2.2.2.2.2.2.2.2.2.2.2.2.1), (lr.2.2.2.2.2.2.2.2.2.2.2.2.2.2.2.2.2.2.1), (lr.2.2.2.2.2.2.2.2.2.2.2.2.2.2.2.2.2.2.2.1), (lr.2.2.2.2.2.2.2.2.2.2.2.2.2.2.2.2.2.2.2.2)⟩
        · refine ⟨0, (im, lf, s, d, k, ls, rf, rz, ra, rn, rq, lt, m1, m2, m3, m4, bd, fc, hd, sz, el, s, g, fm, hm, so, si, sh, ce, ca, td, wa, kp, la, bf, oo, bo, pw, ow, tr), (im, lf, s, d, k, ls, rf, rz, ra, rn, rq, lt, m1, m2, m3, m4, bd, fc, hd, sz, el, s, g, fm, hm, so, si, sh, ce, ca, td, wa, kp, la, bf, oo, bo, pw, ow, tr), ?_, ?_, ?_⟩
          · show Ev ab_Z0 3 79 [.ref 0, .int (nI a1k), .int a2] (ww im lf s d k ls rf rz ra rn rq lt m1 m2 m3 m4 bd fc hd sz el s g fm hm so si sh ce ca td wa kp la bf oo bo pw ow tr) (some (.long 0), (ww im lf s d k ls rf rz ra rn rq lt m1 m2 m3 m4 bd fc hd sz el s g fm hm so si sh ce ca td wa kp la bf oo bo pw ow tr))
            refine Ef.in (md := mX5_element) (L := [some (.ref 0), some (.int (nI a1k)), some (.int a2)]) rfl (Nat.le_of_ble_eq_true rfl) rfl ?_
            refine E_iload_n at_X5_element_0 rfl ?_
            refine E_callS (v := some (.int (nI 1))) (As := [.int (nI a1k)]) (r0 := []) (cs2 := (ww im lf s d k ls rf rz ra rn rq lt m1 m2 m3 m4 bd fc hd sz el s g fm hm so si sh ce ca td wa kp la bf oo bo pw ow tr)) at_X5_element_1 rfl rfl (Nat.le_of_ble_eq_true rfl) rfl (L39_X5_isShelf (by omega) (by omega) (by omega)) (by decide) rfl ?_
            refine E_if (t := 20) (b := false) at_X5_element_4 rfl (by decide) ?_
            refine E_aload_n at_X5_element_7 rfl ?_
            refine E_getfield (v := .ref 31) at_X5_element_8 w0 rfl (by decide) rfl ?_
            refine E_iload_n at_X5_element_11 rfl ?_
            refine E_aalN (b := 49 + 2 * a1k) at_X5_element_12 w31 (by omega) (w_shs (by omega)) ?_
            refine E_iload_n at_X5_element_13 rfl ?_
            have e2 : Ev ab_Z0 2 40 [.ref (49 + 2 * a1k), .int a2] (ww im lf s d k ls rf rz ra rn rq lt m1 m2 m3 m4 bd fc hd sz el s g fm hm so si sh ce ca td wa kp la bf oo bo pw ow tr) (some (.long 0), (ww im lf s d k ls rf rz ra rn rq lt m1 m2 m3 m4 bd fc hd sz el s g fm hm so si sh ce ca td wa kp la bf oo bo pw ow tr)) := by
              refine Ef.in (md := mX3_whole) (L := [some (.ref (49 + 2 * a1k)), some (.int a2)]) rfl (Nat.le_of_ble_eq_true rfl) rfl ?_
              refine E_aload_n at_X3_whole_0 rfl ?_
              refine E_iload_n at_X3_whole_1 rfl ?_
              have e1 : Ev ab_Z0 1 35 [.ref (49 + 2 * a1k), .int a2] (ww im lf s d k ls rf rz ra rn rq lt m1 m2 m3 m4 bd fc hd sz el s g fm hm so si sh ce ca td wa kp la bf oo bo pw ow tr) (some (.int (nI 0)), (ww im lf s d k ls rf rz ra rn rq lt m1 m2 m3 m4 bd fc hd sz el s g fm hm so si sh ce ca td wa kp la bf oo bo pw ow tr)) := by
                refine Ef.in (md := mX3_hasElement) (L := [some (.ref (49 + 2 * a1k)), some (.int a2)]) rfl (Nat.le_of_ble_eq_true rfl) rfl ?_
                refine E_iload_n at_X3_hasElement_0 rfl ?_
                refine E_if (t := 16) (b := true) at_X3_hasElement_1 rfl ((cn_lt rfl (by decide : (0 : Int32).toInt = 0)).trans (decide_eq_true (by omega))) ?_
                refine E_iconst (x := nI 0) at_X3_hasElement_16 (by decide) ?_
                exact E_iret at_X3_hasElement_17 rfl
              refine E_callV (v := some (.int (nI 0))) (As := [.ref (49 + 2 * a1k), .int a2]) (r0 := []) (cs2 := (ww im lf s d k ls rf rz ra rn rq lt m1 m2 m3 m4 bd fc hd sz el s g fm hm so si sh ce ca td wa kp la bf oo bo pw ow tr)) at_X3_whole_2 rfl rfl (Nat.le_of_ble_eq_true rfl) rfl (ab_rvOf (w_shv (j := a1k) (by omega) u1 u2) rfl) e1 (by decide) rfl ?_
              refine E_if (t := 17) (b := true) at_X3_whole_5 rfl (by decide) ?_
              refine E_lconst (x := 0) at_X3_whole_17 (by decide) ?_
              exact E_lret at_X3_whole_18 rfl
            refine E_callV (v := some (.long 0)) (As := [.ref (49 + 2 * a1k), .int a2]) (r0 := []) (cs2 := (ww im lf s d k ls rf rz ra rn rq lt m1 m2 m3 m4 bd fc hd sz el s g fm hm so si sh ce ca td wa kp la bf oo bo pw ow tr)) at_X5_element_14 rfl rfl (Nat.le_of_ble_eq_true rfl) rfl (ab_rvOf (w_shv (j := a1k) (by omega) u1 u2) rfl) e2 (by decide) rfl ?_
            refine E_goto (t := 21) at_X5_element_17 rfl ?_
            exact E_lret at_X5_element_21 rfl
          · show Ev ab_Z0 2 138 [.ref 65, .int (nI a1k), .int a2] (ww im lf s d k ls rf rz ra rn rq lt m1 m2 m3 m4 bd fc hd sz el s g fm hm so si sh ce ca td wa kp la bf oo bo pw ow tr) (some (.long 0), (ww im lf s d k ls rf rz ra rn rq lt m1 m2 m3 m4 bd fc hd sz el s g fm hm so si sh ce ca td wa kp la bf oo bo pw ow tr))
            refine Ef.in (md := mX6_element) (L := [some (.ref 65), some (.int (nI a1k)), some (.int a2)]) rfl (Nat.le_of_ble_eq_true rfl) rfl ?_
            refine E_aload_n at_X6_element_0 rfl ?_
            refine E_iload_n at_X6_element_1 rfl ?_
            refine E_callV (v := some (.int (nI 1))) (As := [.ref 65, .int (nI a1k)]) (r0 := []) (cs2 := (ww im lf s d k ls rf rz ra rn rq lt m1 m2 m3 m4 bd fc hd sz el s g fm hm so si sh ce ca td wa kp la bf oo bo pw ow tr)) at_X6_element_2 rfl rfl (Nat.le_of_ble_eq_true rfl) rfl (ab_rvOf w65 rfl) (L40_X6_isShelf (by omega) (by omega) (by omega)) (by decide) rfl ?_
            refine E_if (t := 47) (b := false) at_X6_element_5 rfl (by decide) ?_
            refine E_aload_n at_X6_element_8 rfl ?_
            refine E_getfield (v := .ref 76) at_X6_element_9 w65 rfl (by decide) rfl ?_
            refine E_iload_n at_X6_element_12 rfl ?_
            refine E_ialN (l := hm) (v := hm.getD a1k 0) at_X6_element_13 w76 (by omega) (by omega) rfl ?_
            refine E_iconst (x := nI 1) at_X6_element_14 (by decide) ?_
            refine E_ic (t := 47) (b := true) at_X6_element_15 rfl ((cn_ne (nI_toInt (by omega)) (nI_toInt (by omega))).trans (decide_eq_true (by omega))) ?_
            refine E_lconst (x := 0) at_X6_element_47 (by decide) ?_
            exact E_lret at_X6_element_48 rfl
          · exact ⟨I, rfl, hf, iQ, iM, iT, iS, l_el, (lr.1), (lr.2.1), (lr.2.2.1), (lr.2.2.2.1), (lr.2.2.2.2.1), (lr.2.2.2.2.2.1), (lr.2.2.2.2.2.2.1), (lr.2.2.2.2.2.2.2.1), (lr.2.2.2.2.2.2.2.2.1), (lr.2.2.2.2.2.2.2.2.2.1), (lr.2.2.2.2.2.2.2.2.2.2.1), (lr.2.2.2.2.2.2.2.2.2.2.2.1), (lr.2.2.2.2.2.2.2.2.2.2.2.2.1), (lr.2.2.2.2.2.2.2.2.2.2.2.2.2.1), (lr.2.2.2.2.2.2.2.2.2.2.2.2.2.2.1), (lr.2.2.2.2.2.2.2.2.2.2.2.2.2.2.2.1), (lr.2.2.2.2.2.2.2.2.2.2.2.2.2.2.2.2.1), (lr.2.2.2.2.2.2.2.2.2.2.2.2.2.2.2.2.2.1), (lr.2.2.2.2.2.2.2.2.2.2.2.2.2.2.2.2.2.2.1), (lr.2.2.2.2.2.2.2.2.2.2.2.2.2.2.2.2.2.2.2.1), (lr.2.2.2.2.2.2.2.2.2.2.2.2.2.2.2.2.2.2.2.2)⟩
      · rcases ab_int a2 with ⟨a2k, f3, rfl⟩ | f3
        · refine ⟨0, (im, lf, s, d, k, ls, rf, rz, ra, rn, rq, lt, m1, m2, m3, m4, bd, fc, hd, sz, el, s, g, fm, hm, so, si, sh, ce, ca, td, wa, kp, la, bf, oo, bo, pw, ow, tr), (im, lf, s, d, k, ls, rf, rz, ra, rn, rq, lt, m1, m2, m3, m4, bd, fc, hd, sz, el, s, g, fm, hm, so, si, sh, ce, ca, td, wa, kp, la, bf, oo, bo, pw, ow, tr), ?_, ?_, ?_⟩
          · show Ev ab_Z0 3 79 [.ref 0, .int (nI a1k), .int (nI a2k)] (ww im lf s d k ls rf rz ra rn rq lt m1 m2 m3 m4 bd fc hd sz el s g fm hm so si sh ce ca td wa kp la bf oo bo pw ow tr) (some (.long 0), (ww im lf s d k ls rf rz ra rn rq lt m1 m2 m3 m4 bd fc hd sz el s g fm hm so si sh ce ca td wa kp la bf oo bo pw ow tr))
            refine Ef.in (md := mX5_element) (L := [some (.ref 0), some (.int (nI a1k)), some (.int (nI a2k))]) rfl (Nat.le_of_ble_eq_true rfl) rfl ?_
            refine E_iload_n at_X5_element_0 rfl ?_
            refine E_callS (v := some (.int (nI 1))) (As := [.int (nI a1k)]) (r0 := []) (cs2 := (ww im lf s d k ls rf rz ra rn rq lt m1 m2 m3 m4 bd fc hd sz el s g fm hm so si sh ce ca td wa kp la bf oo bo pw ow tr)) at_X5_element_1 rfl rfl (Nat.le_of_ble_eq_true rfl) rfl (L39_X5_isShelf (by omega) (by omega) (by omega)) (by decide) rfl ?_
            refine E_if (t := 20) (b := false) at_X5_element_4 rfl (by decide) ?_
            refine E_aload_n at_X5_element_7 rfl ?_
            refine E_getfield (v := .ref 31) at_X5_element_8 w0 rfl (by decide) rfl ?_
            refine E_iload_n at_X5_element_11 rfl ?_
            refine E_aalN (b := 49 + 2 * a1k) at_X5_element_12 w31 (by omega) (w_shs (by omega)) ?_
            refine E_iload_n at_X5_element_13 rfl ?_
            have e2 : Ev ab_Z0 2 40 [.ref (49 + 2 * a1k), .int (nI a2k)] (ww im lf s d k ls rf rz ra rn rq lt m1 m2 m3 m4 bd fc hd sz el s g fm hm so si sh ce ca td wa kp la bf oo bo pw ow tr) (some (.long 0), (ww im lf s d k ls rf rz ra rn rq lt m1 m2 m3 m4 bd fc hd sz el s g fm hm so si sh ce ca td wa kp la bf oo bo pw ow tr)) := by
              refine Ef.in (md := mX3_whole) (L := [some (.ref (49 + 2 * a1k)), some (.int (nI a2k))]) rfl (Nat.le_of_ble_eq_true rfl) rfl ?_
              refine E_aload_n at_X3_whole_0 rfl ?_
              refine E_iload_n at_X3_whole_1 rfl ?_
              have e1 : Ev ab_Z0 1 35 [.ref (49 + 2 * a1k), .int (nI a2k)] (ww im lf s d k ls rf rz ra rn rq lt m1 m2 m3 m4 bd fc hd sz el s g fm hm so si sh ce ca td wa kp la bf oo bo pw ow tr) (some (.int (nI 0)), (ww im lf s d k ls rf rz ra rn rq lt m1 m2 m3 m4 bd fc hd sz el s g fm hm so si sh ce ca td wa kp la bf oo bo pw ow tr)) := by
                refine Ef.in (md := mX3_hasElement) (L := [some (.ref (49 + 2 * a1k)), some (.int (nI a2k))]) rfl (Nat.le_of_ble_eq_true rfl) rfl ?_
                refine E_iload_n at_X3_hasElement_0 rfl ?_
                refine E_if (t := 16) (b := false) at_X3_hasElement_1 rfl ((cn_lt (nI_toInt (by omega)) (by decide : (0 : Int32).toInt = 0)).trans (decide_eq_false (by omega))) ?_
                refine E_iload_n at_X3_hasElement_4 rfl ?_
                refine E_aload_n at_X3_hasElement_5 rfl ?_
                refine E_getfield (v := .int (nI 0)) at_X3_hasElement_6 (w_shv (j := a1k) (by omega) u2 u3) rfl (by decide) rfl ?_
                refine E_ic (t := 16) (b := true) at_X3_hasElement_9 rfl ((cn_ge (nI_toInt (by omega)) (nI_toInt (by omega))).trans (decide_eq_true (by omega))) ?_
                refine E_iconst (x := nI 0) at_X3_hasElement_16 (by decide) ?_
                exact E_iret at_X3_hasElement_17 rfl
              refine E_callV (v := some (.int (nI 0))) (As := [.ref (49 + 2 * a1k), .int (nI a2k)]) (r0 := []) (cs2 := (ww im lf s d k ls rf rz ra rn rq lt m1 m2 m3 m4 bd fc hd sz el s g fm hm so si sh ce ca td wa kp la bf oo bo pw ow tr)) at_X3_whole_2 rfl rfl (Nat.le_of_ble_eq_true rfl) rfl (ab_rvOf (w_shv (j := a1k) (by omega) u2 u3) rfl) e1 (by decide) rfl ?_
              refine E_if (t := 17) (b := true) at_X3_whole_5 rfl (by decide) ?_
              refine E_lconst (x := 0) at_X3_whole_17 (by decide) ?_
              exact E_lret at_X3_whole_18 rfl
            refine E_callV (v := some (.long 0)) (As := [.ref (49 + 2 * a1k), .int (nI a2k)]) (r0 := []) (cs2 := (ww im lf s d k ls rf rz ra rn rq lt m1 m2 m3 m4 bd fc hd sz el s g fm hm so si sh ce ca td wa kp la bf oo bo pw ow tr)) at_X5_element_14 rfl rfl (Nat.le_of_ble_eq_true rfl) rfl (ab_rvOf (w_shv (j := a1k) (by omega) u2 u3) rfl) e2 (by decide) rfl ?_
            refine E_goto (t := 21) at_X5_element_17 rfl ?_
            exact E_lret at_X5_element_21 rfl
          · show Ev ab_Z0 2 138 [.ref 65, .int (nI a1k), .int (nI a2k)] (ww im lf s d k ls rf rz ra rn rq lt m1 m2 m3 m4 bd fc hd sz el s g fm hm so si sh ce ca td wa kp la bf oo bo pw ow tr) (some (.long 0), (ww im lf s d k ls rf rz ra rn rq lt m1 m2 m3 m4 bd fc hd sz el s g fm hm so si sh ce ca td wa kp la bf oo bo pw ow tr))
            refine Ef.in (md := mX6_element) (L := [some (.ref 65), some (.int (nI a1k)), some (.int (nI a2k))]) rfl (Nat.le_of_ble_eq_true rfl) rfl ?_
            refine E_aload_n at_X6_element_0 rfl ?_
            refine E_iload_n at_X6_element_1 rfl ?_
            refine E_callV (v := some (.int (nI 1))) (As := [.ref 65, .int (nI a1k)]) (r0 := []) (cs2 := (ww im lf s d k ls rf rz ra rn rq lt m1 m2 m3 m4 bd fc hd sz el s g fm hm so si sh ce ca td wa kp la bf oo bo pw ow tr)) at_X6_element_2 rfl rfl (Nat.le_of_ble_eq_true rfl) rfl (ab_rvOf w65 rfl) (L40_X6_isShelf (by omega) (by omega) (by omega)) (by decide) rfl ?_
            refine E_if (t := 47) (b := false) at_X6_element_5 rfl (by decide) ?_
            refine E_aload_n at_X6_element_8 rfl ?_
            refine E_getfield (v := .ref 76) at_X6_element_9 w65 rfl (by decide) rfl ?_
            refine E_iload_n at_X6_element_12 rfl ?_
            refine E_ialN (l := hm) (v := hm.getD a1k 0) at_X6_element_13 w76 (by omega) (by omega) rfl ?_
            refine E_iconst (x := nI 1) at_X6_element_14 (by decide) ?_
            refine E_ic (t := 47) (b := true) at_X6_element_15 rfl ((cn_ne (nI_toInt (by omega)) (nI_toInt (by omega))).trans (decide_eq_true (by omega))) ?_
            refine E_lconst (x := 0) at_X6_element_47 (by decide) ?_
            exact E_lret at_X6_element_48 rfl
          · exact ⟨I, rfl, hf, iQ, iM, iT, iS, l_el, (lr.1), (lr.2.1), (lr.2.2.1), (lr.2.2.2.1), (lr.2.2.2.2.1), (lr.2.2.2.2.2.1), (lr.2.2.2.2.2.2.1), (lr.2.2.2.2.2.2.2.1), (lr.2.2.2.2.2.2.2.2.1), (lr.2.2.2.2.2.2.2.2.2.1), (lr.2.2.2.2.2.2.2.2.2.2.1), (lr.2.2.2.2.2.2.2.2.2.2.2.1), (lr.2.2.2.2.2.2.2.2.2.2.2.2.1), (lr.2.2.2.2.2.2.2.2.2.2.2.2.2.1), (lr.2.2.2.2.2.2.2.2.2.2.2.2.2.2.1), (lr.2.2.2.2.2.2.2.2.2.2.2.2.2.2.2.1), (lr.2.2.2.2.2.2.2.2.2.2.2.2.2.2.2.2.1), (lr.2.2.2.2.2.2.2.2.2.2.2.2.2.2.2.2.2.1), (lr.2.2.2.2.2.2.2.2.2.2.2.2.2.2.2.2.2.2.1), (lr.2.2.2.2.2.2.2.2.2.2.2.2.2.2.2.2.2.2.2.1), (lr.2.2.2.2.2.2.2.2.2.2.2.2.2.2.2.2.2.2.2.2)⟩
        · refine ⟨0, (im, lf, s, d, k, ls, rf, rz, ra, rn, rq, lt, m1, m2, m3, m4, bd, fc, hd, sz, el, s, g, fm, hm, so, si, sh, ce, ca, td, wa, kp, la, bf, oo, bo, pw, ow, tr), (im, lf, s, d, k, ls, rf, rz, ra, rn, rq, lt, m1, m2, m3, m4, bd, fc, hd, sz, el, s, g, fm, hm, so, si, sh, ce, ca, td, wa, kp, la, bf, oo, bo, pw, ow, tr), ?_, ?_, ?_⟩
          · show Ev ab_Z0 3 79 [.ref 0, .int (nI a1k), .int a2] (ww im lf s d k ls rf rz ra rn rq lt m1 m2 m3 m4 bd fc hd sz el s g fm hm so si sh ce ca td wa kp la bf oo bo pw ow tr) (some (.long 0), (ww im lf s d k ls rf rz ra rn rq lt m1 m2 m3 m4 bd fc hd sz el s g fm hm so si sh ce ca td wa kp la bf oo bo pw ow tr))
            refine Ef.in (md := mX5_element) (L := [some (.ref 0), some (.int (nI a1k)), some (.int a2)]) rfl (Nat.le_of_ble_eq_true rfl) rfl ?_
            refine E_iload_n at_X5_element_0 rfl ?_
            refine E_callS (v := some (.int (nI 1))) (As := [.int (nI a1k)]) (r0 := []) (cs2 := (ww im lf s d k ls rf rz ra rn rq lt m1 m2 m3 m4 bd fc hd sz el s g fm hm so si sh ce ca td wa kp la bf oo bo pw ow tr)) at_X5_element_1 rfl rfl (Nat.le_of_ble_eq_true rfl) rfl (L39_X5_isShelf (by omega) (by omega) (by omega)) (by decide) rfl ?_
            refine E_if (t := 20) (b := false) at_X5_element_4 rfl (by decide) ?_
            refine E_aload_n at_X5_element_7 rfl ?_
            refine E_getfield (v := .ref 31) at_X5_element_8 w0 rfl (by decide) rfl ?_
            refine E_iload_n at_X5_element_11 rfl ?_
            refine E_aalN (b := 49 + 2 * a1k) at_X5_element_12 w31 (by omega) (w_shs (by omega)) ?_
            refine E_iload_n at_X5_element_13 rfl ?_
            have e2 : Ev ab_Z0 2 40 [.ref (49 + 2 * a1k), .int a2] (ww im lf s d k ls rf rz ra rn rq lt m1 m2 m3 m4 bd fc hd sz el s g fm hm so si sh ce ca td wa kp la bf oo bo pw ow tr) (some (.long 0), (ww im lf s d k ls rf rz ra rn rq lt m1 m2 m3 m4 bd fc hd sz el s g fm hm so si sh ce ca td wa kp la bf oo bo pw ow tr)) := by
              refine Ef.in (md := mX3_whole) (L := [some (.ref (49 + 2 * a1k)), some (.int a2)]) rfl (Nat.le_of_ble_eq_true rfl) rfl ?_
              refine E_aload_n at_X3_whole_0 rfl ?_
              refine E_iload_n at_X3_whole_1 rfl ?_
              have e1 : Ev ab_Z0 1 35 [.ref (49 + 2 * a1k), .int a2] (ww im lf s d k ls rf rz ra rn rq lt m1 m2 m3 m4 bd fc hd sz el s g fm hm so si sh ce ca td wa kp la bf oo bo pw ow tr) (some (.int (nI 0)), (ww im lf s d k ls rf rz ra rn rq lt m1 m2 m3 m4 bd fc hd sz el s g fm hm so si sh ce ca td wa kp la bf oo bo pw ow tr)) := by
                refine Ef.in (md := mX3_hasElement) (L := [some (.ref (49 + 2 * a1k)), some (.int a2)]) rfl (Nat.le_of_ble_eq_true rfl) rfl ?_
                refine E_iload_n at_X3_hasElement_0 rfl ?_
                refine E_if (t := 16) (b := true) at_X3_hasElement_1 rfl ((cn_lt rfl (by decide : (0 : Int32).toInt = 0)).trans (decide_eq_true (by omega))) ?_
                refine E_iconst (x := nI 0) at_X3_hasElement_16 (by decide) ?_
                exact E_iret at_X3_hasElement_17 rfl
              refine E_callV (v := some (.int (nI 0))) (As := [.ref (49 + 2 * a1k), .int a2]) (r0 := []) (cs2 := (ww im lf s d k ls rf rz ra rn rq lt m1 m2 m3 m4 bd fc hd sz el s g fm hm so si sh ce ca td wa kp la bf oo bo pw ow tr)) at_X3_whole_2 rfl rfl (Nat.le_of_ble_eq_true rfl) rfl (ab_rvOf (w_shv (j := a1k) (by omega) u2 u3) rfl) e1 (by decide) rfl ?_
              refine E_if (t := 17) (b := true) at_X3_whole_5 rfl (by decide) ?_
              refine E_lconst (x := 0) at_X3_whole_17 (by decide) ?_
              exact E_lret at_X3_whole_18 rfl
            refine E_callV (v := some (.long 0)) (As := [.ref (49 + 2 * a1k), .int a2]) (r0 := []) (cs2 := (ww im lf s d k ls rf rz ra rn rq lt m1 m2 m3 m4 bd fc hd sz el s g fm hm so si sh ce ca td wa kp la bf oo bo pw ow tr)) at_X5_element_14 rfl rfl (Nat.le_of_ble_eq_true rfl) rfl (ab_rvOf (w_shv (j := a1k) (by omega) u2 u3) rfl) e2 (by decide) rfl ?_
            refine E_goto (t := 21) at_X5_element_17 rfl ?_
            exact E_lret at_X5_element_21 rfl
          · show Ev ab_Z0 2 138 [.ref 65, .int (nI a1k), .int a2] (ww im lf s d k ls rf rz ra rn rq lt m1 m2 m3 m4 bd fc hd sz el s g fm hm so si sh ce ca td wa kp la bf oo bo pw ow tr) (some (.long 0), (ww im lf s d k ls rf rz ra rn rq lt m1 m2 m3 m4 bd fc hd sz el s g fm hm so si sh ce ca td wa kp la bf oo bo pw ow tr))
            refine Ef.in (md := mX6_element) (L := [some (.ref 65), some (.int (nI a1k)), some (.int a2)]) rfl (Nat.le_of_ble_eq_true rfl) rfl ?_
            refine E_aload_n at_X6_element_0 rfl ?_
            refine E_iload_n at_X6_element_1 rfl ?_
            refine E_callV (v := some (.int (nI 1))) (As := [.ref 65, .int (nI a1k)]) (r0 := []) (cs2 := (ww im lf s d k ls rf rz ra rn rq lt m1 m2 m3 m4 bd fc hd sz el s g fm hm so si sh ce ca td wa kp la bf oo bo pw ow tr)) at_X6_element_2 rfl rfl (Nat.le_of_ble_eq_true rfl) rfl (ab_rvOf w65 rfl) (L40_X6_isShelf (by omega) (by omega) (by omega)) (by decide) rfl ?_
            refine E_if (t := 47) (b := false) at_X6_element_5 rfl (by decide) ?_
            refine E_aload_n at_X6_element_8 rfl ?_
            refine E_getfield (v := .ref 76) at_X6_element_9 w65 rfl (by decide) rfl ?_
            refine E_iload_n at_X6_element_12 rfl ?_
            refine E_ialN (l := hm) (v := hm.getD a1k 0) at_X6_element_13 w76 (by omega) (by omega) rfl ?_
            refine E_iconst (x := nI 1) at_X6_element_14 (by decide) ?_
            refine E_ic (t := 47) (b := true) at_X6_element_15 rfl ((cn_ne (nI_toInt (by omega)) (nI_toInt (by omega))).trans (decide_eq_true (by omega))) ?_
            refine E_lconst (x := 0) at_X6_element_47 (by decide) ?_
            exact E_lret at_X6_element_48 rfl
          · exact ⟨I, rfl, hf, iQ, iM, iT, iS, l_el, (lr.1), (lr.2.1), (lr.2.2.1), (lr.2.2.2.1), (lr.2.2.2.2.1), (lr.2.2.2.2.2.1), (lr.2.2.2.2.2.2.1), (lr.2.2.2.2.2.2.2.1), (lr.2.2.2.2.2.2.2.2.1), (lr.2.2.2.2.2.2.2.2.2.1), (lr.2.2.2.2.2.2.2.2.2.2.1), (lr.2.2.2.2.2.2.2.2.2.2.2.1), (lr.2.2.2.2.2.2.2.2.2.2.2.2.1), (lr.2.2.2.2.2.2.2.2.2.2.2.2.2.1), (lr.2.2.2.2.2.2.2.2.2.2.2.2.2.2.1), (lr.2.2.2.2.2.2.2.2.2.2.2.2.2.2.2.1), (lr.2.2.2.2.2.2.2.2.2.2.2.2.2.2.2.2.1), (lr.2.2.2.2.2.2.2.2.2.2.2.2.2.2.2.2.2.1), (lr.2.2.2.2.2.2.2.2.2.2.2.2.2.2.2.2.2.2.1), (lr.2.2.2.2.2.2.2.2.2.2.2.2.2.2.2.2.2.2.2.1), (lr.2.2.2.2.2.2.2.2.2.2.2.2.2.2.2.2.2.2.2.2)⟩
      · rcases ab_int a2 with ⟨a2k, f3, rfl⟩ | f3
        · by_cases f4 : a2k < (si.getD a1k 0)
          · have := l_el a1k (by omega)
            refine ⟨((el a1k).getD a2k 0), (im, lf, s, d, k, ls, rf, rz, ra, rn, rq, lt, m1, m2, m3, m4, bd, fc, hd, sz, el, s, g, fm, hm, so, si, sh, ce, ca, td, wa, kp, la, bf, oo, bo, pw, ow, tr), (im, lf, s, d, k, ls, rf, rz, ra, rn, rq, lt, m1, m2, m3, m4, bd, fc, hd, sz, el, s, g, fm, hm, so, si, sh, ce, ca, td, wa, kp, la, bf, oo, bo, pw, ow, tr), ?_, ?_, ?_⟩
            · show Ev ab_Z0 3 79 [.ref 0, .int (nI a1k), .int (nI a2k)] (ww im lf s d k ls rf rz ra rn rq lt m1 m2 m3 m4 bd fc hd sz el s g fm hm so si sh ce ca td wa kp la bf oo bo pw ow tr) (some (.long ((el a1k).getD a2k 0)), (ww im lf s d k ls rf rz ra rn rq lt m1 m2 m3 m4 bd fc hd sz el s g fm hm so si sh ce ca td wa kp la bf oo bo pw ow tr))
              refine Ef.in (md := mX5_element) (L := [some (.ref 0), some (.int (nI a1k)), some (.int (nI a2k))]) rfl (Nat.le_of_ble_eq_true rfl) rfl ?_
              refine E_iload_n at_X5_element_0 rfl ?_
              refine E_callS (v := some (.int (nI 1))) (As := [.int (nI a1k)]) (r0 := []) (cs2 := (ww im lf s d k ls rf rz ra rn rq lt m1 m2 m3 m4 bd fc hd sz el s g fm hm so si sh ce ca td wa kp la bf oo bo pw ow tr)) at_X5_element_1 rfl rfl (Nat.le_of_ble_eq_true rfl) rfl (L39_X5_isShelf (by omega) (by omega) (by omega)) (by decide) rfl ?_
              refine E_if (t := 20) (b := false) at_X5_element_4 rfl (by decide) ?_
              refine E_aload_n at_X5_element_7 rfl ?_
              refine E_getfield (v := .ref 31) at_X5_element_8 w0 rfl (by decide) rfl ?_
              refine E_iload_n at_X5_element_11 rfl ?_
              refine E_aalN (b := 49 + 2 * a1k) at_X5_element_12 w31 (by omega) (w_shs (by omega)) ?_
              refine E_iload_n at_X5_element_13 rfl ?_
              have e2 : Ev ab_Z0 2 40 [.ref (49 + 2 * a1k), .int (nI a2k)] (ww im lf s d k ls rf rz ra rn rq lt m1 m2 m3 m4 bd fc hd sz el s g fm hm so si sh ce ca td wa kp la bf oo bo pw ow tr) (some (.long ((el a1k).getD a2k 0)), (ww im lf s d k ls rf rz ra rn rq lt m1 m2 m3 m4 bd fc hd sz el s g fm hm so si sh ce ca td wa kp la bf oo bo pw ow tr)) := by
                refine Ef.in (md := mX3_whole) (L := [some (.ref (49 + 2 * a1k)), some (.int (nI a2k))]) rfl (Nat.le_of_ble_eq_true rfl) rfl ?_
                refine E_aload_n at_X3_whole_0 rfl ?_
                refine E_iload_n at_X3_whole_1 rfl ?_
                have e1 : Ev ab_Z0 1 35 [.ref (49 + 2 * a1k), .int (nI a2k)] (ww im lf s d k ls rf rz ra rn rq lt m1 m2 m3 m4 bd fc hd sz el s g fm hm so si sh ce ca td wa kp la bf oo bo pw ow tr) (some (.int (nI 1)), (ww im lf s d k ls rf rz ra rn rq lt m1 m2 m3 m4 bd fc hd sz el s g fm hm so si sh ce ca td wa kp la bf oo bo pw ow tr)) := by
                  refine Ef.in (md := mX3_hasElement) (L := [some (.ref (49 + 2 * a1k)), some (.int (nI a2k))]) rfl (Nat.le_of_ble_eq_true rfl) rfl ?_
                  refine E_iload_n at_X3_hasElement_0 rfl ?_
                  refine E_if (t := 16) (b := false) at_X3_hasElement_1 rfl ((cn_lt (nI_toInt (by omega)) (by decide : (0 : Int32).toInt = 0)).trans (decide_eq_false (by omega))) ?_
                  refine E_iload_n at_X3_hasElement_4 rfl ?_
                  refine E_aload_n at_X3_hasElement_5 rfl ?_
                  refine E_getfield (v := .int (nI (si.getD a1k 0))) at_X3_hasElement_6 (w_shv (j := a1k) (by omega) u1 u2) rfl (by decide) rfl ?_
                  refine E_ic (t := 16) (b := false) at_X3_hasElement_9 rfl ((cn_ge (nI_toInt (by omega)) (nI_toInt (by omega))).trans (decide_eq_false (by omega))) ?_
                  refine E_iconst (x := nI 1) at_X3_hasElement_12 (by decide) ?_
                  refine E_goto (t := 17) at_X3_hasElement_13 rfl ?_
                  exact E_iret at_X3_hasElement_17 rfl
                refine E_callV (v := some (.int (nI 1))) (As := [.ref (49 + 2 * a1k), .int (nI a2k)]) (r0 := []) (cs2 := (ww im lf s d k ls rf rz ra rn rq lt m1 m2 m3 m4 bd fc hd sz el s g fm hm so si sh ce ca td wa kp la bf oo bo pw ow tr)) at_X3_whole_2 rfl rfl (Nat.le_of_ble_eq_true rfl) rfl (ab_rvOf (w_shv (j := a1k) (by omega) u1 u2) rfl) e1 (by decide) rfl ?_
                refine E_if (t := 17) (b := false) at_X3_whole_5 rfl (by decide) ?_
                refine E_aload_n at_X3_whole_8 rfl ?_
                refine E_getfield (v := .ref (50 + 2 * a1k)) at_X3_whole_9 (w_shv (j := a1k) (by omega) u1 u2) rfl (by decide) rfl ?_
                refine E_iload_n at_X3_whole_12 rfl ?_
                refine E_lalL (l := el a1k) (v := (el a1k).getD a2k 0) at_X3_whole_13 (w_el (j := a1k) (by omega)) (by omega) (by omega) rfl ?_
                refine E_goto (t := 18) at_X3_whole_14 rfl ?_
                exact E_lret at_X3_whole_18 rfl
              refine E_callV (v := some (.long ((el a1k).getD a2k 0))) (As := [.ref (49 + 2 * a1k), .int (nI a2k)]) (r0 := []) (cs2 := (ww im lf s d k ls rf rz ra rn rq lt m1 m2 m3 m4 bd fc hd sz el s g fm hm so si sh ce ca td wa kp la bf oo bo pw ow tr)) at_X5_element_14 rfl rfl (Nat.le_of_ble_eq_true rfl) rfl (ab_rvOf (w_shv (j := a1k) (by omega) u1 u2) rfl) e2 (by decide) rfl ?_
              refine E_goto (t := 21) at_X5_element_17 rfl ?_
              exact E_lret at_X5_element_21 rfl
            · show Ev ab_Z0 2 138 [.ref 65, .int (nI a1k), .int (nI a2k)] (ww im lf s d k ls rf rz ra rn rq lt m1 m2 m3 m4 bd fc hd sz el s g fm hm so si sh ce ca td wa kp la bf oo bo pw ow tr) (some (.long ((el a1k).getD a2k 0)), (ww im lf s d k ls rf rz ra rn rq lt m1 m2 m3 m4 bd fc hd sz el s g fm hm so si sh ce ca td wa kp la bf oo bo pw ow tr))
              rw [show ((el a1k).getD a2k 0) = (ce.getD ((160 * a1k) + a2k) 0) from u6 _ (by omega)]
              refine Ef.in (md := mX6_element) (L := [some (.ref 65), some (.int (nI a1k)), some (.int (nI a2k))]) rfl (Nat.le_of_ble_eq_true rfl) rfl ?_
              refine E_aload_n at_X6_element_0 rfl ?_
              refine E_iload_n at_X6_element_1 rfl ?_
              refine E_callV (v := some (.int (nI 1))) (As := [.ref 65, .int (nI a1k)]) (r0 := []) (cs2 := (ww im lf s d k ls rf rz ra rn rq lt m1 m2 m3 m4 bd fc hd sz el s g fm hm so si sh ce ca td wa kp la bf oo bo pw ow tr)) at_X6_element_2 rfl rfl (Nat.le_of_ble_eq_true rfl) rfl (ab_rvOf w65 rfl) (L40_X6_isShelf (by omega) (by omega) (by omega)) (by decide) rfl ?_
              refine E_if (t := 47) (b := false) at_X6_element_5 rfl (by decide) ?_
              refine E_aload_n at_X6_element_8 rfl ?_
              refine E_getfield (v := .ref 76) at_X6_element_9 w65 rfl (by decide) rfl ?_
              refine E_iload_n at_X6_element_12 rfl ?_
              refine E_ialN (l := hm) (v := hm.getD a1k 0) at_X6_element_13 w76 (by omega) (by omega) rfl ?_
              refine E_iconst (x := nI 1) at_X6_element_14 (by decide) ?_
              refine E_ic (t := 47) (b := false) at_X6_element_15 rfl ((cn_ne (nI_toInt (by omega)) (nI_toInt (by omega))).trans (decide_eq_false (by omega))) ?_
              refine E_iload_n rfl rfl ?_
              refine E_if (t := 47) (b := false) rfl rfl ((cn_lt (nI_toInt (by omega)) (by decide : (0 : Int32).toInt = 0)).trans (decide_eq_false (by omega))) ?_
              refine E_iload_n rfl rfl ?_
              refine E_aload_n rfl rfl ?_
              refine E_getfield (v := .ref 78) rfl w65 rfl (by decide) rfl ?_
              refine E_iload_n rfl rfl ?_
              refine E_ialN (l := si) (v := si.getD a1k 0) rfl w78 (by omega) (by omega) rfl ?_
              refine E_ic (t := 47) (b := false) rfl rfl ((cn_ge (nI_toInt (by omega)) (nI_toInt (by omega))).trans (decide_eq_false (by omega))) ?_
              refine E_aload_n rfl rfl ?_
              refine E_getfield (v := .ref 80) rfl w65 rfl (by decide) rfl ?_
              refine E_sipush (x := nI 160) rfl (by decide) ?_
              refine E_iload_n rfl rfl ?_
              refine E_imul (z := nI (160 * a1k)) rfl (pk_mul _ _) ?_
              refine E_iload_n rfl rfl ?_
              refine E_iadd (z := nI ((160 * a1k) + a2k)) rfl (nI_add _ _) ?_
              refine E_lalL (l := ce) (v := ce.getD ((160 * a1k) + a2k) 0) rfl w80 (by omega) (by omega) rfl ?_
              refine E_goto (t := 48) rfl rfl ?_
              exact E_lret at_X6_element_48 rfl
            · exact ⟨I, rfl, hf, iQ, iM, iT, iS, l_el, (lr.1), (lr.2.1), (lr.2.2.1), (lr.2.2.2.1), (lr.2.2.2.2.1), (lr.2.2.2.2.2.1), (lr.2.2.2.2.2.2.1), (lr.2.2.2.2.2.2.2.1), (lr.2.2.2.2.2.2.2.2.1), (lr.2.2.2.2.2.2.2.2.2.1), (lr.2.2.2.2.2.2.2.2.2.2.1), (lr.2.2.2.2.2.2.2.2.2.2.2.1), (lr.2.2.2.2.2.2.2.2.2.2.2.2.1), (lr.2.2.2.2.2.2.2.2.2.2.2.2.2.1), (lr.2.2.2.2.2.2.2.2.2.2.2.2.2.2.1), (lr.2.2.2.2.2.2.2.2.2.2.2.2.2.2.2.1), (lr.2.2.2.2.2.2.2.2.2.2.2.2.2.2.2.2.1), (lr.2.2.2.2.2.2.2.2.2.2.2.2.2.2.2.2.2.1), (lr.2.2.2.2.2.2.2.2.2.2.2.2.2.2.2.2.2.2.1), (lr.2.2.2.2.2.2.2.2.2.2.2.2.2.2.2.2.2.2.2.1), (lr.2.2.2.2.2.2.2.2.2.2.2.2.2.2.2.2.2.2.2.2)⟩
          · refine ⟨0, (im, lf, s, d, k, ls, rf, rz, ra, rn, rq, lt, m1, m2, m3, m4, bd, fc, hd, sz, el, s, g, fm, hm, so, si, sh, ce, ca, td, wa, kp, la, bf, oo, bo, pw, ow, tr), (im, lf, s, d, k, ls, rf, rz, ra, rn, rq, lt, m1, m2, m3, m4, bd, fc, hd, sz, el, s, g, fm, hm, so, si, sh, ce, ca, td, wa, kp, la, bf, oo, bo, pw, ow, tr), ?_, ?_, ?_⟩
            · show Ev ab_Z0 3 79 [.ref 0, .int (nI a1k), .int (nI a2k)] (ww im lf s d k ls rf rz ra rn rq lt m1 m2 m3 m4 bd fc hd sz el s g fm hm so si sh ce ca td wa kp la bf oo bo pw ow tr) (some (.long 0), (ww im lf s d k ls rf rz ra rn rq lt m1 m2 m3 m4 bd fc hd sz el s g fm hm so si sh ce ca td wa kp la bf oo bo pw ow tr))
              refine Ef.in (md := mX5_element) (L := [some (.ref 0), some (.int (nI a1k)), some (.int (nI a2k))]) rfl (Nat.le_of_ble_eq_true rfl) rfl ?_
              refine E_iload_n at_X5_element_0 rfl ?_
              refine E_callS (v := some (.int (nI 1))) (As := [.int (nI a1k)]) (r0 := []) (cs2 := (ww im lf s d k ls rf rz ra rn rq lt m1 m2 m3 m4 bd fc hd sz el s g fm hm so si sh ce ca td wa kp la bf oo bo pw ow tr)) at_X5_element_1 rfl rfl (Nat.le_of_ble_eq_true rfl) rfl (L39_X5_isShelf (by omega) (by omega) (by omega)) (by decide) rfl ?_
              refine E_if (t := 20) (b := false) at_X5_element_4 rfl (by decide) ?_
              refine E_aload_n at_X5_element_7 rfl ?_
              refine E_getfield (v := .ref 31) at_X5_element_8 w0 rfl (by decide) rfl ?_
              refine E_iload_n at_X5_element_11 rfl ?_
              refine E_aalN (b := 49 + 2 * a1k) at_X5_element_12 w31 (by omega) (w_shs (by omega)) ?_
              refine E_iload_n at_X5_element_13 rfl ?_
              have e2 : Ev ab_Z0 2 40 [.ref (49 + 2 * a1k), .int (nI a2k)] (ww im lf s d k ls rf rz ra rn rq lt m1 m2 m3 m4 bd fc hd sz el s g fm hm so si sh ce ca td wa kp la bf oo bo pw ow tr) (some (.long 0), (ww im lf s d k ls rf rz ra rn rq lt m1 m2 m3 m4 bd fc hd sz el s g fm hm so si sh ce ca td wa kp la bf oo bo pw ow tr)) := by
                refine Ef.in (md := mX3_whole) (L := [some (.ref (49 + 2 * a1k)), some (.int (nI a2k))]) rfl (Nat.le_of_ble_eq_true rfl) rfl ?_
                refine E_aload_n at_X3_whole_0 rfl ?_
                refine E_iload_n at_X3_whole_1 rfl ?_
                have e1 : Ev ab_Z0 1 35 [.ref (49 + 2 * a1k), .int (nI a2k)] (ww im lf s d k ls rf rz ra rn rq lt m1 m2 m3 m4 bd fc hd sz el s g fm hm so si sh ce ca td wa kp la bf oo bo pw ow tr) (some (.int (nI 0)), (ww im lf s d k ls rf rz ra rn rq lt m1 m2 m3 m4 bd fc hd sz el s g fm hm so si sh ce ca td wa kp la bf oo bo pw ow tr)) := by
                  refine Ef.in (md := mX3_hasElement) (L := [some (.ref (49 + 2 * a1k)), some (.int (nI a2k))]) rfl (Nat.le_of_ble_eq_true rfl) rfl ?_
                  refine E_iload_n at_X3_hasElement_0 rfl ?_
                  refine E_if (t := 16) (b := false) at_X3_hasElement_1 rfl ((cn_lt (nI_toInt (by omega)) (by decide : (0 : Int32).toInt = 0)).trans (decide_eq_false (by omega))) ?_
                  refine E_iload_n at_X3_hasElement_4 rfl ?_
                  refine E_aload_n at_X3_hasElement_5 rfl ?_
                  refine E_getfield (v := .int (nI (si.getD a1k 0))) at_X3_hasElement_6 (w_shv (j := a1k) (by omega) u1 u2) rfl (by decide) rfl ?_
                  refine E_ic (t := 16) (b := true) at_X3_hasElement_9 rfl ((cn_ge (nI_toInt (by omega)) (nI_toInt (by omega))).trans (decide_eq_true (by omega))) ?_
                  refine E_iconst (x := nI 0) at_X3_hasElement_16 (by decide) ?_
                  exact E_iret at_X3_hasElement_17 rfl
                refine E_callV (v := some (.int (nI 0))) (As := [.ref (49 + 2 * a1k), .int (nI a2k)]) (r0 := []) (cs2 := (ww im lf s d k ls rf rz ra rn rq lt m1 m2 m3 m4 bd fc hd sz el s g fm hm so si sh ce ca td wa kp la bf oo bo pw ow tr)) at_X3_whole_2 rfl rfl (Nat.le_of_ble_eq_true rfl) rfl (ab_rvOf (w_shv (j := a1k) (by omega) u1 u2) rfl) e1 (by decide) rfl ?_
                refine E_if (t := 17) (b := true) at_X3_whole_5 rfl (by decide) ?_
                refine E_lconst (x := 0) at_X3_whole_17 (by decide) ?_
                exact E_lret at_X3_whole_18 rfl
              refine E_callV (v := some (.long 0)) (As := [.ref (49 + 2 * a1k), .int (nI a2k)]) (r0 := []) (cs2 := (ww im lf s d k ls rf rz ra rn rq lt m1 m2 m3 m4 bd fc hd sz el s g fm hm so si sh ce ca td wa kp la bf oo bo pw ow tr)) at_X5_element_14 rfl rfl (Nat.le_of_ble_eq_true rfl) rfl (ab_rvOf (w_shv (j := a1k) (by omega) u1 u2) rfl) e2 (by decide) rfl ?_
              refine E_goto (t := 21) at_X5_element_17 rfl ?_
              exact E_lret at_X5_element_21 rfl
            · show Ev ab_Z0 2 138 [.ref 65, .int (nI a1k), .int (nI a2k)] (ww im lf s d k ls rf rz ra rn rq lt m1 m2 m3 m4 bd fc hd sz el s g fm hm so si sh ce ca td wa kp la bf oo bo pw ow tr) (some (.long 0), (ww im lf s d k ls rf rz ra rn rq lt m1 m2 m3 m4 bd fc hd sz el s g fm hm so si sh ce ca td wa kp la bf oo bo pw ow tr))
              refine Ef.in (md := mX6_element) (L := [some (.ref 65), some (.int (nI a1k)), some (.int (nI a2k))]) rfl (Nat.le_of_ble_eq_true rfl) rfl ?_
              refine E_aload_n at_X6_element_0 rfl ?_
              refine E_iload_n at_X6_element_1 rfl ?_
              refine E_callV (v := some (.int (nI 1))) (As := [.ref 65, .int (nI a1k)]) (r0 := []) (cs2 := (ww im lf s d k ls rf rz ra rn rq lt m1 m2 m3 m4 bd fc hd sz el s g fm hm so si sh ce ca td wa kp la bf oo bo pw ow tr)) at_X6_element_2 rfl rfl (Nat.le_of_ble_eq_true rfl) rfl (ab_rvOf w65 rfl) (L40_X6_isShelf (by omega) (by omega) (by omega)) (by decide) rfl ?_
              refine E_if (t := 47) (b := false) at_X6_element_5 rfl (by decide) ?_
              refine E_aload_n at_X6_element_8 rfl ?_
              refine E_getfield (v := .ref 76) at_X6_element_9 w65 rfl (by decide) rfl ?_
              refine E_iload_n at_X6_element_12 rfl ?_
              refine E_ialN (l := hm) (v := hm.getD a1k 0) at_X6_element_13 w76 (by omega) (by omega) rfl ?_
              refine E_iconst (x := nI 1) at_X6_element_14 (by decide) ?_
              refine E_ic (t := 47) (b := false) at_X6_element_15 rfl ((cn_ne (nI_toInt (by omega)) (nI_toInt (by omega))).trans (decide_eq_false (by omega))) ?_
              refine E_iload_n rfl rfl ?_
              refine E_if (t := 47) (b := false) rfl rfl ((cn_lt (nI_toInt (by omega)) (by decide : (0 : Int32).toInt = 0)).trans (decide_eq_false (by omega))) ?_
              refine E_iload_n rfl rfl ?_
              refine E_aload_n rfl rfl ?_
              refine E_getfield (v := .ref 78) rfl w65 rfl (by decide) rfl ?_
              refine E_iload_n rfl rfl ?_
              refine E_ialN (l := si) (v := si.getD a1k 0) rfl w78 (by omega) (by omega) rfl ?_
              refine E_ic (t := 47) (b := true) rfl rfl ((cn_ge (nI_toInt (by omega)) (nI_toInt (by omega))).trans (decide_eq_true (by omega))) ?_
              refine E_lconst (x := 0) at_X6_element_47 (by decide) ?_
              exact E_lret at_X6_element_48 rfl
            · exact ⟨I, rfl, hf, iQ, iM, iT, iS, l_el, (lr.1), (lr.2.1), (lr.2.2.1), (lr.2.2.2.1), (lr.2.2.2.2.1), (lr.2.2.2.2.2.1), (lr.2.2.2.2.2.2.1), (lr.2.2.2.2.2.2.2.1), (lr.2.2.2.2.2.2.2.2.1), (lr.2.2.2.2.2.2.2.2.2.1), (lr.2.2.2.2.2.2.2.2.2.2.1), (lr.2.2.2.2.2.2.2.2.2.2.2.1), (lr.2.2.2.2.2.2.2.2.2.2.2.2.1), (lr.2.2.2.2.2.2.2.2.2.2.2.2.2.1), (lr.2.2.2.2.2.2.2.2.2.2.2.2.2.2.1), (lr.2.2.2.2.2.2.2.2.2.2.2.2.2.2.2.1), (lr.2.2.2.2.2.2.2.2.2.2.2.2.2.2.2.2.1), (lr.2.2.2.2.2.2.2.2.2.2.2.2.2.2.2.2.2.1), (lr.2.2.2.2.2.2.2.2.2.2.2.2.2.2.2.2.2.2.1), (lr.2.2.2.2.2.2.2.2.2.2.2.2.2.2.2.2.2.2.2.1), (lr.2.2.2.2.2.2.2.2.2.2.2.2.2.2.2.2.2.2.2.2)⟩
        · refine ⟨0, (im, lf, s, d, k, ls, rf, rz, ra, rn, rq, lt, m1, m2, m3, m4, bd, fc, hd, sz, el, s, g, fm, hm, so, si, sh, ce, ca, td, wa, kp, la, bf, oo, bo, pw, ow, tr), (im, lf, s, d, k, ls, rf, rz, ra, rn, rq, lt, m1, m2, m3, m4, bd, fc, hd, sz, el, s, g, fm, hm, so, si, sh, ce, ca, td, wa, kp, la, bf, oo, bo, pw, ow, tr), ?_, ?_, ?_⟩
          · show Ev ab_Z0 3 79 [.ref 0, .int (nI a1k), .int a2] (ww im lf s d k ls rf rz ra rn rq lt m1 m2 m3 m4 bd fc hd sz el s g fm hm so si sh ce ca td wa kp la bf oo bo pw ow tr) (some (.long 0), (ww im lf s d k ls rf rz ra rn rq lt m1 m2 m3 m4 bd fc hd sz el s g fm hm so si sh ce ca td wa kp la bf oo bo pw ow tr))
            refine Ef.in (md := mX5_element) (L := [some (.ref 0), some (.int (nI a1k)), some (.int a2)]) rfl (Nat.le_of_ble_eq_true rfl) rfl ?_
            refine E_iload_n at_X5_element_0 rfl ?_
            refine E_callS (v := some (.int (nI 1))) (As := [.int (nI a1k)]) (r0 := []) (cs2 := (ww im lf s d k ls rf rz ra rn rq lt m1 m2 m3 m4 bd fc hd sz el s g fm hm so si sh ce ca td wa kp la bf oo bo pw ow tr)) at_X5_element_1 rfl rfl (Nat.le_of_ble_eq_true rfl) rfl (L39_X5_isShelf (by omega) (by omega) (by omega)) (by decide) rfl ?_
            refine E_if (t := 20) (b := false) at_X5_element_4 rfl (by decide) ?_
            refine E_aload_n at_X5_element_7 rfl ?_
            refine E_getfield (v := .ref 31) at_X5_element_8 w0 rfl (by decide) rfl ?_
            refine E_iload_n at_X5_element_11 rfl ?_
            refine E_aalN (b := 49 + 2 * a1k) at_X5_element_12 w31 (by omega) (w_shs (by omega)) ?_
            refine E_iload_n at_X5_element_13 rfl ?_
            have e2 : Ev ab_Z0 2 40 [.ref (49 + 2 * a1k), .int a2] (ww im lf s d k ls rf rz ra rn rq lt m1 m2 m3 m4 bd fc hd sz el s g fm hm so si sh ce ca td wa kp la bf oo bo pw ow tr) (some (.long 0), (ww im lf s d k ls rf rz ra rn rq lt m1 m2 m3 m4 bd fc hd sz el s g fm hm so si sh ce ca td wa kp la bf oo bo pw ow tr)) := by
              refine Ef.in (md := mX3_whole) (L := [some (.ref (49 + 2 * a1k)), some (.int a2)]) rfl (Nat.le_of_ble_eq_true rfl) rfl ?_
              refine E_aload_n at_X3_whole_0 rfl ?_
              refine E_iload_n at_X3_whole_1 rfl ?_
              have e1 : Ev ab_Z0 1 35 [.ref (49 + 2 * a1k), .int a2] (ww im lf s d k ls rf rz ra rn rq lt m1 m2 m3 m4 bd fc hd sz el s g fm hm so si sh ce ca td wa kp la bf oo bo pw ow tr) (some (.int (nI 0)), (ww im lf s d k ls rf rz ra rn rq lt m1 m2 m3 m4 bd fc hd sz el s g fm hm so si sh ce ca td wa kp la bf oo bo pw ow tr)) := by
                refine Ef.in (md := mX3_hasElement) (L := [some (.ref (49 + 2 * a1k)), some (.int a2)]) rfl (Nat.le_of_ble_eq_true rfl) rfl ?_
                refine E_iload_n at_X3_hasElement_0 rfl ?_
                refine E_if (t := 16) (b := true) at_X3_hasElement_1 rfl ((cn_lt rfl (by decide : (0 : Int32).toInt = 0)).trans (decide_eq_true (by omega))) ?_
                refine E_iconst (x := nI 0) at_X3_hasElement_16 (by decide) ?_
                exact E_iret at_X3_hasElement_17 rfl
              refine E_callV (v := some (.int (nI 0))) (As := [.ref (49 + 2 * a1k), .int a2]) (r0 := []) (cs2 := (ww im lf s d k ls rf rz ra rn rq lt m1 m2 m3 m4 bd fc hd sz el s g fm hm so si sh ce ca td wa kp la bf oo bo pw ow tr)) at_X3_whole_2 rfl rfl (Nat.le_of_ble_eq_true rfl) rfl (ab_rvOf (w_shv (j := a1k) (by omega) u1 u2) rfl) e1 (by decide) rfl ?_
              refine E_if (t := 17) (b := true) at_X3_whole_5 rfl (by decide) ?_
              refine E_lconst (x := 0) at_X3_whole_17 (by decide) ?_
              exact E_lret at_X3_whole_18 rfl
            refine E_callV (v := some (.long 0)) (As := [.ref (49 + 2 * a1k), .int a2]) (r0 := []) (cs2 := (ww im lf s d k ls rf rz ra rn rq lt m1 m2 m3 m4 bd fc hd sz el s g fm hm so si sh ce ca td wa kp la bf oo bo pw ow tr)) at_X5_element_14 rfl rfl (Nat.le_of_ble_eq_true rfl) rfl (ab_rvOf (w_shv (j := a1k) (by omega) u1 u2) rfl) e2 (by decide) rfl ?_
            refine E_goto (t := 21) at_X5_element_17 rfl ?_
            exact E_lret at_X5_element_21 rfl
          · show Ev ab_Z0 2 138 [.ref 65, .int (nI a1k), .int a2] (ww im lf s d k ls rf rz ra rn rq lt m1 m2 m3 m4 bd fc hd sz el s g fm hm so si sh ce ca td wa kp la bf oo bo pw ow tr) (some (.long 0), (ww im lf s d k ls rf rz ra rn rq lt m1 m2 m3 m4 bd fc hd sz el s g fm hm so si sh ce ca td wa kp la bf oo bo pw ow tr))
            refine Ef.in (md := mX6_element) (L := [some (.ref 65), some (.int (nI a1k)), some (.int a2)]) rfl (Nat.le_of_ble_eq_true rfl) rfl ?_
            refine E_aload_n at_X6_element_0 rfl ?_
            refine E_iload_n at_X6_element_1 rfl ?_
            refine E_callV (v := some (.int (nI 1))) (As := [.ref 65, .int (nI a1k)]) (r0 := []) (cs2 := (ww im lf s d k ls rf rz ra rn rq lt m1 m2 m3 m4 bd fc hd sz el s g fm hm so si sh ce ca td wa kp la bf oo bo pw ow tr)) at_X6_element_2 rfl rfl (Nat.le_of_ble_eq_true rfl) rfl (ab_rvOf w65 rfl) (L40_X6_isShelf (by omega) (by omega) (by omega)) (by decide) rfl ?_
            refine E_if (t := 47) (b := false) at_X6_element_5 rfl (by decide) ?_
            refine E_aload_n at_X6_element_8 rfl ?_
            refine E_getfield (v := .ref 76) at_X6_element_9 w65 rfl (by decide) rfl ?_
            refine E_iload_n at_X6_element_12 rfl ?_
            refine E_ialN (l := hm) (v := hm.getD a1k 0) at_X6_element_13 w76 (by omega) (by omega) rfl ?_
            refine E_iconst (x := nI 1) at_X6_element_14 (by decide) ?_
            refine E_ic (t := 47) (b := false) at_X6_element_15 rfl ((cn_ne (nI_toInt (by omega)) (nI_toInt (by omega))).trans (decide_eq_false (by omega))) ?_
            refine E_iload_n rfl rfl ?_
            refine E_if (t := 47) (b := true) rfl rfl ((cn_lt rfl (by decide : (0 : Int32).toInt = 0)).trans (decide_eq_true (by omega))) ?_
            refine E_lconst (x := 0) at_X6_element_47 (by decide) ?_
            exact E_lret at_X6_element_48 rfl
          · exact ⟨I, rfl, hf, iQ, iM, iT, iS, l_el, (lr.1), (lr.2.1), (lr.2.2.1), (lr.2.2.2.1), (lr.2.2.2.2.1), (lr.2.2.2.2.2.1), (lr.2.2.2.2.2.2.1), (lr.2.2.2.2.2.2.2.1), (lr.2.2.2.2.2.2.2.2.1), (lr.2.2.2.2.2.2.2.2.2.1), (lr.2.2.2.2.2.2.2.2.2.2.1), (lr.2.2.2.2.2.2.2.2.2.2.2.1), (lr.2.2.2.2.2.2.2.2.2.2.2.2.1), (lr.2.2.2.2.2.2.2.2.2.2.2.2.2.1), (lr.2.2.2.2.2.2.2.2.2.2.2.2.2.2.1), (lr.2.2.2.2.2.2.2.2.2.2.2.2.2.2.2.1), (lr.2.2.2.2.2.2.2.2.2.2.2.2.2.2.2.2.1), (lr.2.2.2.2.2.2.2.2.2.2.2.2.2.2.2.2.2.1), (lr.2.2.2.2.2.2.2.2.2.2.2.2.2.2.2.2.2.2.1), (lr.2.2.2.2.2.2.2.2.2.2.2.2.2.2.2.2.2.2.2.1), (lr.2.2.2.2.2.2.2.2.2.2.2.2.2.2.2.2.2.2.2.2)⟩
    · refine ⟨0, (im, lf, s, d, k, ls, rf, rz, ra, rn, rq, lt, m1, m2, m3, m4, bd, fc, hd, sz, el, s, g, fm, hm, so, si, sh, ce, ca, td, wa, kp, la, bf, oo, bo, pw, ow, tr), (im, lf, s, d, k, ls, rf, rz, ra, rn, rq, lt, m1, m2, m3, m4, bd, fc, hd, sz, el, s, g, fm, hm, so, si, sh, ce, ca, td, wa, kp, la, bf, oo, bo, pw, ow, tr), ?_, ?_, ?_⟩
      · show Ev ab_Z0 3 79 [.ref 0, .int (nI a1k), .int a2] (ww im lf s d k ls rf rz ra rn rq lt m1 m2 m3 m4 bd fc hd sz el s g fm hm so si sh ce ca td wa kp la bf oo bo pw ow tr) (some (.long 0), (ww im lf s d k ls rf rz ra rn rq lt m1 m2 m3 m4 bd fc hd sz el s g fm hm so si sh ce ca td wa kp la bf oo bo pw ow tr))
        refine Ef.in (md := mX5_element) (L := [some (.ref 0), some (.int (nI a1k)), some (.int a2)]) rfl (Nat.le_of_ble_eq_true rfl) rfl ?_
        refine E_iload_n at_X5_element_0 rfl ?_
        refine E_callS (v := some (.int (nI 0))) (As := [.int (nI a1k)]) (r0 := []) (cs2 := (ww im lf s d k ls rf rz ra rn rq lt m1 m2 m3 m4 bd fc hd sz el s g fm hm so si sh ce ca td wa kp la bf oo bo pw ow tr)) at_X5_element_1 rfl rfl (Nat.le_of_ble_eq_true rfl) rfl (L47_X5_isShelf (by omega) (by omega) (by omega)) (by decide) rfl ?_
        refine E_if (t := 20) (b := true) at_X5_element_4 rfl (by decide) ?_
        refine E_lconst (x := 0) rfl (by decide) ?_
        exact E_lret at_X5_element_21 rfl
      · show Ev ab_Z0 2 138 [.ref 65, .int (nI a1k), .int a2] (ww im lf s d k ls rf rz ra rn rq lt m1 m2 m3 m4 bd fc hd sz el s g fm hm so si sh ce ca td wa kp la bf oo bo pw ow tr) (some (.long 0), (ww im lf s d k ls rf rz ra rn rq lt m1 m2 m3 m4 bd fc hd sz el s g fm hm so si sh ce ca td wa kp la bf oo bo pw ow tr))
        refine Ef.in (md := mX6_element) (L := [some (.ref 65), some (.int (nI a1k)), some (.int a2)]) rfl (Nat.le_of_ble_eq_true rfl) rfl ?_
        refine E_aload_n at_X6_element_0 rfl ?_
        refine E_iload_n at_X6_element_1 rfl ?_
        refine E_callV (v := some (.int (nI 0))) (As := [.ref 65, .int (nI a1k)]) (r0 := []) (cs2 := (ww im lf s d k ls rf rz ra rn rq lt m1 m2 m3 m4 bd fc hd sz el s g fm hm so si sh ce ca td wa kp la bf oo bo pw ow tr)) at_X6_element_2 rfl rfl (Nat.le_of_ble_eq_true rfl) rfl (ab_rvOf w65 rfl) (L48_X6_isShelf (by omega) (by omega) (by omega)) (by decide) rfl ?_
        refine E_if (t := 47) (b := true) at_X6_element_5 rfl (by decide) ?_
        refine E_lconst (x := 0) at_X6_element_47 (by decide) ?_
        exact E_lret at_X6_element_48 rfl
      · exact ⟨I, rfl, hf, iQ, iM, iT, iS, l_el, (lr.1), (lr.2.1), (lr.2.2.1), (lr.2.2.2.1), (lr.2.2.2.2.1), (lr.2.2.2.2.2.1), (lr.2.2.2.2.2.2.1), (lr.2.2.2.2.2.2.2.1), (lr.2.2.2.2.2.2.2.2.1), (lr.2.2.2.2.2.2.2.2.2.1), (lr.2.2.2.2.2.2.2.2.2.2.1), (lr.2.2.2.2.2.2.2.2.2.2.2.1), (lr.2.2.2.2.2.2.2.2.2.2.2.2.1), (lr.2.2.2.2.2.2.2.2.2.2.2.2.2.1), (lr.2.2.2.2.2.2.2.2.2.2.2.2.2.2.1), (lr.2.2.2.2.2.2.2.2.2.2.2.2.2.2.2.1), (lr.2.2.2.2.2.2.2.2.2.2.2.2.2.2.2.2.1), (lr.2.2.2.2.2.2.2.2.2.2.2.2.2.2.2.2.2.1), (lr.2.2.2.2.2.2.2.2.2.2.2.2.2.2.2.2.2.2.1), (lr.2.2.2.2.2.2.2.2.2.2.2.2.2.2.2.2.2.2.2.1), (lr.2.2.2.2.2.2.2.2.2.2.2.2.2.2.2.2.2.2.2.2)⟩
  · refine ⟨0, (im, lf, s, d, k, ls, rf, rz, ra, rn, rq, lt, m1, m2, m3, m4, bd, fc, hd, sz, el, s, g, fm, hm, so, si, sh, ce, ca, td, wa, kp, la, bf, oo, bo, pw, ow, tr), (im, lf, s, d, k, ls, rf, rz, ra, rn, rq, lt, m1, m2, m3, m4, bd, fc, hd, sz, el, s, g, fm, hm, so, si, sh, ce, ca, td, wa, kp, la, bf, oo, bo, pw, ow, tr), ?_, ?_, ?_⟩
    · show Ev ab_Z0 3 79 [.ref 0, .int a1, .int a2] (ww im lf s d k ls rf rz ra rn rq lt m1 m2 m3 m4 bd fc hd sz el s g fm hm so si sh ce ca td wa kp la bf oo bo pw ow tr) (some (.long 0), (ww im lf s d k ls rf rz ra rn rq lt m1 m2 m3 m4 bd fc hd sz el s g fm hm so si sh ce ca td wa kp la bf oo bo pw ow tr))
      refine Ef.in (md := mX5_element) (L := [some (.ref 0), some (.int a1), some (.int a2)]) rfl (Nat.le_of_ble_eq_true rfl) rfl ?_
      refine E_iload_n at_X5_element_0 rfl ?_
      refine E_callS (v := some (.int (nI 0))) (As := [.int a1]) (r0 := []) (cs2 := (ww im lf s d k ls rf rz ra rn rq lt m1 m2 m3 m4 bd fc hd sz el s g fm hm so si sh ce ca td wa kp la bf oo bo pw ow tr)) at_X5_element_1 rfl rfl (Nat.le_of_ble_eq_true rfl) rfl (L49_X5_isShelf (by omega) (by omega)) (by decide) rfl ?_
      refine E_if (t := 20) (b := true) at_X5_element_4 rfl (by decide) ?_
      refine E_lconst (x := 0) rfl (by decide) ?_
      exact E_lret at_X5_element_21 rfl
    · show Ev ab_Z0 2 138 [.ref 65, .int a1, .int a2] (ww im lf s d k ls rf rz ra rn rq lt m1 m2 m3 m4 bd fc hd sz el s g fm hm so si sh ce ca td wa kp la bf oo bo pw ow tr) (some (.long 0), (ww im lf s d k ls rf rz ra rn rq lt m1 m2 m3 m4 bd fc hd sz el s g fm hm so si sh ce ca td wa kp la bf oo bo pw ow tr))
      refine Ef.in (md := mX6_element) (L := [some (.ref 65), some (.int a1), some (.int a2)]) rfl (Nat.le_of_ble_eq_true rfl) rfl ?_
      refine E_aload_n at_X6_element_0 rfl ?_
      refine E_iload_n at_X6_element_1 rfl ?_
      refine E_callV (v := some (.int (nI 0))) (As := [.ref 65, .int a1]) (r0 := []) (cs2 := (ww im lf s d k ls rf rz ra rn rq lt m1 m2 m3 m4 bd fc hd sz el s g fm hm so si sh ce ca td wa kp la bf oo bo pw ow tr)) at_X6_element_2 rfl rfl (Nat.le_of_ble_eq_true rfl) rfl (ab_rvOf w65 rfl) (L50_X6_isShelf (by omega) (by omega)) (by decide) rfl ?_
      refine E_if (t := 47) (b := true) at_X6_element_5 rfl (by decide) ?_
      refine E_lconst (x := 0) at_X6_element_47 (by decide) ?_
      exact E_lret at_X6_element_48 rfl
    · exact ⟨I, rfl, hf, iQ, iM, iT, iS, l_el, (lr.1), (lr.2.1), (lr.2.2.1), (lr.2.2.2.1), (lr.2.2.2.2.1), (lr.2.2.2.2.2.1), (lr.2.2.2.2.2.2.1), (lr.2.2.2.2.2.2.2.1), (lr.2.2.2.2.2.2.2.2.1), (lr.2.2.2.2.2.2.2.2.2.1), (lr.2.2.2.2.2.2.2.2.2.2.1), (lr.2.2.2.2.2.2.2.2.2.2.2.1), (lr.2.2.2.2.2.2.2.2.2.2.2.2.1), (lr.2.2.2.2.2.2.2.2.2.2.2.2.2.1), (lr.2.2.2.2.2.2.2.2.2.2.2.2.2.2.1), (lr.2.2.2.2.2.2.2.2.2.2.2.2.2.2.2.1), (lr.2.2.2.2.2.2.2.2.2.2.2.2.2.2.2.2.1), (lr.2.2.2.2.2.2.2.2.2.2.2.2.2.2.2.2.2.1), (lr.2.2.2.2.2.2.2.2.2.2.2.2.2.2.2.2.2.2.1), (lr.2.2.2.2.2.2.2.2.2.2.2.2.2.2.2.2.2.2.2.1), (lr.2.2.2.2.2.2.2.2.2.2.2.2.2.2.2.2.2.2.2.2)⟩
