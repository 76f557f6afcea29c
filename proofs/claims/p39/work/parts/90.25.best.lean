/-! best; by program (wip/tools/op.py) -/
set_option maxHeartbeats 4000000 in
theorem op_best (x : St) (hx : wI x) (a1 : Int32) (a2 : Int32) : ∃ (r : Int32) (x1 x2 : St), Ev ab_Z0 5 95 [.ref 0, .int a1, .int a2] (wt x) (some (.int r), wt x1) ∧ Ev ab_Z0 6 179 [.ref 65, .int a1, .int a2] (wt x1) (some (.int r), wt x2) ∧ wI x2 := by
  obtain ⟨im, lf, s, d, k, ls, rf, rz, ra, rn, rq, lt, m1, m2, m3, m4, bd, fc, hd, sz, el, t, g, fm, hm, so, si, sh, ce, ca, td, wa, kp, la, bf, oo, bo, pw, ow, tr⟩ := x
  obtain ⟨I, ts, hf, iQ, iM, iT, iS, l_el, lr⟩ := hx
  replace lr : Hd _ := lr
  have l_fc := lr.2.2.2.1
  have l_fm := lr.2.2.2.2.1
  subst ts
  obtain ⟨⟨i0, i1, i2, i3⟩, ⟨i4, i5, i6, i7, i8⟩, ⟨i9, i10⟩, I1, I2, I3, I4⟩ := id I
  rcases ab_int a1 with ⟨a1k, f0, rfl⟩ | f0
  · by_cases f1 : a1k < (qM s)
    · rcases ab_int a2 with ⟨a2k, f2, rfl⟩ | f2
      · by_cases f3 : a2k = 0
        · subst f3
          by_cases f4 : ((qU s).getD a1k 0) < (qPr s a1k ((qW s).getD a1k 0))
          · have := I2 a1k (by omega)
            have := qPr_in I a1k (w := ((qW s).getD a1k 0)) (by omega)
            refine ⟨(-1), (im, lf, s, d, k, ls, rf, rz, ra, rn, rq, lt, m1, m2, m3, m4, bd, fc, hd, sz, el, s, g, fm, hm, so, si, sh, ce, ca, td, wa, kp, la, bf, oo, bo, pw, ow, tr), (im, lf, s, d, k, ls, rf, rz, ra, rn, rq, lt, m1, m2, m3, m4, bd, fc, hd, sz, el, s, (fUp (fUp g 36 (-1)) 37 (-1)), fm, hm, so, si, sh, ce, ca, td, wa, kp, la, (lsF (bst s (qPs s 99 (qN s)) (qN s) (2 ^ qN s))), oo, bo, pw, ow, tr), ?_, ?_, ?_⟩
            · show Ev ab_Z0 5 95 [.ref 0, .int (nI a1k), .int (nI 0)] (ww im lf s d k ls rf rz ra rn rq lt m1 m2 m3 m4 bd fc hd sz el s g fm hm so si sh ce ca td wa kp la bf oo bo pw ow tr) (some (.int (-1)), (ww im lf s d k ls rf rz ra rn rq lt m1 m2 m3 m4 bd fc hd sz el s g fm hm so si sh ce ca td wa kp la bf oo bo pw ow tr))
              refine Ef.in (md := mX5_best) (L := [some (.ref 0), some (.int (nI a1k)), some (.int (nI 0)), none]) rfl (Nat.le_of_ble_eq_true rfl) rfl ?_
              refine E_aload_n at_X5_best_0 rfl ?_
              refine E_getfield (v := .ref 1) at_X5_best_1 w0 rfl (by decide) rfl ?_
              refine E_iload_n at_X5_best_4 rfl ?_
              refine E_callV (v := some (.int (nI 1))) (As := [.ref 1, .int (nI a1k)]) (r0 := []) (cs2 := (ww im lf s d k ls rf rz ra rn rq lt m1 m2 m3 m4 bd fc hd sz el s g fm hm so si sh ce ca td wa kp la bf oo bo pw ow tr)) at_X5_best_5 rfl rfl (Nat.le_of_ble_eq_true rfl) rfl (ab_rvOf w1 rfl) (L0_X4_isPerson (by omega) (by omega) (by omega) (by omega)) (by decide) rfl ?_
              refine E_if (t := 20) (b := true) at_X5_best_8 rfl (by decide) ?_
              refine E_iload_n at_X5_best_20 rfl ?_
              refine E_callS (v := some (.int (nI 1))) (As := [.int (nI 0)]) (r0 := []) (cs2 := (ww im lf s d k ls rf rz ra rn rq lt m1 m2 m3 m4 bd fc hd sz el s g fm hm so si sh ce ca td wa kp la bf oo bo pw ow tr)) at_X5_best_21 rfl rfl (Nat.le_of_ble_eq_true rfl) rfl (L96_X5_isOneOfTwo) (by decide) rfl ?_
              refine E_if (t := 36) (b := true) at_X5_best_24 rfl (by decide) ?_
              refine E_aload_n at_X5_best_36 rfl ?_
              refine E_getfield (v := .ref 1) at_X5_best_37 w0 rfl (by decide) rfl ?_
              refine E_iload_n at_X5_best_40 rfl ?_
              have e1 : Ev ab_Z0 4 68 [.ref 1, .int (nI a1k)] (ww im lf s d k ls rf rz ra rn rq lt m1 m2 m3 m4 bd fc hd sz el s g fm hm so si sh ce ca td wa kp la bf oo bo pw ow tr) (some (.int (-1)), (ww im lf s d k ls rf rz ra rn rq lt m1 m2 m3 m4 bd fc hd sz el s g fm hm so si sh ce ca td wa kp la bf oo bo pw ow tr)) := by
                refine Ef.in (md := mX4_bestThrow) (L := [some (.ref 1), some (.int (nI a1k)), none]) rfl (Nat.le_of_ble_eq_true rfl) rfl ?_
                refine E_aload_n at_X4_bestThrow_0 rfl ?_
                refine E_iload_n at_X4_bestThrow_1 rfl ?_
                refine E_aload_n at_X4_bestThrow_2 rfl ?_
                refine E_getfield (v := .ref 8) at_X4_bestThrow_3 w1 rfl (by decide) rfl ?_
                refine E_iload_n at_X4_bestThrow_6 rfl ?_
                refine E_ialN (l := qW s) (v := (qW s).getD a1k 0) at_X4_bestThrow_7 w8 (by omega) (by omega) rfl ?_
                refine E_callV (v := some (.int (nI (qPr s a1k ((qW s).getD a1k 0))))) (As := [.ref 1, .int (nI a1k), .int (nI ((qW s).getD a1k 0))]) (r0 := []) (cs2 := (ww im lf s d k ls rf rz ra rn rq lt m1 m2 m3 m4 bd fc hd sz el s g fm hm so si sh ce ca td wa kp la bf oo bo pw ow tr)) at_X4_bestThrow_8 rfl rfl (Nat.le_of_ble_eq_true rfl) rfl (ab_rvOf w1 rfl) (sq_priceFor w_q1 I (by omega) (by omega)) (by decide) rfl ?_
                refine E_istore_n (L2 := [some (.ref 1), some (.int (nI a1k)), some (.int (nI (qPr s a1k ((qW s).getD a1k 0))))]) at_X4_bestThrow_11 rfl ?_
                refine E_iload_n at_X4_bestThrow_12 rfl ?_
                refine E_aload_n at_X4_bestThrow_13 rfl ?_
                refine E_getfield (v := .ref 6) at_X4_bestThrow_14 w1 rfl (by decide) rfl ?_
                refine E_iload_n at_X4_bestThrow_17 rfl ?_
                refine E_ialN (l := qU s) (v := (qU s).getD a1k 0) at_X4_bestThrow_18 w6 (by omega) (by omega) rfl ?_
                refine E_ic (t := 26) (b := true) at_X4_bestThrow_19 rfl ((cn_gt (nI_toInt (by omega)) (nI_toInt (by omega))).trans (decide_eq_true (by omega))) ?_
                refine E_iconst (x := (-1)) rfl (by decide) ?_
                exact E_iret at_X4_bestThrow_27 rfl
              refine E_callV (v := some (.int (-1))) (As := [.ref 1, .int (nI a1k)]) (r0 := []) (cs2 := (ww im lf s d k ls rf rz ra rn rq lt m1 m2 m3 m4 bd fc hd sz el s g fm hm so si sh ce ca td wa kp la bf oo bo pw ow tr)) at_X5_best_41 rfl rfl (Nat.le_of_ble_eq_true rfl) rfl (ab_rvOf w1 rfl) e1 (by decide) rfl ?_
              refine E_istore_n (L2 := [some (.ref 0), some (.int (nI a1k)), some (.int (nI 0)), some (.int (-1))]) at_X5_best_44 rfl ?_
              refine E_iload_n at_X5_best_45 rfl ?_
              refine E_if (t := 54) (b := true) at_X5_best_46 rfl (by decide) ?_
              refine E_iload_n rfl rfl ?_
              refine E_goto (t := 59) rfl rfl ?_
              exact E_iret at_X5_best_59 rfl
            · show Ev ab_Z0 6 179 [.ref 65, .int (nI a1k), .int (nI 0)] (ww im lf s d k ls rf rz ra rn rq lt m1 m2 m3 m4 bd fc hd sz el s g fm hm so si sh ce ca td wa kp la bf oo bo pw ow tr) (some (.int (-1)), (ww im lf s d k ls rf rz ra rn rq lt m1 m2 m3 m4 bd fc hd sz el s (fUp (fUp g 36 (-1)) 37 (-1)) fm hm so si sh ce ca td wa kp la (lsF (bst s (qPs s 99 (qN s)) (qN s) (2 ^ qN s))) oo bo pw ow tr))
              refine Ef.in (md := mX6_best) (L := [some (.ref 65), some (.int (nI a1k)), some (.int (nI 0))]) rfl (Nat.le_of_ble_eq_true rfl) rfl ?_
              refine E_aload_n at_X6_best_0 rfl ?_
              refine E_iload_n at_X6_best_1 rfl ?_
              refine E_callV (v := some (.int (nI 1))) (As := [.ref 65, .int (nI a1k)]) (r0 := []) (cs2 := (ww im lf s d k ls rf rz ra rn rq lt m1 m2 m3 m4 bd fc hd sz el s g fm hm so si sh ce ca td wa kp la bf oo bo pw ow tr)) at_X6_best_2 rfl rfl (Nat.le_of_ble_eq_true rfl) rfl (ab_rvOf w65 rfl) (L2_X6_isOne (by omega) (by omega) (by omega) (by omega)) (by decide) rfl ?_
              refine E_if (t := 14) (b := true) at_X6_best_5 rfl (by decide) ?_
              refine E_iload_n at_X6_best_14 rfl ?_
              refine E_if (t := 23) (b := false) at_X6_best_15 rfl (by decide) ?_
              refine E_iload_n at_X6_best_18 rfl ?_
              refine E_iconst (x := nI 1) at_X6_best_19 (by decide) ?_
              refine E_ic (t := 30) (b := true) at_X6_best_20 rfl (by decide) ?_
              refine E_aload_n at_X6_best_30 rfl ?_
              refine E_iload_n at_X6_best_31 rfl ?_
              refine E_callV (v := none) (As := [.ref 65, .int (nI a1k)]) (r0 := []) (cs2 := (ww im lf s d k ls rf rz ra rn rq lt m1 m2 m3 m4 bd fc hd sz el s (fUp (fUp g 36 (-1)) 37 (-1)) fm hm so si sh ce ca td wa kp la (lsF (bst s (qPs s 99 (qN s)) (qN s) (2 ^ qN s))) oo bo pw ow tr)) at_X6_best_32 rfl rfl (Nat.le_of_ble_eq_true rfl) rfl (ab_rvOf w65 rfl) (Ev.to (w_throw I (by omega) (lr.2.2.2.2.2.2.2.2.2.2.2.2.2.2.2.1)) (by unfold thA thB; rw [if_neg (by omega), if_neg (by omega)])) (by decide) w_lens ?_
              refine E_iload_n at_X6_best_35 rfl ?_
              refine E_if (t := 46) (b := false) at_X6_best_36 rfl (by decide) ?_
              refine E_aload_n rfl rfl ?_
              refine E_getfield (v := .int (-1)) rfl w65 rfl (by decide) rfl ?_
              refine E_goto (t := 50) rfl rfl ?_
              exact E_iret at_X6_best_50 rfl
            · exact ⟨I, rfl, hf, iQ, iM, iT, iS, l_el, (lr.1), (lr.2.1), (lr.2.2.1), (lr.2.2.2.1), (lr.2.2.2.2.1), (lr.2.2.2.2.2.1), (lr.2.2.2.2.2.2.1), (lr.2.2.2.2.2.2.2.1), (lr.2.2.2.2.2.2.2.2.1), (lr.2.2.2.2.2.2.2.2.2.1), (lr.2.2.2.2.2.2.2.2.2.2.1), (lr.2.2.2.2.2.2.2.2.2.2.2.1), (lr.2.2.2.2.2.2.2.2.2.2.2.2.1), (lr.2.2.2.2.2.2.2.2.2.2.2.2.2.1), (lr.2.2.2.2.2.2.2.2.2.2.2.2.2.2.1), (lsF_len _), (lr.2.2.2.2.2.2.2.2.2.2.2.2.2.2.2.2.1), (lr.2.2.2.2.2.2.2.2.2.2.2.2.2.2.2.2.2.1), (lr.2.2.2.2.2.2.2.2.2.2.2.2.2.2.2.2.2.2.1), (lr.2.2.2.2.2.2.2.2.2.2.2.2.2.2.2.2.2.2.2.1), (lr.2.2.2.2.2.2.2.2.2.2.2.2.2.2.2.2.2.2.2.2)⟩
          · have := I2 a1k (by omega)
            have := qPr_in I a1k (w := ((qW s).getD a1k 0)) (by omega)
            refine ⟨(nI (qPr s a1k ((qW s).getD a1k 0))), (im, lf, s, d, k, ls, rf, rz, ra, rn, rq, lt, m1, m2, m3, m4, bd, fc, hd, sz, el, s, g, fm, hm, so, si, sh, ce, ca, td, wa, kp, la, bf, oo, bo, pw, ow, tr), (im, lf, s, d, k, ls, rf, rz, ra, rn, rq, lt, m1, m2, m3, m4, bd, fc, hd, sz, el, s, (fUp (fUp g 36 (nI (qPr s a1k ((qW s).getD a1k 0)))) 37 (nI 0)), fm, hm, so, si, sh, ce, ca, td, wa, kp, la, (lsF (bst s (qPs s 99 (qN s)) (qN s) (2 ^ qN s))), oo, bo, pw, ow, tr), ?_, ?_, ?_⟩
            · show Ev ab_Z0 5 95 [.ref 0, .int (nI a1k), .int (nI 0)] (ww im lf s d k ls rf rz ra rn rq lt m1 m2 m3 m4 bd fc hd sz el s g fm hm so si sh ce ca td wa kp la bf oo bo pw ow tr) (some (.int (nI (qPr s a1k ((qW s).getD a1k 0)))), (ww im lf s d k ls rf rz ra rn rq lt m1 m2 m3 m4 bd fc hd sz el s g fm hm so si sh ce ca td wa kp la bf oo bo pw ow tr))
              refine Ef.in (md := mX5_best) (L := [some (.ref 0), some (.int (nI a1k)), some (.int (nI 0)), none]) rfl (Nat.le_of_ble_eq_true rfl) rfl ?_
              refine E_aload_n at_X5_best_0 rfl ?_
              refine E_getfield (v := .ref 1) at_X5_best_1 w0 rfl (by decide) rfl ?_
              refine E_iload_n at_X5_best_4 rfl ?_
              refine E_callV (v := some (.int (nI 1))) (As := [.ref 1, .int (nI a1k)]) (r0 := []) (cs2 := (ww im lf s d k ls rf rz ra rn rq lt m1 m2 m3 m4 bd fc hd sz el s g fm hm so si sh ce ca td wa kp la bf oo bo pw ow tr)) at_X5_best_5 rfl rfl (Nat.le_of_ble_eq_true rfl) rfl (ab_rvOf w1 rfl) (L0_X4_isPerson (by omega) (by omega) (by omega) (by omega)) (by decide) rfl ?_
              refine E_if (t := 20) (b := true) at_X5_best_8 rfl (by decide) ?_
              refine E_iload_n at_X5_best_20 rfl ?_
              refine E_callS (v := some (.int (nI 1))) (As := [.int (nI 0)]) (r0 := []) (cs2 := (ww im lf s d k ls rf rz ra rn rq lt m1 m2 m3 m4 bd fc hd sz el s g fm hm so si sh ce ca td wa kp la bf oo bo pw ow tr)) at_X5_best_21 rfl rfl (Nat.le_of_ble_eq_true rfl) rfl (L96_X5_isOneOfTwo) (by decide) rfl ?_
              refine E_if (t := 36) (b := true) at_X5_best_24 rfl (by decide) ?_
              refine E_aload_n at_X5_best_36 rfl ?_
              refine E_getfield (v := .ref 1) at_X5_best_37 w0 rfl (by decide) rfl ?_
              refine E_iload_n at_X5_best_40 rfl ?_
              have e1 : Ev ab_Z0 4 68 [.ref 1, .int (nI a1k)] (ww im lf s d k ls rf rz ra rn rq lt m1 m2 m3 m4 bd fc hd sz el s g fm hm so si sh ce ca td wa kp la bf oo bo pw ow tr) (some (.int (nI (qPr s a1k ((qW s).getD a1k 0)))), (ww im lf s d k ls rf rz ra rn rq lt m1 m2 m3 m4 bd fc hd sz el s g fm hm so si sh ce ca td wa kp la bf oo bo pw ow tr)) := by
                refine Ef.in (md := mX4_bestThrow) (L := [some (.ref 1), some (.int (nI a1k)), none]) rfl (Nat.le_of_ble_eq_true rfl) rfl ?_
                refine E_aload_n at_X4_bestThrow_0 rfl ?_
                refine E_iload_n at_X4_bestThrow_1 rfl ?_
                refine E_aload_n at_X4_bestThrow_2 rfl ?_
                refine E_getfield (v := .ref 8) at_X4_bestThrow_3 w1 rfl (by decide) rfl ?_
                refine E_iload_n at_X4_bestThrow_6 rfl ?_
                refine E_ialN (l := qW s) (v := (qW s).getD a1k 0) at_X4_bestThrow_7 w8 (by omega) (by omega) rfl ?_
                refine E_callV (v := some (.int (nI (qPr s a1k ((qW s).getD a1k 0))))) (As := [.ref 1, .int (nI a1k), .int (nI ((qW s).getD a1k 0))]) (r0 := []) (cs2 := (ww im lf s d k ls rf rz ra rn rq lt m1 m2 m3 m4 bd fc hd sz el s g fm hm so si sh ce ca td wa kp la bf oo bo pw ow tr)) at_X4_bestThrow_8 rfl rfl (Nat.le_of_ble_eq_true rfl) rfl (ab_rvOf w1 rfl) (sq_priceFor w_q1 I (by omega) (by omega)) (by decide) rfl ?_
                refine E_istore_n (L2 := [some (.ref 1), some (.int (nI a1k)), some (.int (nI (qPr s a1k ((qW s).getD a1k 0))))]) at_X4_bestThrow_11 rfl ?_
                refine E_iload_n at_X4_bestThrow_12 rfl ?_
                refine E_aload_n at_X4_bestThrow_13 rfl ?_
                refine E_getfield (v := .ref 6) at_X4_bestThrow_14 w1 rfl (by decide) rfl ?_
                refine E_iload_n at_X4_bestThrow_17 rfl ?_
                refine E_ialN (l := qU s) (v := (qU s).getD a1k 0) at_X4_bestThrow_18 w6 (by omega) (by omega) rfl ?_
                refine E_ic (t := 26) (b := false) at_X4_bestThrow_19 rfl ((cn_gt (nI_toInt (by omega)) (nI_toInt (by omega))).trans (decide_eq_false (by omega))) ?_
                refine E_iload_n rfl rfl ?_
                refine E_goto (t := 27) rfl rfl ?_
                exact E_iret at_X4_bestThrow_27 rfl
              refine E_callV (v := some (.int (nI (qPr s a1k ((qW s).getD a1k 0))))) (As := [.ref 1, .int (nI a1k)]) (r0 := []) (cs2 := (ww im lf s d k ls rf rz ra rn rq lt m1 m2 m3 m4 bd fc hd sz el s g fm hm so si sh ce ca td wa kp la bf oo bo pw ow tr)) at_X5_best_41 rfl rfl (Nat.le_of_ble_eq_true rfl) rfl (ab_rvOf w1 rfl) e1 (by decide) rfl ?_
              refine E_istore_n (L2 := [some (.ref 0), some (.int (nI a1k)), some (.int (nI 0)), some (.int (nI (qPr s a1k ((qW s).getD a1k 0))))]) at_X5_best_44 rfl ?_
              refine E_iload_n at_X5_best_45 rfl ?_
              refine E_if (t := 54) (b := true) at_X5_best_46 rfl (by decide) ?_
              refine E_iload_n rfl rfl ?_
              refine E_goto (t := 59) rfl rfl ?_
              exact E_iret at_X5_best_59 rfl
            · show Ev ab_Z0 6 179 [.ref 65, .int (nI a1k), .int (nI 0)] (ww im lf s d k ls rf rz ra rn rq lt m1 m2 m3 m4 bd fc hd sz el s g fm hm so si sh ce ca td wa kp la bf oo bo pw ow tr) (some (.int (nI (qPr s a1k ((qW s).getD a1k 0)))), (ww im lf s d k ls rf rz ra rn rq lt m1 m2 m3 m4 bd fc hd sz el s (fUp (fUp g 36 (nI (qPr s a1k ((qW s).getD a1k 0)))) 37 (nI 0)) fm hm so si sh ce ca td wa kp la (lsF (bst s (qPs s 99 (qN s)) (qN s) (2 ^ qN s))) oo bo pw ow tr))
              refine Ef.in (md := mX6_best) (L := [some (.ref 65), some (.int (nI a1k)), some (.int (nI 0))]) rfl (Nat.le_of_ble_eq_true rfl) rfl ?_
              refine E_aload_n at_X6_best_0 rfl ?_
              refine E_iload_n at_X6_best_1 rfl ?_
              refine E_callV (v := some (.int (nI 1))) (As := [.ref 65, .int (nI a1k)]) (r0 := []) (cs2 := (ww im lf s d k ls rf rz ra rn rq lt m1 m2 m3 m4 bd fc hd sz el s g fm hm so si sh ce ca td wa kp la bf oo bo pw ow tr)) at_X6_best_2 rfl rfl (Nat.le_of_ble_eq_true rfl) rfl (ab_rvOf w65 rfl) (L2_X6_isOne (by omega) (by omega) (by omega) (by omega)) (by decide) rfl ?_
              refine E_if (t := 14) (b := true) at_X6_best_5 rfl (by decide) ?_
              refine E_iload_n at_X6_best_14 rfl ?_
              refine E_if (t := 23) (b := false) at_X6_best_15 rfl (by decide) ?_
              refine E_iload_n at_X6_best_18 rfl ?_
              refine E_iconst (x := nI 1) at_X6_best_19 (by decide) ?_
              refine E_ic (t := 30) (b := true) at_X6_best_20 rfl (by decide) ?_
              refine E_aload_n at_X6_best_30 rfl ?_
              refine E_iload_n at_X6_best_31 rfl ?_
              refine E_callV (v := none) (As := [.ref 65, .int (nI a1k)]) (r0 := []) (cs2 := (ww im lf s d k ls rf rz ra rn rq lt m1 m2 m3 m4 bd fc hd sz el s (fUp (fUp g 36 (nI (qPr s a1k ((qW s).getD a1k 0)))) 37 (nI 0)) fm hm so si sh ce ca td wa kp la (lsF (bst s (qPs s 99 (qN s)) (qN s) (2 ^ qN s))) oo bo pw ow tr)) at_X6_best_32 rfl rfl (Nat.le_of_ble_eq_true rfl) rfl (ab_rvOf w65 rfl) (Ev.to (w_throw I (by omega) (lr.2.2.2.2.2.2.2.2.2.2.2.2.2.2.2.1)) (by unfold thA thB; rw [if_pos (by omega), if_pos (by omega)])) (by decide) w_lens ?_
              refine E_iload_n at_X6_best_35 rfl ?_
              refine E_if (t := 46) (b := false) at_X6_best_36 rfl (by decide) ?_
              refine E_aload_n rfl rfl ?_
              refine E_getfield (v := .int (nI (qPr s a1k ((qW s).getD a1k 0)))) rfl w65 rfl (by decide) rfl ?_
              refine E_goto (t := 50) rfl rfl ?_
              exact E_iret at_X6_best_50 rfl
            · exact ⟨I, rfl, hf, iQ, iM, iT, iS, l_el, (lr.1), (lr.2.1), (lr.2.2.1), (lr.2.2.2.1), (lr.2.2.2.2.1), (lr.2.2.2.2.2.1), (lr.2.2.2.2.2.2.1), (lr.2.2.2.2.2.2.2.1), (lr.2.2.2.2.2.2.2.2.1), (lr.2.2.2.2.2.2.2.2.2.1), (lr.2.2.2.2.2.2.2.2.2.2.1), (lr.2.2.2.2.2.2.2.2.2.2.2.1), (lr.2.2.2.2.2.2.2.2.2.2.2.2.1), (lr.2.2.2.2.2.2.2.2.2.2.2.2.2.1), (lr.2.2.2.2.2.2.2.2.2.2.2.2.2.2.1), (lsF_len _), (lr.2.2.2.2.2.2.2.2.2.2.2.2.2.2.2.2.1), (lr.2.2.2.2.2.2.2.2.2.2.2.2.2.2.2.2.2.1), (lr.2.2.2.2.2.2.2.2.2.2.2.2.2.2.2.2.2.2.1), (lr.2.2.2.2.2.2.2.2.2.2.2.2.2.2.2.2.2.2.2.1), (lr.2.2.2.2.2.2.2.2.2.2.2.2.2.2.2.2.2.2.2.2)⟩
        · by_cases f4 : a2k = 1
          · subst f4
            by_cases f5 : ((qU s).getD a1k 0) < (qPr s a1k ((qW s).getD a1k 0))
            · have := I2 a1k (by omega)
              have := qPr_in I a1k (w := ((qW s).getD a1k 0)) (by omega)
              refine ⟨(-1), (im, lf, s, d, k, ls, rf, rz, ra, rn, rq, lt, m1, m2, m3, m4, bd, fc, hd, sz, el, s, g, fm, hm, so, si, sh, ce, ca, td, wa, kp, la, bf, oo, bo, pw, ow, tr), (im, lf, s, d, k, ls, rf, rz, ra, rn, rq, lt, m1, m2, m3, m4, bd, fc, hd, sz, el, s, (fUp (fUp g 36 (-1)) 37 (-1)), fm, hm, so, si, sh, ce, ca, td, wa, kp, la, (lsF (bst s (qPs s 99 (qN s)) (qN s) (2 ^ qN s))), oo, bo, pw, ow, tr), ?_, ?_, ?_⟩
              · show Ev ab_Z0 5 95 [.ref 0, .int (nI a1k), .int (nI 1)] (ww im lf s d k ls rf rz ra rn rq lt m1 m2 m3 m4 bd fc hd sz el s g fm hm so si sh ce ca td wa kp la bf oo bo pw ow tr) (some (.int (-1)), (ww im lf s d k ls rf rz ra rn rq lt m1 m2 m3 m4 bd fc hd sz el s g fm hm so si sh ce ca td wa kp la bf oo bo pw ow tr))
                refine Ef.in (md := mX5_best) (L := [some (.ref 0), some (.int (nI a1k)), some (.int (nI 1)), none]) rfl (Nat.le_of_ble_eq_true rfl) rfl ?_
                refine E_aload_n at_X5_best_0 rfl ?_
                refine E_getfield (v := .ref 1) at_X5_best_1 w0 rfl (by decide) rfl ?_
                refine E_iload_n at_X5_best_4 rfl ?_
                refine E_callV (v := some (.int (nI 1))) (As := [.ref 1, .int (nI a1k)]) (r0 := []) (cs2 := (ww im lf s d k ls rf rz ra rn rq lt m1 m2 m3 m4 bd fc hd sz el s g fm hm so si sh ce ca td wa kp la bf oo bo pw ow tr)) at_X5_best_5 rfl rfl (Nat.le_of_ble_eq_true rfl) rfl (ab_rvOf w1 rfl) (L0_X4_isPerson (by omega) (by omega) (by omega) (by omega)) (by decide) rfl ?_
                refine E_if (t := 20) (b := true) at_X5_best_8 rfl (by decide) ?_
                refine E_iload_n at_X5_best_20 rfl ?_
                refine E_callS (v := some (.int (nI 1))) (As := [.int (nI 1)]) (r0 := []) (cs2 := (ww im lf s d k ls rf rz ra rn rq lt m1 m2 m3 m4 bd fc hd sz el s g fm hm so si sh ce ca td wa kp la bf oo bo pw ow tr)) at_X5_best_21 rfl rfl (Nat.le_of_ble_eq_true rfl) rfl (L101_X5_isOneOfTwo) (by decide) rfl ?_
                refine E_if (t := 36) (b := true) at_X5_best_24 rfl (by decide) ?_
                refine E_aload_n at_X5_best_36 rfl ?_
                refine E_getfield (v := .ref 1) at_X5_best_37 w0 rfl (by decide) rfl ?_
                refine E_iload_n at_X5_best_40 rfl ?_
                have e1 : Ev ab_Z0 4 68 [.ref 1, .int (nI a1k)] (ww im lf s d k ls rf rz ra rn rq lt m1 m2 m3 m4 bd fc hd sz el s g fm hm so si sh ce ca td wa kp la bf oo bo pw ow tr) (some (.int (-1)), (ww im lf s d k ls rf rz ra rn rq lt m1 m2 m3 m4 bd fc hd sz el s g fm hm so si sh ce ca td wa kp la bf oo bo pw ow tr)) := by
                  refine Ef.in (md := mX4_bestThrow) (L := [some (.ref 1), some (.int (nI a1k)), none]) rfl (Nat.le_of_ble_eq_true rfl) rfl ?_
                  refine E_aload_n at_X4_bestThrow_0 rfl ?_
                  refine E_iload_n at_X4_bestThrow_1 rfl ?_
                  refine E_aload_n at_X4_bestThrow_2 rfl ?_
                  refine E_getfield (v := .ref 8) at_X4_bestThrow_3 w1 rfl (by decide) rfl ?_
                  refine E_iload_n at_X4_bestThrow_6 rfl ?_
                  refine E_ialN (l := qW s) (v := (qW s).getD a1k 0) at_X4_bestThrow_7 w8 (by omega) (by omega) rfl ?_
                  refine E_callV (v := some (.int (nI (qPr s a1k ((qW s).getD a1k 0))))) (As := [.ref 1, .int (nI a1k), .int (nI ((qW s).getD a1k 0))]) (r0 := []) (cs2 := (ww im lf s d k ls rf rz ra rn rq lt m1 m2 m3 m4 bd fc hd sz el s g fm hm so si sh ce ca td wa kp la bf oo bo pw ow tr)) at_X4_bestThrow_8 rfl rfl (Nat.le_of_ble_eq_true rfl) rfl (ab_rvOf w1 rfl) (sq_priceFor w_q1 I (by omega) (by omega)) (by decide) rfl ?_
                  refine E_istore_n (L2 := [some (.ref 1), some (.int (nI a1k)), some (.int (nI (qPr s a1k ((qW s).getD a1k 0))))]) at_X4_bestThrow_11 rfl ?_
                  refine E_iload_n at_X4_bestThrow_12 rfl ?_
                  refine E_aload_n at_X4_bestThrow_13 rfl ?_
                  refine E_getfield (v := .ref 6) at_X4_bestThrow_14 w1 rfl (by decide) rfl ?_
                  refine E_iload_n at_X4_bestThrow_17 rfl ?_
                  refine E_ialN (l := qU s) (v := (qU s).getD a1k 0) at_X4_bestThrow_18 w6 (by omega) (by omega) rfl ?_
                  refine E_ic (t := 26) (b := true) at_X4_bestThrow_19 rfl ((cn_gt (nI_toInt (by omega)) (nI_toInt (by omega))).trans (decide_eq_true (by omega))) ?_
                  refine E_iconst (x := (-1)) rfl (by decide) ?_
                  exact E_iret at_X4_bestThrow_27 rfl
                refine E_callV (v := some (.int (-1))) (As := [.ref 1, .int (nI a1k)]) (r0 := []) (cs2 := (ww im lf s d k ls rf rz ra rn rq lt m1 m2 m3 m4 bd fc hd sz el s g fm hm so si sh ce ca td wa kp la bf oo bo pw ow tr)) at_X5_best_41 rfl rfl (Nat.le_of_ble_eq_true rfl) rfl (ab_rvOf w1 rfl) e1 (by decide) rfl ?_
                refine E_istore_n (L2 := [some (.ref 0), some (.int (nI a1k)), some (.int (nI 1)), some (.int (-1))]) at_X5_best_44 rfl ?_
                refine E_iload_n at_X5_best_45 rfl ?_
                refine E_if (t := 54) (b := false) at_X5_best_46 rfl (by decide) ?_
                refine E_iload_n rfl rfl ?_
                refine E_iconst (x := (-1)) rfl (by decide) ?_
                refine E_ic (t := 58) (b := false) rfl rfl (by decide) ?_
                refine E_iload_n rfl rfl ?_
                refine E_goto (t := 59) rfl rfl ?_
                exact E_iret at_X5_best_59 rfl
              · show Ev ab_Z0 6 179 [.ref 65, .int (nI a1k), .int (nI 1)] (ww im lf s d k ls rf rz ra rn rq lt m1 m2 m3 m4 bd fc hd sz el s g fm hm so si sh ce ca td wa kp la bf oo bo pw ow tr) (some (.int (-1)), (ww im lf s d k ls rf rz ra rn rq lt m1 m2 m3 m4 bd fc hd sz el s (fUp (fUp g 36 (-1)) 37 (-1)) fm hm so si sh ce ca td wa kp la (lsF (bst s (qPs s 99 (qN s)) (qN s) (2 ^ qN s))) oo bo pw ow tr))
                refine Ef.in (md := mX6_best) (L := [some (.ref 65), some (.int (nI a1k)), some (.int (nI 1))]) rfl (Nat.le_of_ble_eq_true rfl) rfl ?_
                refine E_aload_n at_X6_best_0 rfl ?_
                refine E_iload_n at_X6_best_1 rfl ?_
                refine E_callV (v := some (.int (nI 1))) (As := [.ref 65, .int (nI a1k)]) (r0 := []) (cs2 := (ww im lf s d k ls rf rz ra rn rq lt m1 m2 m3 m4 bd fc hd sz el s g fm hm so si sh ce ca td wa kp la bf oo bo pw ow tr)) at_X6_best_2 rfl rfl (Nat.le_of_ble_eq_true rfl) rfl (ab_rvOf w65 rfl) (L2_X6_isOne (by omega) (by omega) (by omega) (by omega)) (by decide) rfl ?_
                refine E_if (t := 14) (b := true) at_X6_best_5 rfl (by decide) ?_
                refine E_iload_n at_X6_best_14 rfl ?_
                refine E_if (t := 23) (b := false) at_X6_best_15 rfl (by decide) ?_
                refine E_iload_n at_X6_best_18 rfl ?_
                refine E_iconst (x := nI 1) at_X6_best_19 (by decide) ?_
                refine E_ic (t := 30) (b := true) at_X6_best_20 rfl (by decide) ?_
                refine E_aload_n at_X6_best_30 rfl ?_
                refine E_iload_n at_X6_best_31 rfl ?_
                refine E_callV (v := none) (As := [.ref 65, .int (nI a1k)]) (r0 := []) (cs2 := (ww im lf s d k ls rf rz ra rn rq lt m1 m2 m3 m4 bd fc hd sz el s (fUp (fUp g 36 (-1)) 37 (-1)) fm hm so si sh ce ca td wa kp la (lsF (bst s (qPs s 99 (qN s)) (qN s) (2 ^ qN s))) oo bo pw ow tr)) at_X6_best_32 rfl rfl (Nat.le_of_ble_eq_true rfl) rfl (ab_rvOf w65 rfl) (Ev.to (w_throw I (by omega) (lr.2.2.2.2.2.2.2.2.2.2.2.2.2.2.2.1)) (by unfold thA thB; rw [if_neg (by omega), if_neg (by omega)])) (by decide) w_lens ?_
                refine E_iload_n at_X6_best_35 rfl ?_
                refine E_if (t := 46) (b := true) at_X6_best_36 rfl (by decide) ?_
                refine E_aload_n rfl rfl ?_
                refine E_getfield (v := .int (-1)) rfl w65 rfl (by decide) rfl ?_
                exact E_iret at_X6_best_50 rfl
              · exact ⟨I, rfl, hf, iQ, iM, iT, iS, l_el, (lr.1), (lr.2.1), (lr.2.2.1), (lr.2.2.2.1), (lr.2.2.2.2.1), (lr.2.2.2.2.2.1), (lr.2.2.2.2.2.2.1), (lr.2.2.2.2.2.2.2.1), (lr.2.2.2.2.2.2.2.2.1), (lr.2.2.2.2.2.2.2.2.2.1), (lr.2.2.2.2.2.2.2.2.2.2.1), (lr.2.2.2.2.2.2.2.2.2.2.2.1), (lr.2.2.2.2.2.2.2.2.2.2.2.2.1), (lr.2.2.2.2.2.2.2.2.2.2.2.2.2.1), (lr.2.2.2.2.2.2.2.2.2.2.2.2.2.2.1), (lsF_len _), (lr.2.2.2.2.2.2.2.2.2.2.2.2.2.2.2.2.1), (lr.2.2.2.2.2.2.2.2.2.2.2.2.2.2.2.2.2.1), (lr.2.2.2.2.2.2.2.2.2.2.2.2.2.2.2.2.2.2.1), (lr.2.2.2.2.2.2.2.2.2.2.2.2.2.2.2.2.2.2.2.1), (lr.2.2.2.2.2.2.2.2.2.2.2.2.2.2.2.2.2.2.2.2)⟩
            · have := I2 a1k (by omega)
              have := qPr_in I a1k (w := ((qW s).getD a1k 0)) (by omega)
              refine ⟨(nI 0), (im, lf, s, d, k, ls, rf, rz, ra, rn, rq, lt, m1, m2, m3, m4, bd, fc, hd, sz, el, s, g, fm, hm, so, si, sh, ce, ca, td, wa, kp, la, bf, oo, bo, pw, ow, tr), (im, lf, s, d, k, ls, rf, rz, ra, rn, rq, lt, m1, m2, m3, m4, bd, fc, hd, sz, el, s, (fUp (fUp g 36 (nI (qPr s a1k ((qW s).getD a1k 0)))) 37 (nI 0)), fm, hm, so, si, sh, ce, ca, td, wa, kp, la, (lsF (bst s (qPs s 99 (qN s)) (qN s) (2 ^ qN s))), oo, bo, pw, ow, tr), ?_, ?_, ?_⟩
              · show Ev ab_Z0 5 95 [.ref 0, .int (nI a1k), .int (nI 1)] (ww im lf s d k ls rf rz ra rn rq lt m1 m2 m3 m4 bd fc hd sz el s g fm hm so si sh ce ca td wa kp la bf oo bo pw ow tr) (some (.int (nI 0)), (ww im lf s d k ls rf rz ra rn rq lt m1 m2 m3 m4 bd fc hd sz el s g fm hm so si sh ce ca td wa kp la bf oo bo pw ow tr))
                refine Ef.in (md := mX5_best) (L := [some (.ref 0), some (.int (nI a1k)), some (.int (nI 1)), none]) rfl (Nat.le_of_ble_eq_true rfl) rfl ?_
                refine E_aload_n at_X5_best_0 rfl ?_
                refine E_getfield (v := .ref 1) at_X5_best_1 w0 rfl (by decide) rfl ?_
                refine E_iload_n at_X5_best_4 rfl ?_
                refine E_callV (v := some (.int (nI 1))) (As := [.ref 1, .int (nI a1k)]) (r0 := []) (cs2 := (ww im lf s d k ls rf rz ra rn rq lt m1 m2 m3 m4 bd fc hd sz el s g fm hm so si sh ce ca td wa kp la bf oo bo pw ow tr)) at_X5_best_5 rfl rfl (Nat.le_of_ble_eq_true rfl) rfl (ab_rvOf w1 rfl) (L0_X4_isPerson (by omega) (by omega) (by omega) (by omega)) (by decide) rfl ?_
                refine E_if (t := 20) (b := true) at_X5_best_8 rfl (by decide) ?_
                refine E_iload_n at_X5_best_20 rfl ?_
                refine E_callS (v := some (.int (nI 1))) (As := [.int (nI 1)]) (r0 := []) (cs2 := (ww im lf s d k ls rf rz ra rn rq lt m1 m2 m3 m4 bd fc hd sz el s g fm hm so si sh ce ca td wa kp la bf oo bo pw ow tr)) at_X5_best_21 rfl rfl (Nat.le_of_ble_eq_true rfl) rfl (L101_X5_isOneOfTwo) (by decide) rfl ?_
                refine E_if (t := 36) (b := true) at_X5_best_24 rfl (by decide) ?_
                refine E_aload_n at_X5_best_36 rfl ?_
                refine E_getfield (v := .ref 1) at_X5_best_37 w0 rfl (by decide) rfl ?_
                refine E_iload_n at_X5_best_40 rfl ?_
                have e1 : Ev ab_Z0 4 68 [.ref 1, .int (nI a1k)] (ww im lf s d k ls rf rz ra rn rq lt m1 m2 m3 m4 bd fc hd sz el s g fm hm so si sh ce ca td wa kp la bf oo bo pw ow tr) (some (.int (nI (qPr s a1k ((qW s).getD a1k 0)))), (ww im lf s d k ls rf rz ra rn rq lt m1 m2 m3 m4 bd fc hd sz el s g fm hm so si sh ce ca td wa kp la bf oo bo pw ow tr)) := by
                  refine Ef.in (md := mX4_bestThrow) (L := [some (.ref 1), some (.int (nI a1k)), none]) rfl (Nat.le_of_ble_eq_true rfl) rfl ?_
                  refine E_aload_n at_X4_bestThrow_0 rfl ?_
                  refine E_iload_n at_X4_bestThrow_1 rfl ?_
                  refine E_aload_n at_X4_bestThrow_2 rfl ?_
                  refine E_getfield (v := .ref 8) at_X4_bestThrow_3 w1 rfl (by decide) rfl ?_
                  refine E_iload_n at_X4_bestThrow_6 rfl ?_
                  refine E_ialN (l := qW s) (v := (qW s).getD a1k 0) at_X4_bestThrow_7 w8 (by omega) (by omega) rfl ?_
                  refine E_callV (v := some (.int (nI (qPr s a1k ((qW s).getD a1k 0))))) (As := [.ref 1, .int (nI a1k), .int (nI ((qW s).getD a1k 0))]) (r0 := []) (cs2 := (ww im lf s d k ls rf rz ra rn rq lt m1 m2 m3 m4 bd fc hd sz el s g fm hm so si sh ce ca td wa kp la bf oo bo pw ow tr)) at_X4_bestThrow_8 rfl rfl (Nat.le_of_ble_eq_true rfl) rfl (ab_rvOf w1 rfl) (sq_priceFor w_q1 I (by omega) (by omega)) (by decide) rfl ?_
                  refine E_istore_n (L2 := [some (.ref 1), some (.int (nI a1k)), some (.int (nI (qPr s a1k ((qW s).getD a1k 0))))]) at_X4_bestThrow_11 rfl ?_
                  refine E_iload_n at_X4_bestThrow_12 rfl ?_
                  refine E_aload_n at_X4_bestThrow_13 rfl ?_
                  refine E_getfield (v := .ref 6) at_X4_bestThrow_14 w1 rfl (by decide) rfl ?_
                  refine E_iload_n at_X4_bestThrow_17 rfl ?_
                  refine E_ialN (l := qU s) (v := (qU s).getD a1k 0) at_X4_bestThrow_18 w6 (by omega) (by omega) rfl ?_
                  refine E_ic (t := 26) (b := false) at_X4_bestThrow_19 rfl ((cn_gt (nI_toInt (by omega)) (nI_toInt (by omega))).trans (decide_eq_false (by omega))) ?_
                  refine E_iload_n rfl rfl ?_
                  refine E_goto (t := 27) rfl rfl ?_
                  exact E_iret at_X4_bestThrow_27 rfl
                refine E_callV (v := some (.int (nI (qPr s a1k ((qW s).getD a1k 0))))) (As := [.ref 1, .int (nI a1k)]) (r0 := []) (cs2 := (ww im lf s d k ls rf rz ra rn rq lt m1 m2 m3 m4 bd fc hd sz el s g fm hm so si sh ce ca td wa kp la bf oo bo pw ow tr)) at_X5_best_41 rfl rfl (Nat.le_of_ble_eq_true rfl) rfl (ab_rvOf w1 rfl) e1 (by decide) rfl ?_
                refine E_istore_n (L2 := [some (.ref 0), some (.int (nI a1k)), some (.int (nI 1)), some (.int (nI (qPr s a1k ((qW s).getD a1k 0))))]) at_X5_best_44 rfl ?_
                refine E_iload_n at_X5_best_45 rfl ?_
                refine E_if (t := 54) (b := false) at_X5_best_46 rfl (by decide) ?_
                refine E_iload_n rfl rfl ?_
                refine E_iconst (x := (-1)) rfl (by decide) ?_
                refine E_ic (t := 58) (b := true) rfl rfl ((cn_ne (nI_toInt (by omega)) (by decide : (-1 : Int32).toInt = -1)).trans (decide_eq_true (by omega))) ?_
                refine E_iconst (x := nI 0) rfl (by decide) ?_
                exact E_iret at_X5_best_59 rfl
              · show Ev ab_Z0 6 179 [.ref 65, .int (nI a1k), .int (nI 1)] (ww im lf s d k ls rf rz ra rn rq lt m1 m2 m3 m4 bd fc hd sz el s g fm hm so si sh ce ca td wa kp la bf oo bo pw ow tr) (some (.int (nI 0)), (ww im lf s d k ls rf rz ra rn rq lt m1 m2 m3 m4 bd fc hd sz el s (fUp (fUp g 36 (nI (qPr s a1k ((qW s).getD a1k 0)))) 37 (nI 0)) fm hm so si sh ce ca td wa kp la (lsF (bst s (qPs s 99 (qN s)) (qN s) (2 ^ qN s))) oo bo pw ow tr))
                refine Ef.in (md := mX6_best) (L := [some (.ref 65), some (.int (nI a1k)), some (.int (nI 1))]) rfl (Nat.le_of_ble_eq_true rfl) rfl ?_
                refine E_aload_n at_X6_best_0 rfl ?_
                refine E_iload_n at_X6_best_1 rfl ?_
                refine E_callV (v := some (.int (nI 1))) (As := [.ref 65, .int (nI a1k)]) (r0 := []) (cs2 := (ww im lf s d k ls rf rz ra rn rq lt m1 m2 m3 m4 bd fc hd sz el s g fm hm so si sh ce ca td wa kp la bf oo bo pw ow tr)) at_X6_best_2 rfl rfl (Nat.le_of_ble_eq_true rfl) rfl (ab_rvOf w65 rfl) (L2_X6_isOne (by omega) (by omega) (by omega) (by omega)) (by decide) rfl ?_
                refine E_if (t := 14) (b := true) at_X6_best_5 rfl (by decide) ?_
                refine E_iload_n at_X6_best_14 rfl ?_
                refine E_if (t := 23) (b := false) at_X6_best_15 rfl (by decide) ?_
                refine E_iload_n at_X6_best_18 rfl ?_
                refine E_iconst (x := nI 1) at_X6_best_19 (by decide) ?_
                refine E_ic (t := 30) (b := true) at_X6_best_20 rfl (by decide) ?_
                refine E_aload_n at_X6_best_30 rfl ?_
                refine E_iload_n at_X6_best_31 rfl ?_
                refine E_callV (v := none) (As := [.ref 65, .int (nI a1k)]) (r0 := []) (cs2 := (ww im lf s d k ls rf rz ra rn rq lt m1 m2 m3 m4 bd fc hd sz el s (fUp (fUp g 36 (nI (qPr s a1k ((qW s).getD a1k 0)))) 37 (nI 0)) fm hm so si sh ce ca td wa kp la (lsF (bst s (qPs s 99 (qN s)) (qN s) (2 ^ qN s))) oo bo pw ow tr)) at_X6_best_32 rfl rfl (Nat.le_of_ble_eq_true rfl) rfl (ab_rvOf w65 rfl) (Ev.to (w_throw I (by omega) (lr.2.2.2.2.2.2.2.2.2.2.2.2.2.2.2.1)) (by unfold thA thB; rw [if_pos (by omega), if_pos (by omega)])) (by decide) w_lens ?_
                refine E_iload_n at_X6_best_35 rfl ?_
                refine E_if (t := 46) (b := true) at_X6_best_36 rfl (by decide) ?_
                refine E_aload_n rfl rfl ?_
                refine E_getfield (v := .int (nI 0)) rfl w65 rfl (by decide) rfl ?_
                exact E_iret at_X6_best_50 rfl
              · exact ⟨I, rfl, hf, iQ, iM, iT, iS, l_el, (lr.1), (lr.2.1), (lr.2.2.1), (lr.2.2.2.1), (lr.2.2.2.2.1), (lr.2.2.2.2.2.1), (lr.2.2.2.2.2.2.1), (lr.2.2.2.2.2.2.2.1), (lr.2.2.2.2.2.2.2.2.1), (lr.2.2.2.2.2.2.2.2.2.1), (lr.2.2.2.2.2.2.2.2.2.2.1), (lr.2.2.2.2.2.2.2.2.2.2.2.1), (lr.2.2.2.2.2.2.2.2.2.2.2.2.1), (lr.2.2.2.2.2.2.2.2.2.2.2.2.2.1), (lr.2.2.2.2.2.2.2.2.2.2.2.2.2.2.1), (lsF_len _), (lr.2.2.2.2.2.2.2.2.2.2.2.2.2.2.2.2.1), (lr.2.2.2.2.2.2.2.2.2.2.2.2.2.2.2.2.2.1), (lr.2.2.2.2.2.2.2.2.2.2.2.2.2.2.2.2.2.2.1), (lr.2.2.2.2.2.2.2.2.2.2.2.2.2.2.2.2.2.2.2.1), (lr.2.2.2.2.2.2.2.2.2.2.2.2.2.2.2.2.2.2.2.2)⟩
          · refine ⟨(-15), (im, lf, s, d, k, ls, rf, rz, ra, rn, rq, lt, m1, m2, m3, m4, bd, (fc.set 5 ((fc.getD 5 0) + (nI 1))), hd, sz, el, s, g, fm, hm, so, si, sh, ce, ca, td, wa, kp, la, bf, oo, bo, pw, ow, tr), (im, lf, s, d, k, ls, rf, rz, ra, rn, rq, lt, m1, m2, m3, m4, bd, (fc.set 5 ((fc.getD 5 0) + (nI 1))), hd, sz, el, s, g, (fm.set 5 ((fm.getD 5 0) + (nI 1))), hm, so, si, sh, ce, ca, td, wa, kp, la, bf, oo, bo, pw, ow, tr), ?_, ?_, ?_⟩
            · show Ev ab_Z0 5 95 [.ref 0, .int (nI a1k), .int (nI a2k)] (ww im lf s d k ls rf rz ra rn rq lt m1 m2 m3 m4 bd fc hd sz el s g fm hm so si sh ce ca td wa kp la bf oo bo pw ow tr) (some (.int (-15)), (ww im lf s d k ls rf rz ra rn rq lt m1 m2 m3 m4 bd (fc.set 5 ((fc.getD 5 0) + (nI 1))) hd sz el s g fm hm so si sh ce ca td wa kp la bf oo bo pw ow tr))
              refine Ef.in (md := mX5_best) (L := [some (.ref 0), some (.int (nI a1k)), some (.int (nI a2k)), none]) rfl (Nat.le_of_ble_eq_true rfl) rfl ?_
              refine E_aload_n at_X5_best_0 rfl ?_
              refine E_getfield (v := .ref 1) at_X5_best_1 w0 rfl (by decide) rfl ?_
              refine E_iload_n at_X5_best_4 rfl ?_
              refine E_callV (v := some (.int (nI 1))) (As := [.ref 1, .int (nI a1k)]) (r0 := []) (cs2 := (ww im lf s d k ls rf rz ra rn rq lt m1 m2 m3 m4 bd fc hd sz el s g fm hm so si sh ce ca td wa kp la bf oo bo pw ow tr)) at_X5_best_5 rfl rfl (Nat.le_of_ble_eq_true rfl) rfl (ab_rvOf w1 rfl) (L0_X4_isPerson (by omega) (by omega) (by omega) (by omega)) (by decide) rfl ?_
              refine E_if (t := 20) (b := true) at_X5_best_8 rfl (by decide) ?_
              refine E_iload_n at_X5_best_20 rfl ?_
              refine E_callS (v := some (.int (nI 0))) (As := [.int (nI a2k)]) (r0 := []) (cs2 := (ww im lf s d k ls rf rz ra rn rq lt m1 m2 m3 m4 bd fc hd sz el s g fm hm so si sh ce ca td wa kp la bf oo bo pw ow tr)) at_X5_best_21 rfl rfl (Nat.le_of_ble_eq_true rfl) rfl (L102_X5_isOneOfTwo (by omega) (by omega) (by omega)) (by decide) rfl ?_
              refine E_if (t := 36) (b := false) at_X5_best_24 rfl (by decide) ?_
              refine E_aload_n rfl rfl ?_
              refine E_iconst (x := nI 5) rfl (by decide) ?_
              refine E_callV (v := some (.int (-5))) (As := [.ref 0, .int (nI 5)]) (r0 := []) (cs2 := (ww im lf s d k ls rf rz ra rn rq lt m1 m2 m3 m4 bd (fc.set 5 ((fc.getD 5 0) + (nI 1))) hd sz el s g fm hm so si sh ce ca td wa kp la bf oo bo pw ow tr)) rfl rfl rfl (Nat.le_of_ble_eq_true rfl) rfl (ab_rvOf w0 rfl) (L18_X5_refuse (by omega)) (by decide) w_lens ?_
              refine E_bipush (x := nI 10) rfl (by decide) ?_
              refine E_isub (z := (-15)) rfl (by decide) ?_
              exact E_iret rfl rfl
            · show Ev ab_Z0 6 179 [.ref 65, .int (nI a1k), .int (nI a2k)] (ww im lf s d k ls rf rz ra rn rq lt m1 m2 m3 m4 bd (fc.set 5 ((fc.getD 5 0) + (nI 1))) hd sz el s g fm hm so si sh ce ca td wa kp la bf oo bo pw ow tr) (some (.int (-15)), (ww im lf s d k ls rf rz ra rn rq lt m1 m2 m3 m4 bd (fc.set 5 ((fc.getD 5 0) + (nI 1))) hd sz el s g (fm.set 5 ((fm.getD 5 0) + (nI 1))) hm so si sh ce ca td wa kp la bf oo bo pw ow tr))
              refine Ef.in (md := mX6_best) (L := [some (.ref 65), some (.int (nI a1k)), some (.int (nI a2k))]) rfl (Nat.le_of_ble_eq_true rfl) rfl ?_
              refine E_aload_n at_X6_best_0 rfl ?_
              refine E_iload_n at_X6_best_1 rfl ?_
              refine E_callV (v := some (.int (nI 1))) (As := [.ref 65, .int (nI a1k)]) (r0 := []) (cs2 := (ww im lf s d k ls rf rz ra rn rq lt m1 m2 m3 m4 bd (fc.set 5 ((fc.getD 5 0) + (nI 1))) hd sz el s g fm hm so si sh ce ca td wa kp la bf oo bo pw ow tr)) at_X6_best_2 rfl rfl (Nat.le_of_ble_eq_true rfl) rfl (ab_rvOf w65 rfl) (L2_X6_isOne (by omega) (by omega) (by omega) (by omega)) (by decide) rfl ?_
              refine E_if (t := 14) (b := true) at_X6_best_5 rfl (by decide) ?_
              refine E_iload_n at_X6_best_14 rfl ?_
              refine E_if (t := 23) (b := false) at_X6_best_15 rfl ((cn_lt (nI_toInt (by omega)) (by decide : (0 : Int32).toInt = 0)).trans (decide_eq_false (by omega))) ?_
              refine E_iload_n at_X6_best_18 rfl ?_
              refine E_iconst (x := nI 1) at_X6_best_19 (by decide) ?_
              refine E_ic (t := 30) (b := false) at_X6_best_20 rfl ((cn_le (nI_toInt (by omega)) (nI_toInt (by omega))).trans (decide_eq_false (by omega))) ?_
              refine E_aload_n rfl rfl ?_
              refine E_bipush (x := (-5)) rfl (by decide) ?_
              refine E_callV (v := some (.int (-15))) (As := [.ref 65, .int (-5)]) (r0 := []) (cs2 := (ww im lf s d k ls rf rz ra rn rq lt m1 m2 m3 m4 bd (fc.set 5 ((fc.getD 5 0) + (nI 1))) hd sz el s g (fm.set 5 ((fm.getD 5 0) + (nI 1))) hm so si sh ce ca td wa kp la bf oo bo pw ow tr)) rfl rfl rfl (Nat.le_of_ble_eq_true rfl) rfl (ab_rvOf w65 rfl) (L103_X6_noTen (by omega)) (by decide) w_lens ?_
              exact E_iret rfl rfl
            · exact ⟨I, rfl, hf, iQ, iM, iT, iS, l_el, (lr.1), (lr.2.1), (lr.2.2.1), (by simp only [List.length_set]; exact (lr.2.2.2.1)), (by simp only [List.length_set]; exact (lr.2.2.2.2.1)), (lr.2.2.2.2.2.1), (lr.2.2.2.2.2.2.1), (lr.2.2.2.2.2.2.2.1), (lr.2.2.2.2.2.2.2.2.1), (lr.2.2.2.2.2.2.2.2.2.1), (lr.2.2.2.2.2.2.2.2.2.2.1), (lr.2.2.2.2.2.2.2.2.2.2.2.1), (lr.2.2.2.2.2.2.2.2.2.2.2.2.1), (lr.2.2.2.2.2.2.2.2.2.2.2.2.2.1), (lr.2.2.2.2.2.2.2.2.2.2.2.2.2.2.1), (lr.2.2.2.2.2.2.2.2.2.2.2.2.2.2.2.1), (lr.2.2.2.2.2.2.2.2.2.2.2.2.2.2.2.2.1), (lr.2.2.2.2.2.2.2.2.2.2.2.2.2.2.2.2.2.1), (lr.2.2.2.2.2.2.2.2.2.2.2.2.2.2.2.2.2.2.1), (lr.2.2.2.2.2.2.2.2.2.2.2.2.2.2.2.2.2.2.2.1), (lr.2.2.2.2.2.2.2.2.2.2.2.2.2.2.2.2.2.2.2.2)⟩
      · refine ⟨(-15), (im, lf, s, d, k, ls, rf, rz, ra, rn, rq, lt, m1, m2, m3, m4, bd, (fc.set 5 ((fc.getD 5 0) + (nI 1))), hd, sz, el, s, g, fm, hm, so, si, sh, ce, ca, td, wa, kp, la, bf, oo, bo, pw, ow, tr), (im, lf, s, d, k, ls, rf, rz, ra, rn, rq, lt, m1, m2, m3, m4, bd, (fc.set 5 ((fc.getD 5 0) + (nI 1))), hd, sz, el, s, g, (fm.set 5 ((fm.getD 5 0) + (nI 1))), hm, so, si, sh, ce, ca, td, wa, kp, la, bf, oo, bo, pw, ow, tr), ?_, ?_, ?_⟩
        · show Ev ab_Z0 5 95 [.ref 0, .int (nI a1k), .int a2] (ww im lf s d k ls rf rz ra rn rq lt m1 m2 m3 m4 bd fc hd sz el s g fm hm so si sh ce ca td wa kp la bf oo bo pw ow tr) (some (.int (-15)), (ww im lf s d k ls rf rz ra rn rq lt m1 m2 m3 m4 bd (fc.set 5 ((fc.getD 5 0) + (nI 1))) hd sz el s g fm hm so si sh ce ca td wa kp la bf oo bo pw ow tr))
          refine Ef.in (md := mX5_best) (L := [some (.ref 0), some (.int (nI a1k)), some (.int a2), none]) rfl (Nat.le_of_ble_eq_true rfl) rfl ?_
          refine E_aload_n at_X5_best_0 rfl ?_
          refine E_getfield (v := .ref 1) at_X5_best_1 w0 rfl (by decide) rfl ?_
          refine E_iload_n at_X5_best_4 rfl ?_
          refine E_callV (v := some (.int (nI 1))) (As := [.ref 1, .int (nI a1k)]) (r0 := []) (cs2 := (ww im lf s d k ls rf rz ra rn rq lt m1 m2 m3 m4 bd fc hd sz el s g fm hm so si sh ce ca td wa kp la bf oo bo pw ow tr)) at_X5_best_5 rfl rfl (Nat.le_of_ble_eq_true rfl) rfl (ab_rvOf w1 rfl) (L0_X4_isPerson (by omega) (by omega) (by omega) (by omega)) (by decide) rfl ?_
          refine E_if (t := 20) (b := true) at_X5_best_8 rfl (by decide) ?_
          refine E_iload_n at_X5_best_20 rfl ?_
          refine E_callS (v := some (.int (nI 0))) (As := [.int a2]) (r0 := []) (cs2 := (ww im lf s d k ls rf rz ra rn rq lt m1 m2 m3 m4 bd fc hd sz el s g fm hm so si sh ce ca td wa kp la bf oo bo pw ow tr)) at_X5_best_21 rfl rfl (Nat.le_of_ble_eq_true rfl) rfl (L104_X5_isOneOfTwo (by omega) (by omega) (by omega)) (by decide) rfl ?_
          refine E_if (t := 36) (b := false) at_X5_best_24 rfl (by decide) ?_
          refine E_aload_n rfl rfl ?_
          refine E_iconst (x := nI 5) rfl (by decide) ?_
          refine E_callV (v := some (.int (-5))) (As := [.ref 0, .int (nI 5)]) (r0 := []) (cs2 := (ww im lf s d k ls rf rz ra rn rq lt m1 m2 m3 m4 bd (fc.set 5 ((fc.getD 5 0) + (nI 1))) hd sz el s g fm hm so si sh ce ca td wa kp la bf oo bo pw ow tr)) rfl rfl rfl (Nat.le_of_ble_eq_true rfl) rfl (ab_rvOf w0 rfl) (L18_X5_refuse (by omega)) (by decide) w_lens ?_
          refine E_bipush (x := nI 10) rfl (by decide) ?_
          refine E_isub (z := (-15)) rfl (by decide) ?_
          exact E_iret rfl rfl
        · show Ev ab_Z0 6 179 [.ref 65, .int (nI a1k), .int a2] (ww im lf s d k ls rf rz ra rn rq lt m1 m2 m3 m4 bd (fc.set 5 ((fc.getD 5 0) + (nI 1))) hd sz el s g fm hm so si sh ce ca td wa kp la bf oo bo pw ow tr) (some (.int (-15)), (ww im lf s d k ls rf rz ra rn rq lt m1 m2 m3 m4 bd (fc.set 5 ((fc.getD 5 0) + (nI 1))) hd sz el s g (fm.set 5 ((fm.getD 5 0) + (nI 1))) hm so si sh ce ca td wa kp la bf oo bo pw ow tr))
          refine Ef.in (md := mX6_best) (L := [some (.ref 65), some (.int (nI a1k)), some (.int a2)]) rfl (Nat.le_of_ble_eq_true rfl) rfl ?_
          refine E_aload_n at_X6_best_0 rfl ?_
          refine E_iload_n at_X6_best_1 rfl ?_
          refine E_callV (v := some (.int (nI 1))) (As := [.ref 65, .int (nI a1k)]) (r0 := []) (cs2 := (ww im lf s d k ls rf rz ra rn rq lt m1 m2 m3 m4 bd (fc.set 5 ((fc.getD 5 0) + (nI 1))) hd sz el s g fm hm so si sh ce ca td wa kp la bf oo bo pw ow tr)) at_X6_best_2 rfl rfl (Nat.le_of_ble_eq_true rfl) rfl (ab_rvOf w65 rfl) (L2_X6_isOne (by omega) (by omega) (by omega) (by omega)) (by decide) rfl ?_
          refine E_if (t := 14) (b := true) at_X6_best_5 rfl (by decide) ?_
          refine E_iload_n at_X6_best_14 rfl ?_
          refine E_if (t := 23) (b := true) at_X6_best_15 rfl ((cn_lt rfl (by decide : (0 : Int32).toInt = 0)).trans (decide_eq_true (by omega))) ?_
          refine E_aload_n rfl rfl ?_
          refine E_bipush (x := (-5)) rfl (by decide) ?_
          refine E_callV (v := some (.int (-15))) (As := [.ref 65, .int (-5)]) (r0 := []) (cs2 := (ww im lf s d k ls rf rz ra rn rq lt m1 m2 m3 m4 bd (fc.set 5 ((fc.getD 5 0) + (nI 1))) hd sz el s g (fm.set 5 ((fm.getD 5 0) + (nI 1))) hm so si sh ce ca td wa kp la bf oo bo pw ow tr)) rfl rfl rfl (Nat.le_of_ble_eq_true rfl) rfl (ab_rvOf w65 rfl) (L103_X6_noTen (by omega)) (by decide) w_lens ?_
          exact E_iret rfl rfl
        · exact ⟨I, rfl, hf, iQ, iM, iT, iS, l_el, (lr.1), (lr.2.1), (lr.2.2.1), (by simp only [List.length_set]; exact (lr.2.2.2.1)), (by simp only [List.length_set]; exact (lr.2.2.2.2.1)), (lr.2.2.2.2.2.1), (lr.2.2.2.2.2.2.1), (lr.2.2.2.2.2.2.2.1), (lr.2.2.2.2.2.2.2.2.1), (lr.2.2.2.2.2.2.2.2.2.1), (lr.2.2.2.2.2.2.2.2.2.2.1), (lr.2.2.2.2.2.2.2.2.2.2.2.1), (lr.2.2.2.2.2.2.2.2.2.2.2.2.1), (lr.2.2.2.2.2.2.2.2.2.2.2.2.2.1), (lr.2.2.2.2.2.2.2.2.2.2.2.2.2.2.1), (lr.2.2.2.2.2.2.2.2.2.2.2.2.2.2.2.1), (lr.2.2.2.2.2.2.2.2.2.2.2.2.2.2.2.2.1), (lr.2.2.2.2.2.2.2.2.2.2.2.2.2.2.2.2.2.1), (lr.2.2.2.2.2.2.2.2.2.2.2.2.2.2.2.2.2.2.1), (lr.2.2.2.2.2.2.2.2.2.2.2.2.2.2.2.2.2.2.2.1), (lr.2.2.2.2.2.2.2.2.2.2.2.2.2.2.2.2.2.2.2.2)⟩
    · refine ⟨(-11), (im, lf, s, d, k, ls, rf, rz, ra, rn, rq, lt, m1, m2, m3, m4, bd, (fc.set 1 ((fc.getD 1 0) + (nI 1))), hd, sz, el, s, g, fm, hm, so, si, sh, ce, ca, td, wa, kp, la, bf, oo, bo, pw, ow, tr), (im, lf, s, d, k, ls, rf, rz, ra, rn, rq, lt, m1, m2, m3, m4, bd, (fc.set 1 ((fc.getD 1 0) + (nI 1))), hd, sz, el, s, g, (fm.set 1 ((fm.getD 1 0) + (nI 1))), hm, so, si, sh, ce, ca, td, wa, kp, la, bf, oo, bo, pw, ow, tr), ?_, ?_, ?_⟩
      · show Ev ab_Z0 5 95 [.ref 0, .int (nI a1k), .int a2] (ww im lf s d k ls rf rz ra rn rq lt m1 m2 m3 m4 bd fc hd sz el s g fm hm so si sh ce ca td wa kp la bf oo bo pw ow tr) (some (.int (-11)), (ww im lf s d k ls rf rz ra rn rq lt m1 m2 m3 m4 bd (fc.set 1 ((fc.getD 1 0) + (nI 1))) hd sz el s g fm hm so si sh ce ca td wa kp la bf oo bo pw ow tr))
        refine Ef.in (md := mX5_best) (L := [some (.ref 0), some (.int (nI a1k)), some (.int a2), none]) rfl (Nat.le_of_ble_eq_true rfl) rfl ?_
        refine E_aload_n at_X5_best_0 rfl ?_
        refine E_getfield (v := .ref 1) at_X5_best_1 w0 rfl (by decide) rfl ?_
        refine E_iload_n at_X5_best_4 rfl ?_
        refine E_callV (v := some (.int (nI 0))) (As := [.ref 1, .int (nI a1k)]) (r0 := []) (cs2 := (ww im lf s d k ls rf rz ra rn rq lt m1 m2 m3 m4 bd fc hd sz el s g fm hm so si sh ce ca td wa kp la bf oo bo pw ow tr)) at_X5_best_5 rfl rfl (Nat.le_of_ble_eq_true rfl) rfl (ab_rvOf w1 rfl) (L11_X4_isPerson (by omega) (by omega) (by omega) (by omega)) (by decide) rfl ?_
        refine E_if (t := 20) (b := false) at_X5_best_8 rfl (by decide) ?_
        refine E_aload_n rfl rfl ?_
        refine E_iconst (x := nI 1) rfl (by decide) ?_
        refine E_callV (v := some (.int (-1))) (As := [.ref 0, .int (nI 1)]) (r0 := []) (cs2 := (ww im lf s d k ls rf rz ra rn rq lt m1 m2 m3 m4 bd (fc.set 1 ((fc.getD 1 0) + (nI 1))) hd sz el s g fm hm so si sh ce ca td wa kp la bf oo bo pw ow tr)) rfl rfl rfl (Nat.le_of_ble_eq_true rfl) rfl (ab_rvOf w0 rfl) (L6_X5_refuse (by omega)) (by decide) w_lens ?_
        refine E_bipush (x := nI 10) rfl (by decide) ?_
        refine E_isub (z := (-11)) rfl (by decide) ?_
        exact E_iret rfl rfl
      · show Ev ab_Z0 6 179 [.ref 65, .int (nI a1k), .int a2] (ww im lf s d k ls rf rz ra rn rq lt m1 m2 m3 m4 bd (fc.set 1 ((fc.getD 1 0) + (nI 1))) hd sz el s g fm hm so si sh ce ca td wa kp la bf oo bo pw ow tr) (some (.int (-11)), (ww im lf s d k ls rf rz ra rn rq lt m1 m2 m3 m4 bd (fc.set 1 ((fc.getD 1 0) + (nI 1))) hd sz el s g (fm.set 1 ((fm.getD 1 0) + (nI 1))) hm so si sh ce ca td wa kp la bf oo bo pw ow tr))
        refine Ef.in (md := mX6_best) (L := [some (.ref 65), some (.int (nI a1k)), some (.int a2)]) rfl (Nat.le_of_ble_eq_true rfl) rfl ?_
        refine E_aload_n at_X6_best_0 rfl ?_
        refine E_iload_n at_X6_best_1 rfl ?_
        refine E_callV (v := some (.int (nI 0))) (As := [.ref 65, .int (nI a1k)]) (r0 := []) (cs2 := (ww im lf s d k ls rf rz ra rn rq lt m1 m2 m3 m4 bd (fc.set 1 ((fc.getD 1 0) + (nI 1))) hd sz el s g fm hm so si sh ce ca td wa kp la bf oo bo pw ow tr)) at_X6_best_2 rfl rfl (Nat.le_of_ble_eq_true rfl) rfl (ab_rvOf w65 rfl) (L12_X6_isOne (by omega) (by omega) (by omega) (by omega)) (by decide) rfl ?_
        refine E_if (t := 14) (b := false) at_X6_best_5 rfl (by decide) ?_
        refine E_aload_n rfl rfl ?_
        refine E_iconst (x := (-1)) rfl (by decide) ?_
        refine E_callV (v := some (.int (-11))) (As := [.ref 65, .int (-1)]) (r0 := []) (cs2 := (ww im lf s d k ls rf rz ra rn rq lt m1 m2 m3 m4 bd (fc.set 1 ((fc.getD 1 0) + (nI 1))) hd sz el s g (fm.set 1 ((fm.getD 1 0) + (nI 1))) hm so si sh ce ca td wa kp la bf oo bo pw ow tr)) rfl rfl rfl (Nat.le_of_ble_eq_true rfl) rfl (ab_rvOf w65 rfl) (L105_X6_noTen (by omega)) (by decide) w_lens ?_
        exact E_iret rfl rfl
      · exact ⟨I, rfl, hf, iQ, iM, iT, iS, l_el, (lr.1), (lr.2.1), (lr.2.2.1), (by simp only [List.length_set]; exact (lr.2.2.2.1)), (by simp only [List.length_set]; exact (lr.2.2.2.2.1)), (lr.2.2.2.2.2.1), (lr.2.2.2.2.2.2.1), (lr.2.2.2.2.2.2.2.1), (lr.2.2.2.2.2.2.2.2.1), (lr.2.2.2.2.2.2.2.2.2.1), (lr.2.2.2.2.2.2.2.2.2.2.1), (lr.2.2.2.2.2.2.2.2.2.2.2.1), (lr.2.2.2.2.2.2.2.2.2.2.2.2.1), (lr.2.2.2.2.2.2.2.2.2.2.2.2.2.1), (lr.2.2.2.2.2.2.2.2.2.2.2.2.2.2.1), (lr.2.2.2.2.2.2.2.2.2.2.2.2.2.2.2.1), (lr.2.2.2.2.2.2.2.2.2.2.2.2.2.2.2.2.1), (lr.2.2.2.2.2.2.2.2.2.2.2.2.2.2.2.2.2.1), (lr.2.2.2.2.2.2.2.2.2.2.2.2.2.2.2.2.2.2.1), (lr.2.2.2.2.2.2.2.2.2.2.2.2.2.2.2.2.2.2.2.1), (lr.2.2.2.2.2.2.2.2.2.2.2.2.2.2.2.2.2.2.2.2)⟩
  · refine ⟨(-11), (im, lf, s, d, k, ls, rf, rz, ra, rn, rq, lt, m1, m2, m3, m4, bd, (fc.set 1 ((fc.getD 1 0) + (nI 1))), hd, sz, el, s, g, fm, hm, so, si, sh, ce, ca, td, wa, kp, la, bf, oo, bo, pw, ow, tr), (im, lf, s, d, k, ls, rf, rz, ra, rn, rq, lt, m1, m2, m3, m4, bd, (fc.set 1 ((fc.getD 1 0) + (nI 1))), hd, sz, el, s, g, (fm.set 1 ((fm.getD 1 0) + (nI 1))), hm, so, si, sh, ce, ca, td, wa, kp, la, bf, oo, bo, pw, ow, tr), ?_, ?_, ?_⟩
    · show Ev ab_Z0 5 95 [.ref 0, .int a1, .int a2] (ww im lf s d k ls rf rz ra rn rq lt m1 m2 m3 m4 bd fc hd sz el s g fm hm so si sh ce ca td wa kp la bf oo bo pw ow tr) (some (.int (-11)), (ww im lf s d k ls rf rz ra rn rq lt m1 m2 m3 m4 bd (fc.set 1 ((fc.getD 1 0) + (nI 1))) hd sz el s g fm hm so si sh ce ca td wa kp la bf oo bo pw ow tr))
      refine Ef.in (md := mX5_best) (L := [some (.ref 0), some (.int a1), some (.int a2), none]) rfl (Nat.le_of_ble_eq_true rfl) rfl ?_
      refine E_aload_n at_X5_best_0 rfl ?_
      refine E_getfield (v := .ref 1) at_X5_best_1 w0 rfl (by decide) rfl ?_
      refine E_iload_n at_X5_best_4 rfl ?_
      refine E_callV (v := some (.int (nI 0))) (As := [.ref 1, .int a1]) (r0 := []) (cs2 := (ww im lf s d k ls rf rz ra rn rq lt m1 m2 m3 m4 bd fc hd sz el s g fm hm so si sh ce ca td wa kp la bf oo bo pw ow tr)) at_X5_best_5 rfl rfl (Nat.le_of_ble_eq_true rfl) rfl (ab_rvOf w1 rfl) (L13_X4_isPerson (by omega) (by omega)) (by decide) rfl ?_
      refine E_if (t := 20) (b := false) at_X5_best_8 rfl (by decide) ?_
      refine E_aload_n rfl rfl ?_
      refine E_iconst (x := nI 1) rfl (by decide) ?_
      refine E_callV (v := some (.int (-1))) (As := [.ref 0, .int (nI 1)]) (r0 := []) (cs2 := (ww im lf s d k ls rf rz ra rn rq lt m1 m2 m3 m4 bd (fc.set 1 ((fc.getD 1 0) + (nI 1))) hd sz el s g fm hm so si sh ce ca td wa kp la bf oo bo pw ow tr)) rfl rfl rfl (Nat.le_of_ble_eq_true rfl) rfl (ab_rvOf w0 rfl) (L6_X5_refuse (by omega)) (by decide) w_lens ?_
      refine E_bipush (x := nI 10) rfl (by decide) ?_
      refine E_isub (z := (-11)) rfl (by decide) ?_
      exact E_iret rfl rfl
    · show Ev ab_Z0 6 179 [.ref 65, .int a1, .int a2] (ww im lf s d k ls rf rz ra rn rq lt m1 m2 m3 m4 bd (fc.set 1 ((fc.getD 1 0) + (nI 1))) hd sz el s g fm hm so si sh ce ca td wa kp la bf oo bo pw ow tr) (some (.int (-11)), (ww im lf s d k ls rf rz ra rn rq lt m1 m2 m3 m4 bd (fc.set 1 ((fc.getD 1 0) + (nI 1))) hd sz el s g (fm.set 1 ((fm.getD 1 0) + (nI 1))) hm so si sh ce ca td wa kp la bf oo bo pw ow tr))
      refine Ef.in (md := mX6_best) (L := [some (.ref 65), some (.int a1), some (.int a2)]) rfl (Nat.le_of_ble_eq_true rfl) rfl ?_
      refine E_aload_n at_X6_best_0 rfl ?_
      refine E_iload_n at_X6_best_1 rfl ?_
      refine E_callV (v := some (.int (nI 0))) (As := [.ref 65, .int a1]) (r0 := []) (cs2 := (ww im lf s d k ls rf rz ra rn rq lt m1 m2 m3 m4 bd (fc.set 1 ((fc.getD 1 0) + (nI 1))) hd sz el s g fm hm so si sh ce ca td wa kp la bf oo bo pw ow tr)) at_X6_best_2 rfl rfl (Nat.le_of_ble_eq_true rfl) rfl (ab_rvOf w65 rfl) (L14_X6_isOne (by omega) (by omega)) (by decide) rfl ?_
      refine E_if (t := 14) (b := false) at_X6_best_5 rfl (by decide) ?_
      refine E_aload_n rfl rfl ?_
      refine E_iconst (x := (-1)) rfl (by decide) ?_
      refine E_callV (v := some (.int (-11))) (As := [.ref 65, .int (-1)]) (r0 := []) (cs2 := (ww im lf s d k ls rf rz ra rn rq lt m1 m2 m3 m4 bd (fc.set 1 ((fc.getD 1 0) + (nI 1))) hd sz el s g (fm.set 1 ((fm.getD 1 0) + (nI 1))) hm so si sh ce ca td wa kp la bf oo bo pw ow tr)) rfl rfl rfl (Nat.le_of_ble_eq_true rfl) rfl (ab_rvOf w65 rfl) (L105_X6_noTen (by omega)) (by decide) w_lens ?_
      exact E_iret rfl rfl
    · exact ⟨I, rfl, hf, iQ, iM, iT, iS, l_el, (lr.1), (lr.2.1), (lr.2.2.1), (by simp only [List.length_set]; exact (lr.2.2.2.1)), (by simp only [List.length_set]; exact (lr.2.2.2.2.1)), (lr.2.2.2.2.2.1), (lr.2.2.2.2.2.2.1), (lr.2.2.2.2.2.2.2.1), (lr.2.2.2.2.2.2.2.2.1), (lr.2.2.2.2.2.2.2.2.2.1), (lr.2.2.2.2.2.2.2.2.2.2.1), (lr.2.2.2.2.2.2.2.2.2.2.2.1), (lr.2.2.2.2.2.2.2.2.2.2.2.2.1), (lr.2.2.2.2.2.2.2.2.2.2.2.2.2.1), (lr.2.2.2.2.2.2.2.2.2.2.2.2.2.2.1), (lr.2.2.2.2.2.2.2.2.2.2.2.2.2.2.2.1), (lr.2.2.2.2.2.2.2.2.2.2.2.2.2.2.2.2.1), (lr.2.2.2.2.2.2.2.2.2.2.2.2.2.2.2.2.2.1), (lr.2.2.2.2.2.2.2.2.2.2.2.2.2.2.2.2.2.2.1), (lr.2.2.2.2.2.2.2.2.2.2.2.2.2.2.2.2.2.2.2.1), (lr.2.2.2.2.2.2.2.2.2.2.2.2.2.2.2.2.2.2.2.2)⟩
