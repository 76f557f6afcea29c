/-! trace; by program (wip/tools/op.py) -/
set_option maxHeartbeats 4000000 in
theorem op_trace (x : St) (hx : wI x) (a1 : Int32) : ∃ (r : Int32) (x1 x2 : St), Ev ab_Z0 2 111 [.ref 0, .int a1] (wt x) (some (.int r), wt x1) ∧ Ev ab_Z0 1 209 [.ref 65, .int a1] (wt x1) (some (.int r), wt x2) ∧ wI x2 := by
  obtain ⟨im, lf, s, d, k, ls, rf, rz, ra, rn, rq, lt, m1, m2, m3, m4, bd, fc, hd, sz, el, t, g, fm, hm, so, si, sh, ce, ca, td, wa, kp, la, bf, oo, bo, pw, ow, tr⟩ := x
  obtain ⟨I, ts, hf, iQ, iM, iT, iS, l_el, lr⟩ := hx
  replace lr : Hd _ := lr
  have l_bd := lr.2.2.1
  have l_fc := lr.2.2.2.1
  have l_fm := lr.2.2.2.2.1
  have l_tr := lr.2.2.2.2.2.2.2.2.2.2.2.2.2.2.2.2.2.2.2.2
  subst ts
  obtain ⟨⟨i0, i1, i2, i3⟩, ⟨i4, i5, i6, i7, i8⟩, ⟨i9, i10⟩, I1, I2, I3, I4⟩ := id I
  rcases ab_int a1 with ⟨a1k, f0, rfl⟩ | f0
  · by_cases f1 : (a1k : Int) < m1.toInt
    · by_cases f2 : a1k < 20
      · obtain ⟨n0, hn0, hm1, hg47, hbt⟩ := iT
        have z1 : m1.toInt = n0 := by rw [hm1]; exact nI_toInt (by omega)
        have z2 : (g 47).toInt = n0 := by rw [hg47]; exact nI_toInt (by omega)
        refine ⟨(bd.getD a1k 0), (im, lf, s, d, k, ls, rf, rz, ra, rn, rq, lt, m1, m2, m3, m4, bd, fc, hd, sz, el, s, g, fm, hm, so, si, sh, ce, ca, td, wa, kp, la, bf, oo, bo, pw, ow, tr), (im, lf, s, d, k, ls, rf, rz, ra, rn, rq, lt, m1, m2, m3, m4, bd, fc, hd, sz, el, s, g, fm, hm, so, si, sh, ce, ca, td, wa, kp, la, bf, oo, bo, pw, ow, tr), ?_, ?_, ?_⟩
        · show Ev ab_Z0 2 111 [.ref 0, .int (nI a1k)] (ww im lf s d k ls rf rz ra rn rq lt m1 m2 m3 m4 bd fc hd sz el s g fm hm so si sh ce ca td wa kp la bf oo bo pw ow tr) (some (.int (bd.getD a1k 0)), (ww im lf s d k ls rf rz ra rn rq lt m1 m2 m3 m4 bd fc hd sz el s g fm hm so si sh ce ca td wa kp la bf oo bo pw ow tr))
          refine Ef.in (md := mX5_trace) (L := [some (.ref 0), some (.int (nI a1k))]) rfl (Nat.le_of_ble_eq_true rfl) rfl ?_
          refine E_aload_n at_X5_trace_0 rfl ?_
          refine E_getfield (v := .ref 46) at_X5_trace_1 w0 rfl (by decide) rfl ?_
          refine E_iload_n at_X5_trace_4 rfl ?_
          have e1 : Ev ab_Z0 1 7 [.ref 46, .int (nI a1k)] (ww im lf s d k ls rf rz ra rn rq lt m1 m2 m3 m4 bd fc hd sz el s g fm hm so si sh ce ca td wa kp la bf oo bo pw ow tr) (some (.int (bd.getD a1k 0)), (ww im lf s d k ls rf rz ra rn rq lt m1 m2 m3 m4 bd fc hd sz el s g fm hm so si sh ce ca td wa kp la bf oo bo pw ow tr)) := by
            refine Ef.in (md := mX1_bodyAt) (L := [some (.ref 46), some (.int (nI a1k))]) rfl (Nat.le_of_ble_eq_true rfl) rfl ?_
            refine E_iload_n at_X1_bodyAt_0 rfl ?_
            refine E_if (t := 27) (b := false) at_X1_bodyAt_1 rfl ((cn_lt (nI_toInt (by omega)) (by decide : (0 : Int32).toInt = 0)).trans (decide_eq_false (by omega))) ?_
            refine E_iload_n at_X1_bodyAt_4 rfl ?_
            refine E_aload_n at_X1_bodyAt_5 rfl ?_
            refine E_getfield (v := .int m1) at_X1_bodyAt_6 w46 rfl (by decide) rfl ?_
            refine E_ic (t := 27) (b := false) at_X1_bodyAt_9 rfl ((cn_ge (nI_toInt (by omega)) rfl).trans (decide_eq_false (by omega))) ?_
            refine E_iload_n rfl rfl ?_
            refine E_bipush (x := nI 20) rfl (by decide) ?_
            refine E_ic (t := 27) (b := false) rfl rfl ((cn_ge (nI_toInt (by omega)) (nI_toInt (by omega))).trans (decide_eq_false (by omega))) ?_
            refine E_aload_n rfl rfl ?_
            refine E_getfield (v := .ref 47) rfl w46 rfl (by decide) rfl ?_
            refine E_iload_n rfl rfl ?_
            refine E_ialI (l := bd) (v := bd.getD a1k 0) rfl w47 (by omega) (by omega) rfl ?_
            refine E_goto (t := 28) rfl rfl ?_
            exact E_iret at_X1_bodyAt_28 rfl
          refine E_callV (v := some (.int (bd.getD a1k 0))) (As := [.ref 46, .int (nI a1k)]) (r0 := []) (cs2 := (ww im lf s d k ls rf rz ra rn rq lt m1 m2 m3 m4 bd fc hd sz el s g fm hm so si sh ce ca td wa kp la bf oo bo pw ow tr)) at_X5_trace_5 rfl rfl (Nat.le_of_ble_eq_true rfl) rfl (ab_rvOf w46 rfl) e1 (by decide) rfl ?_
          exact E_iret at_X5_trace_8 rfl
        · show Ev ab_Z0 1 209 [.ref 65, .int (nI a1k)] (ww im lf s d k ls rf rz ra rn rq lt m1 m2 m3 m4 bd fc hd sz el s g fm hm so si sh ce ca td wa kp la bf oo bo pw ow tr) (some (.int (bd.getD a1k 0)), (ww im lf s d k ls rf rz ra rn rq lt m1 m2 m3 m4 bd fc hd sz el s g fm hm so si sh ce ca td wa kp la bf oo bo pw ow tr))
          rw [hbt _ (by omega) (by omega)]
          refine Ef.in (md := mX6_trace) (L := [some (.ref 65), some (.int (nI a1k))]) rfl (Nat.le_of_ble_eq_true rfl) rfl ?_
          refine E_iload_n at_X6_trace_0 rfl ?_
          refine E_if (t := 27) (b := false) at_X6_trace_1 rfl ((cn_lt (nI_toInt (by omega)) (by decide : (0 : Int32).toInt = 0)).trans (decide_eq_false (by omega))) ?_
          refine E_iload_n at_X6_trace_4 rfl ?_
          refine E_bipush (x := nI 20) at_X6_trace_5 (by decide) ?_
          refine E_ic (t := 27) (b := false) at_X6_trace_7 rfl ((cn_ge (nI_toInt (by omega)) (nI_toInt (by omega))).trans (decide_eq_false (by omega))) ?_
          refine E_iload_n rfl rfl ?_
          refine E_aload_n rfl rfl ?_
          refine E_getfield (v := .int (g 47)) rfl w65 rfl (by decide) rfl ?_
          refine E_ic (t := 27) (b := false) rfl rfl ((cn_ge (nI_toInt (by omega)) rfl).trans (decide_eq_false (by omega))) ?_
          refine E_aload_n rfl rfl ?_
          refine E_getfield (v := .ref 94) rfl w65 rfl (by decide) rfl ?_
          refine E_iload_n rfl rfl ?_
          refine E_ialI (l := tr) (v := tr.getD a1k 0) rfl w94 (by omega) (by omega) rfl ?_
          refine E_goto (t := 28) rfl rfl ?_
          exact E_iret at_X6_trace_28 rfl
        · exact ⟨I, rfl, hf, iQ, iM, ⟨n0, hn0, hm1, hg47, hbt⟩, iS, l_el, (lr.1), (lr.2.1), (lr.2.2.1), (lr.2.2.2.1), (lr.2.2.2.2.1), (lr.2.2.2.2.2.1), (lr.2.2.2.2.2.2.1), (lr.2.2.2.2.2.2.2.1), (lr.2.2.2.2.2.2.2.2.1), (lr.2.2.2.2.2.2.2.2.2.1), (lr.2.2.2.2.2.2.2.2.2.2.1), (lr.2.2.2.2.2.2.2.2.2.2.2.1), (lr.2.2.2.2.2.2.2.2.2.2.2.2.1), (lr.2.2.2.2.2.2.2.2.2.2.2.2.2.1), (lr.2.2.2.2.2.2.2.2.2.2.2.2.2.2.1), (lr.2.2.2.2.2.2.2.2.2.2.2.2.2.2.2.1), (lr.2.2.2.2.2.2.2.2.2.2.2.2.2.2.2.2.1), (lr.2.2.2.2.2.2.2.2.2.2.2.2.2.2.2.2.2.1), (lr.2.2.2.2.2.2.2.2.2.2.2.2.2.2.2.2.2.2.1), (lr.2.2.2.2.2.2.2.2.2.2.2.2.2.2.2.2.2.2.2.1), (lr.2.2.2.2.2.2.2.2.2.2.2.2.2.2.2.2.2.2.2.2)⟩
      · obtain ⟨n0, hn0, hm1, hg47, hbt⟩ := iT
        have z1 : m1.toInt = n0 := by rw [hm1]; exact nI_toInt (by omega)
        have z2 : (g 47).toInt = n0 := by rw [hg47]; exact nI_toInt (by omega)
        refine ⟨(-1), (im, lf, s, d, k, ls, rf, rz, ra, rn, rq, lt, m1, m2, m3, m4, bd, fc, hd, sz, el, s, g, fm, hm, so, si, sh, ce, ca, td, wa, kp, la, bf, oo, bo, pw, ow, tr), (im, lf, s, d, k, ls, rf, rz, ra, rn, rq, lt, m1, m2, m3, m4, bd, fc, hd, sz, el, s, g, fm, hm, so, si, sh, ce, ca, td, wa, kp, la, bf, oo, bo, pw, ow, tr), ?_, ?_, ?_⟩
        · show Ev ab_Z0 2 111 [.ref 0, .int (nI a1k)] (ww im lf s d k ls rf rz ra rn rq lt m1 m2 m3 m4 bd fc hd sz el s g fm hm so si sh ce ca td wa kp la bf oo bo pw ow tr) (some (.int (-1)), (ww im lf s d k ls rf rz ra rn rq lt m1 m2 m3 m4 bd fc hd sz el s g fm hm so si sh ce ca td wa kp la bf oo bo pw ow tr))
          refine Ef.in (md := mX5_trace) (L := [some (.ref 0), some (.int (nI a1k))]) rfl (Nat.le_of_ble_eq_true rfl) rfl ?_
          refine E_aload_n at_X5_trace_0 rfl ?_
          refine E_getfield (v := .ref 46) at_X5_trace_1 w0 rfl (by decide) rfl ?_
          refine E_iload_n at_X5_trace_4 rfl ?_
          have e1 : Ev ab_Z0 1 7 [.ref 46, .int (nI a1k)] (ww im lf s d k ls rf rz ra rn rq lt m1 m2 m3 m4 bd fc hd sz el s g fm hm so si sh ce ca td wa kp la bf oo bo pw ow tr) (some (.int (-1)), (ww im lf s d k ls rf rz ra rn rq lt m1 m2 m3 m4 bd fc hd sz el s g fm hm so si sh ce ca td wa kp la bf oo bo pw ow tr)) := by
            refine Ef.in (md := mX1_bodyAt) (L := [some (.ref 46), some (.int (nI a1k))]) rfl (Nat.le_of_ble_eq_true rfl) rfl ?_
            refine E_iload_n at_X1_bodyAt_0 rfl ?_
            refine E_if (t := 27) (b := false) at_X1_bodyAt_1 rfl ((cn_lt (nI_toInt (by omega)) (by decide : (0 : Int32).toInt = 0)).trans (decide_eq_false (by omega))) ?_
            refine E_iload_n at_X1_bodyAt_4 rfl ?_
            refine E_aload_n at_X1_bodyAt_5 rfl ?_
            refine E_getfield (v := .int m1) at_X1_bodyAt_6 w46 rfl (by decide) rfl ?_
            refine E_ic (t := 27) (b := false) at_X1_bodyAt_9 rfl ((cn_ge (nI_toInt (by omega)) rfl).trans (decide_eq_false (by omega))) ?_
            refine E_iload_n rfl rfl ?_
            refine E_bipush (x := nI 20) rfl (by decide) ?_
            refine E_ic (t := 27) (b := true) rfl rfl ((cn_ge (nI_toInt (by omega)) (nI_toInt (by omega))).trans (decide_eq_true (by omega))) ?_
            refine E_iconst (x := (-1)) at_X1_bodyAt_27 (by decide) ?_
            exact E_iret at_X1_bodyAt_28 rfl
          refine E_callV (v := some (.int (-1))) (As := [.ref 46, .int (nI a1k)]) (r0 := []) (cs2 := (ww im lf s d k ls rf rz ra rn rq lt m1 m2 m3 m4 bd fc hd sz el s g fm hm so si sh ce ca td wa kp la bf oo bo pw ow tr)) at_X5_trace_5 rfl rfl (Nat.le_of_ble_eq_true rfl) rfl (ab_rvOf w46 rfl) e1 (by decide) rfl ?_
          exact E_iret at_X5_trace_8 rfl
        · show Ev ab_Z0 1 209 [.ref 65, .int (nI a1k)] (ww im lf s d k ls rf rz ra rn rq lt m1 m2 m3 m4 bd fc hd sz el s g fm hm so si sh ce ca td wa kp la bf oo bo pw ow tr) (some (.int (-1)), (ww im lf s d k ls rf rz ra rn rq lt m1 m2 m3 m4 bd fc hd sz el s g fm hm so si sh ce ca td wa kp la bf oo bo pw ow tr))
          refine Ef.in (md := mX6_trace) (L := [some (.ref 65), some (.int (nI a1k))]) rfl (Nat.le_of_ble_eq_true rfl) rfl ?_
          refine E_iload_n at_X6_trace_0 rfl ?_
          refine E_if (t := 27) (b := false) at_X6_trace_1 rfl ((cn_lt (nI_toInt (by omega)) (by decide : (0 : Int32).toInt = 0)).trans (decide_eq_false (by omega))) ?_
          refine E_iload_n at_X6_trace_4 rfl ?_
          refine E_bipush (x := nI 20) at_X6_trace_5 (by decide) ?_
          refine E_ic (t := 27) (b := true) at_X6_trace_7 rfl ((cn_ge (nI_toInt (by omega)) (nI_toInt (by omega))).trans (decide_eq_true (by omega))) ?_
          refine E_iconst (x := (-1)) at_X6_trace_27 (by decide) ?_
          exact E_iret at_X6_trace_28 rfl
        · exact ⟨I, rfl, hf, iQ, iM, ⟨n0, hn0, hm1, hg47, hbt⟩, iS, l_el, (lr.1), (lr.2.1), (lr.2.2.1), (lr.2.2.2.1), (lr.2.2.2.2.1), (lr.2.2.2.2.2.1), (lr.2.2.2.2.2.2.1), (lr.2.2.2.2.2.2.2.1), (lr.2.2.2.2.2.2.2.2.1), (lr.2.2.2.2.2.2.2.2.2.1), (lr.2.2.2.2.2.2.2.2.2.2.1), (lr.2.2.2.2.2.2.2.2.2.2.2.1), (lr.2.2.2.2.2.2.2.2.2.2.2.2.1), (lr.2.2.2.2.2.2.2.2.2.2.2.2.2.1), (lr.2.2.2.2.2.2.2.2.2.2.2.2.2.2.1), (lr.2.2.2.2.2.2.2.2.2.2.2.2.2.2.2.1), (lr.2.2.2.2.2.2.2.2.2.2.2.2.2.2.2.2.1), (lr.2.2.2.2.2.2.2.2.2.2.2.2.2.2.2.2.2.1), (lr.2.2.2.2.2.2.2.2.2.2.2.2.2.2.2.2.2.2.1), (lr.2.2.2.2.2.2.2.2.2.2.2.2.2.2.2.2.2.2.2.1), (lr.2.2.2.2.2.2.2.2.2.2.2.2.2.2.2.2.2.2.2.2)⟩
    · by_cases f2 : a1k < 20
      · obtain ⟨n0, hn0, hm1, hg47, hbt⟩ := iT
        have z1 : m1.toInt = n0 := by rw [hm1]; exact nI_toInt (by omega)
        have z2 : (g 47).toInt = n0 := by rw [hg47]; exact nI_toInt (by omega)
        refine ⟨(-1), (im, lf, s, d, k, ls, rf, rz, ra, rn, rq, lt, m1, m2, m3, m4, bd, fc, hd, sz, el, s, g, fm, hm, so, si, sh, ce, ca, td, wa, kp, la, bf, oo, bo, pw, ow, tr), (im, lf, s, d, k, ls, rf, rz, ra, rn, rq, lt, m1, m2, m3, m4, bd, fc, hd, sz, el, s, g, fm, hm, so, si, sh, ce, ca, td, wa, kp, la, bf, oo, bo, pw, ow, tr), ?_, ?_, ?_⟩
        · show Ev ab_Z0 2 111 [.ref 0, .int (nI a1k)] (ww im lf s d k ls rf rz ra rn rq lt m1 m2 m3 m4 bd fc hd sz el s g fm hm so si sh ce ca td wa kp la bf oo bo pw ow tr) (some (.int (-1)), (ww im lf s d k ls rf rz ra rn rq lt m1 m2 m3 m4 bd fc hd sz el s g fm hm so si sh ce ca td wa kp la bf oo bo pw ow tr))
          refine Ef.in (md := mX5_trace) (L := [some (.ref 0), some (.int (nI a1k))]) rfl (Nat.le_of_ble_eq_true rfl) rfl ?_
          refine E_aload_n at_X5_trace_0 rfl ?_
          refine E_getfield (v := .ref 46) at_X5_trace_1 w0 rfl (by decide) rfl ?_
          refine E_iload_n at_X5_trace_4 rfl ?_
          have e1 : Ev ab_Z0 1 7 [.ref 46, .int (nI a1k)] (ww im lf s d k ls rf rz ra rn rq lt m1 m2 m3 m4 bd fc hd sz el s g fm hm so si sh ce ca td wa kp la bf oo bo pw ow tr) (some (.int (-1)), (ww im lf s d k ls rf rz ra rn rq lt m1 m2 m3 m4 bd fc hd sz el s g fm hm so si sh ce ca td wa kp la bf oo bo pw ow tr)) := by
            refine Ef.in (md := mX1_bodyAt) (L := [some (.ref 46), some (.int (nI a1k))]) rfl (Nat.le_of_ble_eq_true rfl) rfl ?_
            refine E_iload_n at_X1_bodyAt_0 rfl ?_
            refine E_if (t := 27) (b := false) at_X1_bodyAt_1 rfl ((cn_lt (nI_toInt (by omega)) (by decide : (0 : Int32).toInt = 0)).trans (decide_eq_false (by omega))) ?_
            refine E_iload_n at_X1_bodyAt_4 rfl ?_
            refine E_aload_n at_X1_bodyAt_5 rfl ?_
            refine E_getfield (v := .int m1) at_X1_bodyAt_6 w46 rfl (by decide) rfl ?_
            refine E_ic (t := 27) (b := true) at_X1_bodyAt_9 rfl ((cn_ge (nI_toInt (by omega)) rfl).trans (decide_eq_true (by omega))) ?_
            refine E_iconst (x := (-1)) at_X1_bodyAt_27 (by decide) ?_
            exact E_iret at_X1_bodyAt_28 rfl
          refine E_callV (v := some (.int (-1))) (As := [.ref 46, .int (nI a1k)]) (r0 := []) (cs2 := (ww im lf s d k ls rf rz ra rn rq lt m1 m2 m3 m4 bd fc hd sz el s g fm hm so si sh ce ca td wa kp la bf oo bo pw ow tr)) at_X5_trace_5 rfl rfl (Nat.le_of_ble_eq_true rfl) rfl (ab_rvOf w46 rfl) e1 (by decide) rfl ?_
          exact E_iret at_X5_trace_8 rfl
        · show Ev ab_Z0 1 209 [.ref 65, .int (nI a1k)] (ww im lf s d k ls rf rz ra rn rq lt m1 m2 m3 m4 bd fc hd sz el s g fm hm so si sh ce ca td wa kp la bf oo bo pw ow tr) (some (.int (-1)), (ww im lf s d k ls rf rz ra rn rq lt m1 m2 m3 m4 bd fc hd sz el s g fm hm so si sh ce ca td wa kp la bf oo bo pw ow tr))
          refine Ef.in (md := mX6_trace) (L := [some (.ref 65), some (.int (nI a1k))]) rfl (Nat.le_of_ble_eq_true rfl) rfl ?_
          refine E_iload_n at_X6_trace_0 rfl ?_
          refine E_if (t := 27) (b := false) at_X6_trace_1 rfl ((cn_lt (nI_toInt (by omega)) (by decide : (0 : Int32).toInt = 0)).trans (decide_eq_false (by omega))) ?_
          refine E_iload_n at_X6_trace_4 rfl ?_
          refine E_bipush (x := nI 20) at_X6_trace_5 (by decide) ?_
          refine E_ic (t := 27) (b := false) at_X6_trace_7 rfl ((cn_ge (nI_toInt (by omega)) (nI_toInt (by omega))).trans (decide_eq_false (by omega))) ?_
          refine E_iload_n rfl rfl ?_
          refine E_aload_n rfl rfl ?_
          refine E_getfield (v := .int (g 47)) rfl w65 rfl (by decide) rfl ?_
          refine E_ic (t := 27) (b := true) rfl rfl ((cn_ge (nI_toInt (by omega)) rfl).trans (decide_eq_true (by omega))) ?_
          refine E_iconst (x := (-1)) at_X6_trace_27 (by decide) ?_
          exact E_iret at_X6_trace_28 rfl
        · exact ⟨I, rfl, hf, iQ, iM, ⟨n0, hn0, hm1, hg47, hbt⟩, iS, l_el, (lr.1), (lr.2.1), (lr.2.2.1), (lr.2.2.2.1), (lr.2.2.2.2.1), (lr.2.2.2.2.2.1), (lr.2.2.2.2.2.2.1), (lr.2.2.2.2.2.2.2.1), (lr.2.2.2.2.2.2.2.2.1), (lr.2.2.2.2.2.2.2.2.2.1), (lr.2.2.2.2.2.2.2.2.2.2.1), (lr.2.2.2.2.2.2.2.2.2.2.2.1), (lr.2.2.2.2.2.2.2.2.2.2.2.2.1), (lr.2.2.2.2.2.2.2.2.2.2.2.2.2.1), (lr.2.2.2.2.2.2.2.2.2.2.2.2.2.2.1), (lr.2.2.2.2.2.2.2.2.2.2.2.2.2.2.2.1), (lr.2.2.2.2.2.2.2.2.2.2.2.2.2.2.2.2.1), (lr.2.2.2.2.2.2.2.2.2.2.2.2.2.2.2.2.2.1), (lr.2.2.2.2.2.2.2.2.2.2.2.2.2.2.2.2.2.2.1), (lr.2.2.2.2.2.2.2.2.2.2.2.2.2.2.2.2.2.2.2.1), (lr.2.2.2.2.2.2.2.2.2.2.2.2.2.2.2.2.2.2.2.2)⟩
      · obtain ⟨n0, hn0, hm1, hg47, hbt⟩ := iT
        have z1 : m1.toInt = n0 := by rw [hm1]; exact nI_toInt (by omega)
        have z2 : (g 47).toInt = n0 := by rw [hg47]; exact nI_toInt (by omega)
        refine ⟨(-1), (im, lf, s, d, k, ls, rf, rz, ra, rn, rq, lt, m1, m2, m3, m4, bd, fc, hd, sz, el, s, g, fm, hm, so, si, sh, ce, ca, td, wa, kp, la, bf, oo, bo, pw, ow, tr), (im, lf, s, d, k, ls, rf, rz, ra, rn, rq, lt, m1, m2, m3, m4, bd, fc, hd, sz, el, s, g, fm, hm, so, si, sh, ce, ca, td, wa, kp, la, bf, oo, bo, pw, ow, tr), ?_, ?_, ?_⟩
        · show Ev ab_Z0 2 111 [.ref 0, .int (nI a1k)] (ww im lf s d k ls rf rz ra rn rq lt m1 m2 m3 m4 bd fc hd sz el s g fm hm so si sh ce ca td wa kp la bf oo bo pw ow tr) (some (.int (-1)), (ww im lf s d k ls rf rz ra rn rq lt m1 m2 m3 m4 bd fc hd sz el s g fm hm so si sh ce ca td wa kp la bf oo bo pw ow tr))
          refine Ef.in (md := mX5_trace) (L := [some (.ref 0), some (.int (nI a1k))]) rfl (Nat.le_of_ble_eq_true rfl) rfl ?_
          refine E_aload_n at_X5_trace_0 rfl ?_
          refine E_getfield (v := .ref 46) at_X5_trace_1 w0 rfl (by decide) rfl ?_
          refine E_iload_n at_X5_trace_4 rfl ?_
          have e1 : Ev ab_Z0 1 7 [.ref 46, .int (nI a1k)] (ww im lf s d k ls rf rz ra rn rq lt m1 m2 m3 m4 bd fc hd sz el s g fm hm so si sh ce ca td wa kp la bf oo bo pw ow tr) (some (.int (-1)), (ww im lf s d k ls rf rz ra rn rq lt m1 m2 m3 m4 bd fc hd sz el s g fm hm so si sh ce ca td wa kp la bf oo bo pw ow tr)) := by
            refine Ef.in (md := mX1_bodyAt) (L := [some (.ref 46), some (.int (nI a1k))]) rfl (Nat.le_of_ble_eq_true rfl) rfl ?_
            refine E_iload_n at_X1_bodyAt_0 rfl ?_
            refine E_if (t := 27) (b := false) at_X1_bodyAt_1 rfl ((cn_lt (nI_toInt (by omega)) (by decide : (0 : Int32).toInt = 0)).trans (decide_eq_false (by omega))) ?_
            refine E_iload_n at_X1_bodyAt_4 rfl ?_
            refine E_aload_n at_X1_bodyAt_5 rfl ?_
            refine E_getfield (v := .int m1) at_X1_bodyAt_6 w46 rfl (by decide) rfl ?_
            refine E_ic (t := 27) (b := true) at_X1_bodyAt_9 rfl ((cn_ge (nI_toInt (by omega)) rfl).trans (decide_eq_true (by omega))) ?_
            refine E_iconst (x := (-1)) at_X1_bodyAt_27 (by decide) ?_
            exact E_iret at_X1_bodyAt_28 rfl
          refine E_callV (v := some (.int (-1))) (As := [.ref 46, .int (nI a1k)]) (r0 := []) (cs2 := (ww im lf s d k ls rf rz ra rn rq lt m1 m2 m3 m4 bd fc hd sz el s g fm hm so si sh ce ca td wa kp la bf oo bo pw ow tr)) at_X5_trace_5 rfl rfl (Nat.le_of_ble_eq_true rfl) rfl (ab_rvOf w46 rfl) e1 (by decide) rfl ?_
          exact E_iret at_X5_trace_8 rfl
        · show Ev ab_Z0 1 209 [.ref 65, .int (nI a1k)] (ww im lf s d k ls rf rz ra rn rq lt m1 m2 m3 m4 bd fc hd sz el s g fm hm so si sh ce ca td wa kp la bf oo bo pw ow tr) (some (.int (-1)), (ww im lf s d k ls rf rz ra rn rq lt m1 m2 m3 m4 bd fc hd sz el s g fm hm so si sh ce ca td wa kp la bf oo bo pw ow tr))
          refine Ef.in (md := mX6_trace) (L := [some (.ref 65), some (.int (nI a1k))]) rfl (Nat.le_of_ble_eq_true rfl) rfl ?_
          refine E_iload_n at_X6_trace_0 rfl ?_
          refine E_if (t := 27) (b := false) at_X6_trace_1 rfl ((cn_lt (nI_toInt (by omega)) (by decide : (0 : Int32).toInt = 0)).trans (decide_eq_false (by omega))) ?_
          refine E_iload_n at_X6_trace_4 rfl ?_
          refine E_bipush (x := nI 20) at_X6_trace_5 (by decide) ?_
          refine E_ic (t := 27) (b := true) at_X6_trace_7 rfl ((cn_ge (nI_toInt (by omega)) (nI_toInt (by omega))).trans (decide_eq_true (by omega))) ?_
          refine E_iconst (x := (-1)) at_X6_trace_27 (by decide) ?_
          exact E_iret at_X6_trace_28 rfl
        · exact ⟨I, rfl, hf, iQ, iM, ⟨n0, hn0, hm1, hg47, hbt⟩, iS, l_el, (lr.1), (lr.2.1), (lr.2.2.1), (lr.2.2.2.1), (lr.2.2.2.2.1), (lr.2.2.2.2.2.1), (lr.2.2.2.2.2.2.1), (lr.2.2.2.2.2.2.2.1), (lr.2.2.2.2.2.2.2.2.1), (lr.2.2.2.2.2.2.2.2.2.1), (lr.2.2.2.2.2.2.2.2.2.2.1), (lr.2.2.2.2.2.2.2.2.2.2.2.1), (lr.2.2.2.2.2.2.2.2.2.2.2.2.1), (lr.2.2.2.2.2.2.2.2.2.2.2.2.2.1), (lr.2.2.2.2.2.2.2.2.2.2.2.2.2.2.1), (lr.2.2.2.2.2.2.2.2.2.2.2.2.2.2.2.1), (lr.2.2.2.2.2.2.2.2.2.2.2.2.2.2.2.2.1), (lr.2.2.2.2.2.2.2.2.2.2.2.2.2.2.2.2.2.1), (lr.2.2.2.2.2.2.2.2.2.2.2.2.2.2.2.2.2.2.1), (lr.2.2.2.2.2.2.2.2.2.2.2.2.2.2.2.2.2.2.2.1), (lr.2.2.2.2.2.2.2.2.2.2.2.2.2.2.2.2.2.2.2.2)⟩
  · obtain ⟨n0, hn0, hm1, hg47, hbt⟩ := iT
    have z1 : m1.toInt = n0 := by rw [hm1]; exact nI_toInt (by omega)
    have z2 : (g 47).toInt = n0 := by rw [hg47]; exact nI_toInt (by omega)
    refine ⟨(-1), (im, lf, s, d, k, ls, rf, rz, ra, rn, rq, lt, m1, m2, m3, m4, bd, fc, hd, sz, el, s, g, fm, hm, so, si, sh, ce, ca, td, wa, kp, la, bf, oo, bo, pw, ow, tr), (im, lf, s, d, k, ls, rf, rz, ra, rn, rq, lt, m1, m2, m3, m4, bd, fc, hd, sz, el, s, g, fm, hm, so, si, sh, ce, ca, td, wa, kp, la, bf, oo, bo, pw, ow, tr), ?_, ?_, ?_⟩
    · show Ev ab_Z0 2 111 [.ref 0, .int a1] (ww im lf s d k ls rf rz ra rn rq lt m1 m2 m3 m4 bd fc hd sz el s g fm hm so si sh ce ca td wa kp la bf oo bo pw ow tr) (some (.int (-1)), (ww im lf s d k ls rf rz ra rn rq lt m1 m2 m3 m4 bd fc hd sz el s g fm hm so si sh ce ca td wa kp la bf oo bo pw ow tr))
      refine Ef.in (md := mX5_trace) (L := [some (.ref 0), some (.int a1)]) rfl (Nat.le_of_ble_eq_true rfl) rfl ?_
      refine E_aload_n at_X5_trace_0 rfl ?_
      refine E_getfield (v := .ref 46) at_X5_trace_1 w0 rfl (by decide) rfl ?_
      refine E_iload_n at_X5_trace_4 rfl ?_
      have e1 : Ev ab_Z0 1 7 [.ref 46, .int a1] (ww im lf s d k ls rf rz ra rn rq lt m1 m2 m3 m4 bd fc hd sz el s g fm hm so si sh ce ca td wa kp la bf oo bo pw ow tr) (some (.int (-1)), (ww im lf s d k ls rf rz ra rn rq lt m1 m2 m3 m4 bd fc hd sz el s g fm hm so si sh ce ca td wa kp la bf oo bo pw ow tr)) := by
        refine Ef.in (md := mX1_bodyAt) (L := [some (.ref 46), some (.int a1)]) rfl (Nat.le_of_ble_eq_true rfl) rfl ?_
        refine E_iload_n at_X1_bodyAt_0 rfl ?_
        refine E_if (t := 27) (b := true) at_X1_bodyAt_1 rfl ((cn_lt rfl (by decide : (0 : Int32).toInt = 0)).trans (decide_eq_true (by omega))) ?_
        refine E_iconst (x := (-1)) at_X1_bodyAt_27 (by decide) ?_
        exact E_iret at_X1_bodyAt_28 rfl
      refine E_callV (v := some (.int (-1))) (As := [.ref 46, .int a1]) (r0 := []) (cs2 := (ww im lf s d k ls rf rz ra rn rq lt m1 m2 m3 m4 bd fc hd sz el s g fm hm so si sh ce ca td wa kp la bf oo bo pw ow tr)) at_X5_trace_5 rfl rfl (Nat.le_of_ble_eq_true rfl) rfl (ab_rvOf w46 rfl) e1 (by decide) rfl ?_
      exact E_iret at_X5_trace_8 rfl
    · show Ev ab_Z0 1 209 [.ref 65, .int a1] (ww im lf s d k ls rf rz ra rn rq lt m1 m2 m3 m4 bd fc hd sz el s g fm hm so si sh ce ca td wa kp la bf oo bo pw ow tr) (some (.int (-1)), (ww im lf s d k ls rf rz ra rn rq lt m1 m2 m3 m4 bd fc hd sz el s g fm hm so si sh ce ca td wa kp la bf oo bo pw ow tr))
      refine Ef.in (md := mX6_trace) (L := [some (.ref 65), some (.int a1)]) rfl (Nat.le_of_ble_eq_true rfl) rfl ?_
      refine E_iload_n at_X6_trace_0 rfl ?_
      refine E_if (t := 27) (b := true) at_X6_trace_1 rfl ((cn_lt rfl (by decide : (0 : Int32).toInt = 0)).trans (decide_eq_true (by omega))) ?_
      refine E_iconst (x := (-1)) at_X6_trace_27 (by decide) ?_
      exact E_iret at_X6_trace_28 rfl
    · exact ⟨I, rfl, hf, iQ, iM, ⟨n0, hn0, hm1, hg47, hbt⟩, iS, l_el, (lr.1), (lr.2.1), (lr.2.2.1), (lr.2.2.2.1), (lr.2.2.2.2.1), (lr.2.2.2.2.2.1), (lr.2.2.2.2.2.2.1), (lr.2.2.2.2.2.2.2.1), (lr.2.2.2.2.2.2.2.2.1), (lr.2.2.2.2.2.2.2.2.2.1), (lr.2.2.2.2.2.2.2.2.2.2.1), (lr.2.2.2.2.2.2.2.2.2.2.2.1), (lr.2.2.2.2.2.2.2.2.2.2.2.2.1), (lr.2.2.2.2.2.2.2.2.2.2.2.2.2.1), (lr.2.2.2.2.2.2.2.2.2.2.2.2.2.2.1), (lr.2.2.2.2.2.2.2.2.2.2.2.2.2.2.2.1), (lr.2.2.2.2.2.2.2.2.2.2.2.2.2.2.2.2.1), (lr.2.2.2.2.2.2.2.2.2.2.2.2.2.2.2.2.2.1), (lr.2.2.2.2.2.2.2.2.2.2.2.2.2.2.2.2.2.2.1), (lr.2.2.2.2.2.2.2.2.2.2.2.2.2.2.2.2.2.2.2.1), (lr.2.2.2.2.2.2.2.2.2.2.2.2.2.2.2.2.2.2.2.2)⟩
