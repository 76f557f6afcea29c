/-! holds; by program (wip/tools/op.py) -/
set_option maxHeartbeats 4000000 in
theorem op_holds (x : St) (hx : wI x) (a1 : Int32) : ∃ (r : Int32) (x1 x2 : St), Ev ab_Z0 2 81 [.ref 0, .int a1] (wt x) (some (.int r), wt x1) ∧ Ev ab_Z0 2 140 [.ref 65, .int a1] (wt x1) (some (.int r), wt x2) ∧ wI x2 := by
  obtain ⟨im, lf, s, d, k, ls, rf, rz, ra, rn, rq, lt, m1, m2, m3, m4, bd, fc, hd, sz, el, t, g, fm, hm, so, si, sh, ce, ca, td, wa, kp, la, bf, oo, bo, pw, ow, tr⟩ := x
  obtain ⟨I, ts, hf, iQ, iM, iT, iS, l_el, lr⟩ := hx
  replace lr : Hd _ := lr
  have l_fc := lr.2.2.2.1
  have l_fm := lr.2.2.2.2.1
  have l_hm := lr.2.2.2.2.2.1
  have l_so := lr.2.2.2.2.2.2.1
  have l_sh := lr.2.2.2.2.2.2.2.2.1
  subst ts
  obtain ⟨⟨i0, i1, i2, i3⟩, ⟨i4, i5, i6, i7, i8⟩, ⟨i9, i10⟩, I1, I2, I3, I4⟩ := id I
  rcases ab_int a1 with ⟨a1k, f0, rfl⟩ | f0
  · by_cases f1 : a1k < 8
    · rcases iS a1k (by omega) with ⟨u1, u2, u3⟩ | ⟨xq, u1, u2, u3, u4, u5⟩ | ⟨u1, u2, u3, u4, u5, u6⟩
      · refine ⟨(-1), (im, lf, s, d, k, ls, rf, rz, ra, rn, rq, lt, m1, m2, m3, m4, bd, fc, hd, sz, el, s, g, fm, hm, so, si, sh, ce, ca, td, wa, kp, la, bf, oo, bo, pw, ow, tr), (im, lf, s, d, k, ls, rf, rz, ra, rn, rq, lt, m1, m2, m3, m4, bd, fc, hd, sz, el, s, g, fm, hm, so, si, sh, ce, ca, td, wa, kp, la, bf, oo, bo, pw, ow, tr), ?_, ?_, ?_⟩
        · show Ev ab_Z0 2 81 [.ref 0, .int (nI a1k)] (ww im lf s d k ls rf rz ra rn rq lt m1 m2 m3 m4 bd fc hd sz el s g fm hm so si sh ce ca td wa kp la bf oo bo pw ow tr) (some (.int (-1)), (ww im lf s d k ls rf rz ra rn rq lt m1 m2 m3 m4 bd fc hd sz el s g fm hm so si sh ce ca td wa kp la bf oo bo pw ow tr))
          refine Ef.in (md := mX5_holds) (L := [some (.ref 0), some (.int (nI a1k))]) rfl (Nat.le_of_ble_eq_true rfl) rfl ?_
          refine E_iload_n at_X5_holds_0 rfl ?_
          refine E_callS (v := some (.int (nI 1))) (As := [.int (nI a1k)]) (r0 := []) (cs2 := (ww im lf s d k ls rf rz ra rn rq lt m1 m2 m3 m4 bd fc hd sz el s g fm hm so si sh ce ca td wa kp la bf oo bo pw ow tr)) at_X5_holds_1 rfl rfl (Nat.le_of_ble_eq_true rfl) rfl (L39_X5_isShelf (by omega) (by omega) (by omega)) (by decide) rfl ?_
          refine E_if (t := 19) (b := false) at_X5_holds_4 rfl (by decide) ?_
          refine E_aload_n rfl rfl ?_
          refine E_getfield (v := .ref 31) rfl w0 rfl (by decide) rfl ?_
          refine E_iload_n rfl rfl ?_
          refine E_aalN (b := 49 + 2 * a1k) rfl w31 (by omega) (w_shs (by omega)) ?_
          refine E_getfield (v := .int (-1)) rfl (w_shv (j := a1k) (by omega) u1 u2) rfl (by decide) rfl ?_
          refine E_goto (t := 20) rfl rfl ?_
          exact E_iret at_X5_holds_20 rfl
        · show Ev ab_Z0 2 140 [.ref 65, .int (nI a1k)] (ww im lf s d k ls rf rz ra rn rq lt m1 m2 m3 m4 bd fc hd sz el s g fm hm so si sh ce ca td wa kp la bf oo bo pw ow tr) (some (.int (-1)), (ww im lf s d k ls rf rz ra rn rq lt m1 m2 m3 m4 bd fc hd sz el s g fm hm so si sh ce ca td wa kp la bf oo bo pw ow tr))
          refine Ef.in (md := mX6_holds) (L := [some (.ref 65), some (.int (nI a1k))]) rfl (Nat.le_of_ble_eq_true rfl) rfl ?_
          refine E_aload_n at_X6_holds_0 rfl ?_
          refine E_iload_n at_X6_holds_1 rfl ?_
          refine E_callV (v := some (.int (nI 1))) (As := [.ref 65, .int (nI a1k)]) (r0 := []) (cs2 := (ww im lf s d k ls rf rz ra rn rq lt m1 m2 m3 m4 bd fc hd sz el s g fm hm so si sh ce ca td wa kp la bf oo bo pw ow tr)) at_X6_holds_2 rfl rfl (Nat.le_of_ble_eq_true rfl) rfl (ab_rvOf w65 rfl) (L40_X6_isShelf (by omega) (by omega) (by omega)) (by decide) rfl ?_
          refine E_if (t := 17) (b := false) at_X6_holds_5 rfl (by decide) ?_
          refine E_aload_n rfl rfl ?_
          refine E_getfield (v := .ref 76) rfl w65 rfl (by decide) rfl ?_
          refine E_iload_n rfl rfl ?_
          refine E_ialN (l := hm) (v := hm.getD a1k 0) rfl w76 (by omega) (by omega) rfl ?_
          refine E_if (t := 19) (b := false) rfl rfl ((cn_ne (nI_toInt (by omega)) (by decide : (0 : Int32).toInt = 0)).trans (decide_eq_false (by omega))) ?_
          refine E_iconst (x := (-1)) rfl (by decide) ?_
          exact E_iret rfl rfl
        · exact ⟨I, rfl, hf, iQ, iM, iT, iS, l_el, (lr.1), (lr.2.1), (lr.2.2.1), (lr.2.2.2.1), (lr.2.2.2.2.1), (lr.2.2.2.2.2.1), (lr.2.2.2.2.2.2.1), (lr.2.2.2.2.2.2.2.1), (lr.2.2.2.2.2.2.2.2.1), (lr.2.2.2.2.2.2.2.2.2.1), (lr.2.2.2.2.2.2.2.2.2.2.1), (lr.2.2.2.2.2.2.2.2.2.2.2.1), (lr.2.2.2.2.2.2.2.2.2.2.2.2.1), (lr.2.2.2.2.2.2.2.2.2.2.2.2.2.1), (lr.2.2.2.2.2.2.2.2.2.2.2.2.2.2.1), (lr.2.2.2.2.2.2.2.2.2.2.2.2.2.2.2.1), (lr.2.2.2.2.2.2.2.2.2.2.2.2.2.2.2.2.1), (lr.2.2.2.2.2.2.2.2.2.2.2.2.2.2.2.2.2.1), (lr.2.2.2.2.2.2.2.2.2.2.2.2.2.2.2.2.2.2.1), (lr.2.2.2.2.2.2.2.2.2.2.2.2.2.2.2.2.2.2.2.1), (lr.2.2.2.2.2.2.2.2.2.2.2.2.2.2.2.2.2.2.2.2)⟩
      · refine ⟨(nI xq), (im, lf, s, d, k, ls, rf, rz, ra, rn, rq, lt, m1, m2, m3, m4, bd, fc, hd, sz, el, s, g, fm, hm, so, si, sh, ce, ca, td, wa, kp, la, bf, oo, bo, pw, ow, tr), (im, lf, s, d, k, ls, rf, rz, ra, rn, rq, lt, m1, m2, m3, m4, bd, fc, hd, sz, el, s, g, fm, hm, so, si, sh, ce, ca, td, wa, kp, la, bf, oo, bo, pw, ow, tr), ?_, ?_, ?_⟩
        · show Ev ab_Z0 2 81 [.ref 0, .int (nI a1k)] (ww im lf s d k ls rf rz ra rn rq lt m1 m2 m3 m4 bd fc hd sz el s g fm hm so si sh ce ca td wa kp la bf oo bo pw ow tr) (some (.int (nI xq)), (ww im lf s d k ls rf rz ra rn rq lt m1 m2 m3 m4 bd fc hd sz el s g fm hm so si sh ce ca td wa kp la bf oo bo pw ow tr))
          refine Ef.in (md := mX5_holds) (L := [some (.ref 0), some (.int (nI a1k))]) rfl (Nat.le_of_ble_eq_true rfl) rfl ?_
          refine E_iload_n at_X5_holds_0 rfl ?_
          refine E_callS (v := some (.int (nI 1))) (As := [.int (nI a1k)]) (r0 := []) (cs2 := (ww im lf s d k ls rf rz ra rn rq lt m1 m2 m3 m4 bd fc hd sz el s g fm hm so si sh ce ca td wa kp la bf oo bo pw ow tr)) at_X5_holds_1 rfl rfl (Nat.le_of_ble_eq_true rfl) rfl (L39_X5_isShelf (by omega) (by omega) (by omega)) (by decide) rfl ?_
          refine E_if (t := 19) (b := false) at_X5_holds_4 rfl (by decide) ?_
          refine E_aload_n rfl rfl ?_
          refine E_getfield (v := .ref 31) rfl w0 rfl (by decide) rfl ?_
          refine E_iload_n rfl rfl ?_
          refine E_aalN (b := 49 + 2 * a1k) rfl w31 (by omega) (w_shs (by omega)) ?_
          refine E_getfield (v := .int (nI xq)) rfl (w_shv (j := a1k) (by omega) u2 u3) rfl (by decide) rfl ?_
          refine E_goto (t := 20) rfl rfl ?_
          exact E_iret at_X5_holds_20 rfl
        · show Ev ab_Z0 2 140 [.ref 65, .int (nI a1k)] (ww im lf s d k ls rf rz ra rn rq lt m1 m2 m3 m4 bd fc hd sz el s g fm hm so si sh ce ca td wa kp la bf oo bo pw ow tr) (some (.int (nI xq)), (ww im lf s d k ls rf rz ra rn rq lt m1 m2 m3 m4 bd fc hd sz el s g fm hm so si sh ce ca td wa kp la bf oo bo pw ow tr))
          refine Ef.in (md := mX6_holds) (L := [some (.ref 65), some (.int (nI a1k))]) rfl (Nat.le_of_ble_eq_true rfl) rfl ?_
          refine E_aload_n at_X6_holds_0 rfl ?_
          refine E_iload_n at_X6_holds_1 rfl ?_
          refine E_callV (v := some (.int (nI 1))) (As := [.ref 65, .int (nI a1k)]) (r0 := []) (cs2 := (ww im lf s d k ls rf rz ra rn rq lt m1 m2 m3 m4 bd fc hd sz el s g fm hm so si sh ce ca td wa kp la bf oo bo pw ow tr)) at_X6_holds_2 rfl rfl (Nat.le_of_ble_eq_true rfl) rfl (ab_rvOf w65 rfl) (L40_X6_isShelf (by omega) (by omega) (by omega)) (by decide) rfl ?_
          refine E_if (t := 17) (b := false) at_X6_holds_5 rfl (by decide) ?_
          refine E_aload_n rfl rfl ?_
          refine E_getfield (v := .ref 76) rfl w65 rfl (by decide) rfl ?_
          refine E_iload_n rfl rfl ?_
          refine E_ialN (l := hm) (v := hm.getD a1k 0) rfl w76 (by omega) (by omega) rfl ?_
          refine E_if (t := 19) (b := true) rfl rfl ((cn_ne (nI_toInt (by omega)) (by decide : (0 : Int32).toInt = 0)).trans (decide_eq_true (by omega))) ?_
          refine E_aload_n rfl rfl ?_
          refine E_getfield (v := .ref 76) rfl w65 rfl (by decide) rfl ?_
          refine E_iload_n rfl rfl ?_
          refine E_ialN (l := hm) (v := hm.getD a1k 0) rfl w76 (by omega) (by omega) rfl ?_
          refine E_iconst (x := nI 1) rfl (by decide) ?_
          refine E_ic (t := 41) (b := true) rfl rfl ((cn_ne (nI_toInt (by omega)) (nI_toInt (by omega))).trans (decide_eq_true (by omega))) ?_
          refine E_aload_n rfl rfl ?_
          refine E_getfield (v := .ref 79) rfl w65 rfl (by decide) rfl ?_
          refine E_iload_n rfl rfl ?_
          refine E_ialI (l := sh) (v := nI xq) rfl w79 (by omega) (by omega) u5 ?_
          exact E_iret rfl rfl
        · exact ⟨I, rfl, hf, iQ, iM, iT, iS, l_el, (lr.1), (lr.2.1), (lr.2.2.1), (lr.2.2.2.1), (lr.2.2.2.2.1), (lr.2.2.2.2.2.1), (lr.2.2.2.2.2.2.1), (lr.2.2.2.2.2.2.2.1), (lr.2.2.2.2.2.2.2.2.1), (lr.2.2.2.2.2.2.2.2.2.1), (lr.2.2.2.2.2.2.2.2.2.2.1), (lr.2.2.2.2.2.2.2.2.2.2.2.1), (lr.2.2.2.2.2.2.2.2.2.2.2.2.1), (lr.2.2.2.2.2.2.2.2.2.2.2.2.2.1), (lr.2.2.2.2.2.2.2.2.2.2.2.2.2.2.1), (lr.2.2.2.2.2.2.2.2.2.2.2.2.2.2.2.1), (lr.2.2.2.2.2.2.2.2.2.2.2.2.2.2.2.2.1), (lr.2.2.2.2.2.2.2.2.2.2.2.2.2.2.2.2.2.1), (lr.2.2.2.2.2.2.2.2.2.2.2.2.2.2.2.2.2.2.1), (lr.2.2.2.2.2.2.2.2.2.2.2.2.2.2.2.2.2.2.2.1), (lr.2.2.2.2.2.2.2.2.2.2.2.2.2.2.2.2.2.2.2.2)⟩
      · refine ⟨(nI (100 + so.getD a1k 0)), (im, lf, s, d, k, ls, rf, rz, ra, rn, rq, lt, m1, m2, m3, m4, bd, fc, hd, sz, el, s, g, fm, hm, so, si, sh, ce, ca, td, wa, kp, la, bf, oo, bo, pw, ow, tr), (im, lf, s, d, k, ls, rf, rz, ra, rn, rq, lt, m1, m2, m3, m4, bd, fc, hd, sz, el, s, g, fm, hm, so, si, sh, ce, ca, td, wa, kp, la, bf, oo, bo, pw, ow, tr), ?_, ?_, ?_⟩
        · show Ev ab_Z0 2 81 [.ref 0, .int (nI a1k)] (ww im lf s d k ls rf rz ra rn rq lt m1 m2 m3 m4 bd fc hd sz el s g fm hm so si sh ce ca td wa kp la bf oo bo pw ow tr) (some (.int (nI (100 + so.getD a1k 0))), (ww im lf s d k ls rf rz ra rn rq lt m1 m2 m3 m4 bd fc hd sz el s g fm hm so si sh ce ca td wa kp la bf oo bo pw ow tr))
          refine Ef.in (md := mX5_holds) (L := [some (.ref 0), some (.int (nI a1k))]) rfl (Nat.le_of_ble_eq_true rfl) rfl ?_
          refine E_iload_n at_X5_holds_0 rfl ?_
          refine E_callS (v := some (.int (nI 1))) (As := [.int (nI a1k)]) (r0 := []) (cs2 := (ww im lf s d k ls rf rz ra rn rq lt m1 m2 m3 m4 bd fc hd sz el s g fm hm so si sh ce ca td wa kp la bf oo bo pw ow tr)) at_X5_holds_1 rfl rfl (Nat.le_of_ble_eq_true rfl) rfl (L39_X5_isShelf (by omega) (by omega) (by omega)) (by decide) rfl ?_
          refine E_if (t := 19) (b := false) at_X5_holds_4 rfl (by decide) ?_
          refine E_aload_n rfl rfl ?_
          refine E_getfield (v := .ref 31) rfl w0 rfl (by decide) rfl ?_
          refine E_iload_n rfl rfl ?_
          refine E_aalN (b := 49 + 2 * a1k) rfl w31 (by omega) (w_shs (by omega)) ?_
          refine E_getfield (v := .int (nI (100 + so.getD a1k 0))) rfl (w_shv (j := a1k) (by omega) u1 u2) rfl (by decide) rfl ?_
          refine E_goto (t := 20) rfl rfl ?_
          exact E_iret at_X5_holds_20 rfl
        · show Ev ab_Z0 2 140 [.ref 65, .int (nI a1k)] (ww im lf s d k ls rf rz ra rn rq lt m1 m2 m3 m4 bd fc hd sz el s g fm hm so si sh ce ca td wa kp la bf oo bo pw ow tr) (some (.int (nI (100 + so.getD a1k 0))), (ww im lf s d k ls rf rz ra rn rq lt m1 m2 m3 m4 bd fc hd sz el s g fm hm so si sh ce ca td wa kp la bf oo bo pw ow tr))
          rw [show (100 + so.getD a1k 0) = (100 + (so.getD a1k 0)) from by omega]
          refine Ef.in (md := mX6_holds) (L := [some (.ref 65), some (.int (nI a1k))]) rfl (Nat.le_of_ble_eq_true rfl) rfl ?_
          refine E_aload_n at_X6_holds_0 rfl ?_
          refine E_iload_n at_X6_holds_1 rfl ?_
          refine E_callV (v := some (.int (nI 1))) (As := [.ref 65, .int (nI a1k)]) (r0 := []) (cs2 := (ww im lf s d k ls rf rz ra rn rq lt m1 m2 m3 m4 bd fc hd sz el s g fm hm so si sh ce ca td wa kp la bf oo bo pw ow tr)) at_X6_holds_2 rfl rfl (Nat.le_of_ble_eq_true rfl) rfl (ab_rvOf w65 rfl) (L40_X6_isShelf (by omega) (by omega) (by omega)) (by decide) rfl ?_
          refine E_if (t := 17) (b := false) at_X6_holds_5 rfl (by decide) ?_
          refine E_aload_n rfl rfl ?_
          refine E_getfield (v := .ref 76) rfl w65 rfl (by decide) rfl ?_
          refine E_iload_n rfl rfl ?_
          refine E_ialN (l := hm) (v := hm.getD a1k 0) rfl w76 (by omega) (by omega) rfl ?_
          refine E_if (t := 19) (b := true) rfl rfl ((cn_ne (nI_toInt (by omega)) (by decide : (0 : Int32).toInt = 0)).trans (decide_eq_true (by omega))) ?_
          refine E_aload_n rfl rfl ?_
          refine E_getfield (v := .ref 76) rfl w65 rfl (by decide) rfl ?_
          refine E_iload_n rfl rfl ?_
          refine E_ialN (l := hm) (v := hm.getD a1k 0) rfl w76 (by omega) (by omega) rfl ?_
          refine E_iconst (x := nI 1) rfl (by decide) ?_
          refine E_ic (t := 41) (b := false) rfl rfl ((cn_ne (nI_toInt (by omega)) (nI_toInt (by omega))).trans (decide_eq_false (by omega))) ?_
          refine E_bipush (x := nI 100) rfl (by decide) ?_
          refine E_aload_n rfl rfl ?_
          refine E_getfield (v := .ref 77) rfl w65 rfl (by decide) rfl ?_
          refine E_iload_n rfl rfl ?_
          refine E_ialN (l := so) (v := so.getD a1k 0) rfl w77 (by omega) (by omega) rfl ?_
          refine E_iadd (z := nI (100 + (so.getD a1k 0))) rfl (nI_add _ _) ?_
          refine E_goto (t := 47) rfl rfl ?_
          exact E_iret rfl rfl
        · exact ⟨I, rfl, hf, iQ, iM, iT, iS, l_el, (lr.1), (lr.2.1), (lr.2.2.1), (lr.2.2.2.1), (lr.2.2.2.2.1), (lr.2.2.2.2.2.1), (lr.2.2.2.2.2.2.1), (lr.2.2.2.2.2.2.2.1), (lr.2.2.2.2.2.2.2.2.1), (lr.2.2.2.2.2.2.2.2.2.1), (lr.2.2.2.2.2.2.2.2.2.2.1), (lr.2.2.2.2.2.2.2.2.2.2.2.1), (lr.2.2.2.2.2.2.2.2.2.2.2.2.1), (lr.2.2.2.2.2.2.2.2.2.2.2.2.2.1), (lr.2.2.2.2.2.2.2.2.2.2.2.2.2.2.1), (lr.2.2.2.2.2.2.2.2.2.2.2.2.2.2.2.1), (lr.2.2.2.2.2.2.2.2.2.2.2.2.2.2.2.2.1), (lr.2.2.2.2.2.2.2.2.2.2.2.2.2.2.2.2.2.1), (lr.2.2.2.2.2.2.2.2.2.2.2.2.2.2.2.2.2.2.1), (lr.2.2.2.2.2.2.2.2.2.2.2.2.2.2.2.2.2.2.2.1), (lr.2.2.2.2.2.2.2.2.2.2.2.2.2.2.2.2.2.2.2.2)⟩
    · refine ⟨(-1), (im, lf, s, d, k, ls, rf, rz, ra, rn, rq, lt, m1, m2, m3, m4, bd, fc, hd, sz, el, s, g, fm, hm, so, si, sh, ce, ca, td, wa, kp, la, bf, oo, bo, pw, ow, tr), (im, lf, s, d, k, ls, rf, rz, ra, rn, rq, lt, m1, m2, m3, m4, bd, fc, hd, sz, el, s, g, fm, hm, so, si, sh, ce, ca, td, wa, kp, la, bf, oo, bo, pw, ow, tr), ?_, ?_, ?_⟩
      · show Ev ab_Z0 2 81 [.ref 0, .int (nI a1k)] (ww im lf s d k ls rf rz ra rn rq lt m1 m2 m3 m4 bd fc hd sz el s g fm hm so si sh ce ca td wa kp la bf oo bo pw ow tr) (some (.int (-1)), (ww im lf s d k ls rf rz ra rn rq lt m1 m2 m3 m4 bd fc hd sz el s g fm hm so si sh ce ca td wa kp la bf oo bo pw ow tr))
        refine Ef.in (md := mX5_holds) (L := [some (.ref 0), some (.int (nI a1k))]) rfl (Nat.le_of_ble_eq_true rfl) rfl ?_
        refine E_iload_n at_X5_holds_0 rfl ?_
        refine E_callS (v := some (.int (nI 0))) (As := [.int (nI a1k)]) (r0 := []) (cs2 := (ww im lf s d k ls rf rz ra rn rq lt m1 m2 m3 m4 bd fc hd sz el s g fm hm so si sh ce ca td wa kp la bf oo bo pw ow tr)) at_X5_holds_1 rfl rfl (Nat.le_of_ble_eq_true rfl) rfl (L47_X5_isShelf (by omega) (by omega) (by omega)) (by decide) rfl ?_
        refine E_if (t := 19) (b := true) at_X5_holds_4 rfl (by decide) ?_
        refine E_iconst (x := (-1)) rfl (by decide) ?_
        exact E_iret at_X5_holds_20 rfl
      · show Ev ab_Z0 2 140 [.ref 65, .int (nI a1k)] (ww im lf s d k ls rf rz ra rn rq lt m1 m2 m3 m4 bd fc hd sz el s g fm hm so si sh ce ca td wa kp la bf oo bo pw ow tr) (some (.int (-1)), (ww im lf s d k ls rf rz ra rn rq lt m1 m2 m3 m4 bd fc hd sz el s g fm hm so si sh ce ca td wa kp la bf oo bo pw ow tr))
        refine Ef.in (md := mX6_holds) (L := [some (.ref 65), some (.int (nI a1k))]) rfl (Nat.le_of_ble_eq_true rfl) rfl ?_
        refine E_aload_n at_X6_holds_0 rfl ?_
        refine E_iload_n at_X6_holds_1 rfl ?_
        refine E_callV (v := some (.int (nI 0))) (As := [.ref 65, .int (nI a1k)]) (r0 := []) (cs2 := (ww im lf s d k ls rf rz ra rn rq lt m1 m2 m3 m4 bd fc hd sz el s g fm hm so si sh ce ca td wa kp la bf oo bo pw ow tr)) at_X6_holds_2 rfl rfl (Nat.le_of_ble_eq_true rfl) rfl (ab_rvOf w65 rfl) (L48_X6_isShelf (by omega) (by omega) (by omega)) (by decide) rfl ?_
        refine E_if (t := 17) (b := true) at_X6_holds_5 rfl (by decide) ?_
        refine E_iconst (x := (-1)) rfl (by decide) ?_
        exact E_iret rfl rfl
      · exact ⟨I, rfl, hf, iQ, iM, iT, iS, l_el, (lr.1), (lr.2.1), (lr.2.2.1), (lr.2.2.2.1), (lr.2.2.2.2.1), (lr.2.2.2.2.2.1), (lr.2.2.2.2.2.2.1), (lr.2.2.2.2.2.2.2.1), (lr.2.2.2.2.2.2.2.2.1), (lr.2.2.2.2.2.2.2.2.2.1), (lr.2.2.2.2.2.2.2.2.2.2.1), (lr.2.2.2.2.2.2.2.2.2.2.2.1), (lr.2.2.2.2.2.2.2.2.2.2.2.2.1), (lr.2.2.2.2.2.2.2.2.2.2.2.2.2.1), (lr.2.2.2.2.2.2.2.2.2.2.2.2.2.2.1), (lr.2.2.2.2.2.2.2.2.2.2.2.2.2.2.2.1), (lr.2.2.2.2.2.2.2.2.2.2.2.2.2.2.2.2.1), (lr.2.2.2.2.2.2.2.2.2.2.2.2.2.2.2.2.2.1), (lr.2.2.2.2.2.2.2.2.2.2.2.2.2.2.2.2.2.2.1), (lr.2.2.2.2.2.2.2.2.2.2.2.2.2.2.2.2.2.2.2.1), (lr.2.2.2.2.2.2.2.2.2.2.2.2.2.2.2.2.2.2.2.2)⟩
  · refine ⟨(-1), (im, lf, s, d, k, ls, rf, rz, ra, rn, rq, lt, m1, m2, m3, m4, bd, fc, hd, sz, el, s, g, fm, hm, so, si, sh, ce, ca, td, wa, kp, la, bf, oo, bo, pw, ow, tr), (im, lf, s, d, k, ls, rf, rz, ra, rn, rq, lt, m1, m2, m3, m4, bd, fc, hd, sz, el, s, g, fm, hm, so, si, sh, ce, ca, td, wa, kp, la, bf, oo, bo, pw, ow, tr), ?_, ?_, ?_⟩
    · show Ev ab_Z0 2 81 [.ref 0, .int a1] (ww im lf s d k ls rf rz ra rn rq lt m1 m2 m3 m4 bd fc hd sz el s g fm hm so si sh ce ca td wa kp la bf oo bo pw ow tr) (some (.int (-1)), (ww im lf s d k ls rf rz ra rn rq lt m1 m2 m3 m4 bd fc hd sz el s g fm hm so si sh ce ca td wa kp la bf oo bo pw ow tr))
      refine Ef.in (md := mX5_holds) (L := [some (.ref 0), some (.int a1)]) rfl (Nat.le_of_ble_eq_true rfl) rfl ?_
      refine E_iload_n at_X5_holds_0 rfl ?_
      refine E_callS (v := some (.int (nI 0))) (As := [.int a1]) (r0 := []) (cs2 := (ww im lf s d k ls rf rz ra rn rq lt m1 m2 m3 m4 bd fc hd sz el s g fm hm so si sh ce ca td wa kp la bf oo bo pw ow tr)) at_X5_holds_1 rfl rfl (Nat.le_of_ble_eq_true rfl) rfl (L49_X5_isShelf (by omega) (by omega)) (by decide) rfl ?_
      refine E_if (t := 19) (b := true) at_X5_holds_4 rfl (by decide) ?_
      refine E_iconst (x := (-1)) rfl (by decide) ?_
      exact E_iret at_X5_holds_20 rfl
    · show Ev ab_Z0 2 140 [.ref 65, .int a1] (ww im lf s d k ls rf rz ra rn rq lt m1 m2 m3 m4 bd fc hd sz el s g fm hm so si sh ce ca td wa kp la bf oo bo pw ow tr) (some (.int (-1)), (ww im lf s d k ls rf rz ra rn rq lt m1 m2 m3 m4 bd fc hd sz el s g fm hm so si sh ce ca td wa kp la bf oo bo pw ow tr))
      refine Ef.in (md := mX6_holds) (L := [some (.ref 65), some (.int a1)]) rfl (Nat.le_of_ble_eq_true rfl) rfl ?_
      refine E_aload_n at_X6_holds_0 rfl ?_
      refine E_iload_n at_X6_holds_1 rfl ?_
      refine E_callV (v := some (.int (nI 0))) (As := [.ref 65, .int a1]) (r0 := []) (cs2 := (ww im lf s d k ls rf rz ra rn rq lt m1 m2 m3 m4 bd fc hd sz el s g fm hm so si sh ce ca td wa kp la bf oo bo pw ow tr)) at_X6_holds_2 rfl rfl (Nat.le_of_ble_eq_true rfl) rfl (ab_rvOf w65 rfl) (L50_X6_isShelf (by omega) (by omega)) (by decide) rfl ?_
      refine E_if (t := 17) (b := true) at_X6_holds_5 rfl (by decide) ?_
      refine E_iconst (x := (-1)) rfl (by decide) ?_
      exact E_iret rfl rfl
    · exact ⟨I, rfl, hf, iQ, iM, iT, iS, l_el, (lr.1), (lr.2.1), (lr.2.2.1), (lr.2.2.2.1), (lr.2.2.2.2.1), (lr.2.2.2.2.2.1), (lr.2.2.2.2.2.2.1), (lr.2.2.2.2.2.2.2.1), (lr.2.2.2.2.2.2.2.2.1), (lr.2.2.2.2.2.2.2.2.2.1), (lr.2.2.2.2.2.2.2.2.2.2.1), (lr.2.2.2.2.2.2.2.2.2.2.2.1), (lr.2.2.2.2.2.2.2.2.2.2.2.2.1), (lr.2.2.2.2.2.2.2.2.2.2.2.2.2.1), (lr.2.2.2.2.2.2.2.2.2.2.2.2.2.2.1), (lr.2.2.2.2.2.2.2.2.2.2.2.2.2.2.2.1), (lr.2.2.2.2.2.2.2.2.2.2.2.2.2.2.2.2.1), (lr.2.2.2.2.2.2.2.2.2.2.2.2.2.2.2.2.2.1), (lr.2.2.2.2.2.2.2.2.2.2.2.2.2.2.2.2.2.2.1), (lr.2.2.2.2.2.2.2.2.2.2.2.2.2.2.2.2.2.2.2.1), (lr.2.2.2.2.2.2.2.2.2.2.2.2.2.2.2.2.2.2.2.2)⟩
