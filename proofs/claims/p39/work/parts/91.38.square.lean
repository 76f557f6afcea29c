/-! square; by program (wip/tools/op.py) -/
set_option maxHeartbeats 4000000 in
theorem op_square (x : St) (hx : wI x) (a1 : Int32) : ∃ (r : Int32) (x1 x2 : St), Ev ab_Z0 7 90 [.ref 0, .int a1] (wt x) (some (.int r), wt x1) ∧ Ev ab_Z0 4 165 [.ref 65, .int a1] (wt x1) (some (.int r), wt x2) ∧ wI x2 := by
  obtain ⟨im, lf, s, d, k, ls, rf, rz, ra, rn, rq, lt, m1, m2, m3, m4, bd, fc, hd, sz, el, t, g, fm, hm, so, si, sh, ce, ca, td, wa, kp, la, bf, oo, bo, pw, ow, tr⟩ := x
  obtain ⟨I, ts, hf, iQ, iM, iT, iS, l_el, lr⟩ := hx
  replace lr : Hd _ := lr
  have l_fc := lr.2.2.2.1
  have l_fm := lr.2.2.2.2.1
  have l_hm := lr.2.2.2.2.2.1
  have l_si := lr.2.2.2.2.2.2.2.1
  subst ts
  obtain ⟨⟨i0, i1, i2, i3⟩, ⟨i4, i5, i6, i7, i8⟩, ⟨i9, i10⟩, I1, I2, I3, I4⟩ := id I
  obtain ⟨⟨d0, d1, d2, d3, d4, d5, d6, d7, d8⟩, ⟨k0, k1, k2, k3, k4, k5, k6, k7, k8⟩, ⟨r0, r1, r2, r3, r4, r5, r6, r7, r8⟩⟩ := iQ
  rcases ab_int a1 with ⟨a1k, f0, rfl⟩ | f0
  · by_cases f1 : a1k < 8
    · rcases iS a1k (by omega) with ⟨u1, u2, u3⟩ | ⟨xq, u1, u2, u3, u4, u5⟩ | ⟨u1, u2, u3, u4, u5, u6⟩
      · refine ⟨(-3), (im, lf, s, d, k, ls, rf, rz, ra, rn, rq, lt, m1, m2, m3, m4, bd, (fc.set 3 ((fc.getD 3 0) + (nI 1))), hd, sz, el, s, g, fm, hm, so, si, sh, ce, ca, td, wa, kp, la, bf, oo, bo, pw, ow, tr), (im, lf, s, d, k, ls, rf, rz, ra, rn, rq, lt, m1, m2, m3, m4, bd, (fc.set 3 ((fc.getD 3 0) + (nI 1))), hd, sz, el, s, g, (fm.set 3 ((fm.getD 3 0) + (nI 1))), hm, so, si, sh, ce, ca, td, wa, kp, la, bf, oo, bo, pw, ow, tr), ?_, ?_, ?_⟩
        · show Ev ab_Z0 7 90 [.ref 0, .int (nI a1k)] (ww im lf s d k ls rf rz ra rn rq lt m1 m2 m3 m4 bd fc hd sz el s g fm hm so si sh ce ca td wa kp la bf oo bo pw ow tr) (some (.int (-3)), (ww im lf s d k ls rf rz ra rn rq lt m1 m2 m3 m4 bd (fc.set 3 ((fc.getD 3 0) + (nI 1))) hd sz el s g fm hm so si sh ce ca td wa kp la bf oo bo pw ow tr))
          refine Ef.in (md := mX5_square) (L := [some (.ref 0), some (.int (nI a1k)), none, none]) rfl (Nat.le_of_ble_eq_true rfl) rfl ?_
          refine E_aload_n rfl rfl ?_
          refine E_iload_n rfl rfl ?_
          have e3 : Ev ab_Z0 2 119 [.ref 0, .int (nI a1k)] (ww im lf s d k ls rf rz ra rn rq lt m1 m2 m3 m4 bd fc hd sz el s g fm hm so si sh ce ca td wa kp la bf oo bo pw ow tr) (some (.int (nI 3)), (ww im lf s d k ls rf rz ra rn rq lt m1 m2 m3 m4 bd fc hd sz el s g fm hm so si sh ce ca td wa kp la bf oo bo pw ow tr)) := by
            refine Ef.in (md := mX5_whyNoRow) (L := [some (.ref 0), some (.int (nI a1k))]) rfl (Nat.le_of_ble_eq_true rfl) rfl ?_
            refine E_iload_n rfl rfl ?_
            refine E_callS (v := some (.int (nI 1))) (As := [.int (nI a1k)]) (r0 := []) (cs2 := (ww im lf s d k ls rf rz ra rn rq lt m1 m2 m3 m4 bd fc hd sz el s g fm hm so si sh ce ca td wa kp la bf oo bo pw ow tr)) rfl rfl rfl (Nat.le_of_ble_eq_true rfl) rfl (L39_X5_isShelf (by omega) (by omega) (by omega)) (by decide) rfl ?_
            refine E_if (t := 9) (b := true) rfl rfl (by decide) ?_
            refine E_aload_n rfl rfl ?_
            refine E_getfield (v := .ref 31) rfl w0 rfl (by decide) rfl ?_
            refine E_iload_n rfl rfl ?_
            refine E_aalN (b := 49 + 2 * a1k) rfl w31 (by omega) (w_shs (by omega)) ?_
            have e1 : Ev ab_Z0 1 33 [.ref (49 + 2 * a1k)] (ww im lf s d k ls rf rz ra rn rq lt m1 m2 m3 m4 bd fc hd sz el s g fm hm so si sh ce ca td wa kp la bf oo bo pw ow tr) (some (.int (nI 0)), (ww im lf s d k ls rf rz ra rn rq lt m1 m2 m3 m4 bd fc hd sz el s g fm hm so si sh ce ca td wa kp la bf oo bo pw ow tr)) := by
              refine Ef.in (md := mX3_isOtherThanRow) (L := [some (.ref (49 + 2 * a1k))]) rfl (Nat.le_of_ble_eq_true rfl) rfl ?_
              refine E_aload_n rfl rfl ?_
              refine E_getfield (v := .int (-1)) rfl (w_shv (j := a1k) (by omega) u1 u2) rfl (by decide) rfl ?_
              refine E_if (t := 20) (b := true) rfl rfl (by decide) ?_
              refine E_iconst (x := nI 0) rfl (by decide) ?_
              exact E_iret rfl rfl
            refine E_callV (v := some (.int (nI 0))) (As := [.ref (49 + 2 * a1k)]) (r0 := []) (cs2 := (ww im lf s d k ls rf rz ra rn rq lt m1 m2 m3 m4 bd fc hd sz el s g fm hm so si sh ce ca td wa kp la bf oo bo pw ow tr)) rfl rfl rfl (Nat.le_of_ble_eq_true rfl) rfl (ab_rvOf (w_shv (j := a1k) (by omega) u1 u2) rfl) e1 (by decide) rfl ?_
            refine E_if (t := 23) (b := true) rfl rfl (by decide) ?_
            refine E_aload_n rfl rfl ?_
            refine E_getfield (v := .ref 31) rfl w0 rfl (by decide) rfl ?_
            refine E_iload_n rfl rfl ?_
            refine E_aalN (b := 49 + 2 * a1k) rfl w31 (by omega) (w_shs (by omega)) ?_
            have e2 : Ev ab_Z0 1 32 [.ref (49 + 2 * a1k)] (ww im lf s d k ls rf rz ra rn rq lt m1 m2 m3 m4 bd fc hd sz el s g fm hm so si sh ce ca td wa kp la bf oo bo pw ow tr) (some (.int (nI 1)), (ww im lf s d k ls rf rz ra rn rq lt m1 m2 m3 m4 bd fc hd sz el s g fm hm so si sh ce ca td wa kp la bf oo bo pw ow tr)) := by
              refine Ef.in (md := mX3_isEmpty) (L := [some (.ref (49 + 2 * a1k))]) rfl (Nat.le_of_ble_eq_true rfl) rfl ?_
              refine E_aload_n rfl rfl ?_
              refine E_getfield (v := .int (-1)) rfl (w_shv (j := a1k) (by omega) u1 u2) rfl (by decide) rfl ?_
              refine E_iconst (x := (-1)) rfl (by decide) ?_
              refine E_ic (t := 12) (b := false) rfl rfl (by decide) ?_
              refine E_iconst (x := nI 1) rfl (by decide) ?_
              refine E_goto (t := 13) rfl rfl ?_
              exact E_iret rfl rfl
            refine E_callV (v := some (.int (nI 1))) (As := [.ref (49 + 2 * a1k)]) (r0 := []) (cs2 := (ww im lf s d k ls rf rz ra rn rq lt m1 m2 m3 m4 bd fc hd sz el s g fm hm so si sh ce ca td wa kp la bf oo bo pw ow tr)) rfl rfl rfl (Nat.le_of_ble_eq_true rfl) rfl (ab_rvOf (w_shv (j := a1k) (by omega) u1 u2) rfl) e2 (by decide) rfl ?_
            refine E_if (t := 39) (b := false) rfl rfl (by decide) ?_
            refine E_iconst (x := nI 3) rfl (by decide) ?_
            refine E_goto (t := 40) rfl rfl ?_
            exact E_iret rfl rfl
          refine E_callV (v := some (.int (nI 3))) (As := [.ref 0, .int (nI a1k)]) (r0 := []) (cs2 := (ww im lf s d k ls rf rz ra rn rq lt m1 m2 m3 m4 bd fc hd sz el s g fm hm so si sh ce ca td wa kp la bf oo bo pw ow tr)) rfl rfl rfl (Nat.le_of_ble_eq_true rfl) rfl (ab_rvOf w0 rfl) e3 (by decide) rfl ?_
          refine E_istore_n (L2 := [some (.ref 0), some (.int (nI a1k)), some (.int (nI 3)), none]) rfl rfl ?_
          refine E_iload_n rfl rfl ?_
          refine E_if (t := 16) (b := false) rfl rfl (by decide) ?_
          refine E_aload_n rfl rfl ?_
          refine E_iload_n rfl rfl ?_
          refine E_callV (v := some (.int (-3))) (As := [.ref 0, .int (nI 3)]) (r0 := []) (cs2 := (ww im lf s d k ls rf rz ra rn rq lt m1 m2 m3 m4 bd (fc.set 3 ((fc.getD 3 0) + (nI 1))) hd sz el s g fm hm so si sh ce ca td wa kp la bf oo bo pw ow tr)) rfl rfl rfl (Nat.le_of_ble_eq_true rfl) rfl (ab_rvOf w0 rfl) (L52_X5_refuse (by omega)) (by decide) w_lens ?_
          exact E_iret rfl rfl
        · show Ev ab_Z0 4 165 [.ref 65, .int (nI a1k)] (ww im lf s d k ls rf rz ra rn rq lt m1 m2 m3 m4 bd (fc.set 3 ((fc.getD 3 0) + (nI 1))) hd sz el s g fm hm so si sh ce ca td wa kp la bf oo bo pw ow tr) (some (.int (-3)), (ww im lf s d k ls rf rz ra rn rq lt m1 m2 m3 m4 bd (fc.set 3 ((fc.getD 3 0) + (nI 1))) hd sz el s g (fm.set 3 ((fm.getD 3 0) + (nI 1))) hm so si sh ce ca td wa kp la bf oo bo pw ow tr))
          refine Ef.in (md := mX6_square) (L := [some (.ref 65), some (.int (nI a1k)), none, none, none]) rfl (Nat.le_of_ble_eq_true rfl) rfl ?_
          refine E_aload_n rfl rfl ?_
          refine E_iload_n rfl rfl ?_
          have e4 : Ev ab_Z0 2 142 [.ref 65, .int (nI a1k)] (ww im lf s d k ls rf rz ra rn rq lt m1 m2 m3 m4 bd (fc.set 3 ((fc.getD 3 0) + (nI 1))) hd sz el s g fm hm so si sh ce ca td wa kp la bf oo bo pw ow tr) (some (.int (-3)), (ww im lf s d k ls rf rz ra rn rq lt m1 m2 m3 m4 bd (fc.set 3 ((fc.getD 3 0) + (nI 1))) hd sz el s g fm hm so si sh ce ca td wa kp la bf oo bo pw ow tr)) := by
            refine Ef.in (md := mX6_wanted) (L := [some (.ref 65), some (.int (nI a1k))]) rfl (Nat.le_of_ble_eq_true rfl) rfl ?_
            refine E_aload_n rfl rfl ?_
            refine E_iload_n rfl rfl ?_
            refine E_callV (v := some (.int (nI 1))) (As := [.ref 65, .int (nI a1k)]) (r0 := []) (cs2 := (ww im lf s d k ls rf rz ra rn rq lt m1 m2 m3 m4 bd (fc.set 3 ((fc.getD 3 0) + (nI 1))) hd sz el s g fm hm so si sh ce ca td wa kp la bf oo bo pw ow tr)) rfl rfl rfl (Nat.le_of_ble_eq_true rfl) rfl (ab_rvOf w65 rfl) (L40_X6_isShelf (by omega) (by omega) (by omega)) (by decide) rfl ?_
            refine E_if (t := 12) (b := true) rfl rfl (by decide) ?_
            refine E_aload_n rfl rfl ?_
            refine E_getfield (v := .ref 76) rfl w65 rfl (by decide) rfl ?_
            refine E_iload_n rfl rfl ?_
            refine E_ialN (l := hm) (v := hm.getD a1k 0) rfl w76 (by omega) (by omega) rfl ?_
            refine E_iconst (x := nI 2) rfl (by decide) ?_
            refine E_ic (t := 27) (b := true) rfl rfl ((cn_ne (nI_toInt (by omega)) (nI_toInt (by omega))).trans (decide_eq_true (by omega))) ?_
            refine E_aload_n rfl rfl ?_
            refine E_getfield (v := .ref 76) rfl w65 rfl (by decide) rfl ?_
            refine E_iload_n rfl rfl ?_
            refine E_ialN (l := hm) (v := hm.getD a1k 0) rfl w76 (by omega) (by omega) rfl ?_
            refine E_if (t := 41) (b := false) rfl rfl ((cn_ne (nI_toInt (by omega)) (by decide : (0 : Int32).toInt = 0)).trans (decide_eq_false (by omega))) ?_
            refine E_bipush (x := (-3)) rfl (by decide) ?_
            refine E_goto (t := 42) rfl rfl ?_
            exact E_iret rfl rfl
          refine E_callV (v := some (.int (-3))) (As := [.ref 65, .int (nI a1k)]) (r0 := []) (cs2 := (ww im lf s d k ls rf rz ra rn rq lt m1 m2 m3 m4 bd (fc.set 3 ((fc.getD 3 0) + (nI 1))) hd sz el s g fm hm so si sh ce ca td wa kp la bf oo bo pw ow tr)) rfl rfl rfl (Nat.le_of_ble_eq_true rfl) rfl (ab_rvOf w65 rfl) e4 (by decide) rfl ?_
          refine E_istore_n (L2 := [some (.ref 65), some (.int (nI a1k)), some (.int (-3)), none, none]) rfl rfl ?_
          refine E_iload_n rfl rfl ?_
          refine E_if (t := 16) (b := false) rfl rfl (by decide) ?_
          refine E_aload_n rfl rfl ?_
          refine E_iload_n rfl rfl ?_
          refine E_callV (v := some (.int (-3))) (As := [.ref 65, .int (-3)]) (r0 := []) (cs2 := (ww im lf s d k ls rf rz ra rn rq lt m1 m2 m3 m4 bd (fc.set 3 ((fc.getD 3 0) + (nI 1))) hd sz el s g (fm.set 3 ((fm.getD 3 0) + (nI 1))) hm so si sh ce ca td wa kp la bf oo bo pw ow tr)) rfl rfl rfl (Nat.le_of_ble_eq_true rfl) rfl (ab_rvOf w65 rfl) (L53_X6_no (by omega)) (by decide) w_lens ?_
          exact E_iret rfl rfl
        · exact ⟨I, rfl, hf, ⟨⟨d0, d1, d2, d3, d4, d5, d6, d7, d8⟩, ⟨k0, k1, k2, k3, k4, k5, k6, k7, k8⟩, ⟨r0, r1, r2, r3, r4, r5, r6, r7, r8⟩⟩, iM, iT, iS, l_el, (lr.1), (lr.2.1), (lr.2.2.1), (by simp only [List.length_set]; exact (lr.2.2.2.1)), (by simp only [List.length_set]; exact (lr.2.2.2.2.1)), (lr.2.2.2.2.2.1), (lr.2.2.2.2.2.2.1), (lr.2.2.2.2.2.2.2.1), (lr.2.2.2.2.2.2.2.2.1), (lr.2.2.2.2.2.2.2.2.2.1), (lr.2.2.2.2.2.2.2.2.2.2.1), (lr.2.2.2.2.2.2.2.2.2.2.2.1), (lr.2.2.2.2.2.2.2.2.2.2.2.2.1), (lr.2.2.2.2.2.2.2.2.2.2.2.2.2.1), (lr.2.2.2.2.2.2.2.2.2.2.2.2.2.2.1), (lr.2.2.2.2.2.2.2.2.2.2.2.2.2.2.2.1), (lr.2.2.2.2.2.2.2.2.2.2.2.2.2.2.2.2.1), (lr.2.2.2.2.2.2.2.2.2.2.2.2.2.2.2.2.2.1), (lr.2.2.2.2.2.2.2.2.2.2.2.2.2.2.2.2.2.2.1), (lr.2.2.2.2.2.2.2.2.2.2.2.2.2.2.2.2.2.2.2.1), (lr.2.2.2.2.2.2.2.2.2.2.2.2.2.2.2.2.2.2.2.2)⟩
      · refine ⟨(-2), (im, lf, s, d, k, ls, rf, rz, ra, rn, rq, lt, m1, m2, m3, m4, bd, (fc.set 2 ((fc.getD 2 0) + (nI 1))), hd, sz, el, s, g, fm, hm, so, si, sh, ce, ca, td, wa, kp, la, bf, oo, bo, pw, ow, tr), (im, lf, s, d, k, ls, rf, rz, ra, rn, rq, lt, m1, m2, m3, m4, bd, (fc.set 2 ((fc.getD 2 0) + (nI 1))), hd, sz, el, s, g, (fm.set 2 ((fm.getD 2 0) + (nI 1))), hm, so, si, sh, ce, ca, td, wa, kp, la, bf, oo, bo, pw, ow, tr), ?_, ?_, ?_⟩
        · show Ev ab_Z0 7 90 [.ref 0, .int (nI a1k)] (ww im lf s d k ls rf rz ra rn rq lt m1 m2 m3 m4 bd fc hd sz el s g fm hm so si sh ce ca td wa kp la bf oo bo pw ow tr) (some (.int (-2)), (ww im lf s d k ls rf rz ra rn rq lt m1 m2 m3 m4 bd (fc.set 2 ((fc.getD 2 0) + (nI 1))) hd sz el s g fm hm so si sh ce ca td wa kp la bf oo bo pw ow tr))
          refine Ef.in (md := mX5_square) (L := [some (.ref 0), some (.int (nI a1k)), none, none]) rfl (Nat.le_of_ble_eq_true rfl) rfl ?_
          refine E_aload_n rfl rfl ?_
          refine E_iload_n rfl rfl ?_
          have e2 : Ev ab_Z0 2 119 [.ref 0, .int (nI a1k)] (ww im lf s d k ls rf rz ra rn rq lt m1 m2 m3 m4 bd fc hd sz el s g fm hm so si sh ce ca td wa kp la bf oo bo pw ow tr) (some (.int (nI 2)), (ww im lf s d k ls rf rz ra rn rq lt m1 m2 m3 m4 bd fc hd sz el s g fm hm so si sh ce ca td wa kp la bf oo bo pw ow tr)) := by
            refine Ef.in (md := mX5_whyNoRow) (L := [some (.ref 0), some (.int (nI a1k))]) rfl (Nat.le_of_ble_eq_true rfl) rfl ?_
            refine E_iload_n rfl rfl ?_
            refine E_callS (v := some (.int (nI 1))) (As := [.int (nI a1k)]) (r0 := []) (cs2 := (ww im lf s d k ls rf rz ra rn rq lt m1 m2 m3 m4 bd fc hd sz el s g fm hm so si sh ce ca td wa kp la bf oo bo pw ow tr)) rfl rfl rfl (Nat.le_of_ble_eq_true rfl) rfl (L39_X5_isShelf (by omega) (by omega) (by omega)) (by decide) rfl ?_
            refine E_if (t := 9) (b := true) rfl rfl (by decide) ?_
            refine E_aload_n rfl rfl ?_
            refine E_getfield (v := .ref 31) rfl w0 rfl (by decide) rfl ?_
            refine E_iload_n rfl rfl ?_
            refine E_aalN (b := 49 + 2 * a1k) rfl w31 (by omega) (w_shs (by omega)) ?_
            have e1 : Ev ab_Z0 1 33 [.ref (49 + 2 * a1k)] (ww im lf s d k ls rf rz ra rn rq lt m1 m2 m3 m4 bd fc hd sz el s g fm hm so si sh ce ca td wa kp la bf oo bo pw ow tr) (some (.int (nI 1)), (ww im lf s d k ls rf rz ra rn rq lt m1 m2 m3 m4 bd fc hd sz el s g fm hm so si sh ce ca td wa kp la bf oo bo pw ow tr)) := by
              refine Ef.in (md := mX3_isOtherThanRow) (L := [some (.ref (49 + 2 * a1k))]) rfl (Nat.le_of_ble_eq_true rfl) rfl ?_
              refine E_aload_n rfl rfl ?_
              refine E_getfield (v := .int (nI xq)) rfl (w_shv (j := a1k) (by omega) u2 u3) rfl (by decide) rfl ?_
              refine E_if (t := 20) (b := false) rfl rfl ((cn_lt (nI_toInt (by omega)) (by decide : (0 : Int32).toInt = 0)).trans (decide_eq_false (by omega))) ?_
              refine E_aload_n rfl rfl ?_
              refine E_getfield (v := .int (nI xq)) rfl (w_shv (j := a1k) (by omega) u2 u3) rfl (by decide) rfl ?_
              refine E_bipush (x := nI 100) rfl (by decide) ?_
              refine E_ic (t := 20) (b := false) rfl rfl ((cn_ge (nI_toInt (by omega)) (nI_toInt (by omega))).trans (decide_eq_false (by omega))) ?_
              refine E_iconst (x := nI 1) rfl (by decide) ?_
              refine E_goto (t := 21) rfl rfl ?_
              exact E_iret rfl rfl
            refine E_callV (v := some (.int (nI 1))) (As := [.ref (49 + 2 * a1k)]) (r0 := []) (cs2 := (ww im lf s d k ls rf rz ra rn rq lt m1 m2 m3 m4 bd fc hd sz el s g fm hm so si sh ce ca td wa kp la bf oo bo pw ow tr)) rfl rfl rfl (Nat.le_of_ble_eq_true rfl) rfl (ab_rvOf (w_shv (j := a1k) (by omega) u2 u3) rfl) e1 (by decide) rfl ?_
            refine E_if (t := 23) (b := false) rfl rfl (by decide) ?_
            refine E_iconst (x := nI 2) rfl (by decide) ?_
            exact E_iret rfl rfl
          refine E_callV (v := some (.int (nI 2))) (As := [.ref 0, .int (nI a1k)]) (r0 := []) (cs2 := (ww im lf s d k ls rf rz ra rn rq lt m1 m2 m3 m4 bd fc hd sz el s g fm hm so si sh ce ca td wa kp la bf oo bo pw ow tr)) rfl rfl rfl (Nat.le_of_ble_eq_true rfl) rfl (ab_rvOf w0 rfl) e2 (by decide) rfl ?_
          refine E_istore_n (L2 := [some (.ref 0), some (.int (nI a1k)), some (.int (nI 2)), none]) rfl rfl ?_
          refine E_iload_n rfl rfl ?_
          refine E_if (t := 16) (b := false) rfl rfl (by decide) ?_
          refine E_aload_n rfl rfl ?_
          refine E_iload_n rfl rfl ?_
          refine E_callV (v := some (.int (-2))) (As := [.ref 0, .int (nI 2)]) (r0 := []) (cs2 := (ww im lf s d k ls rf rz ra rn rq lt m1 m2 m3 m4 bd (fc.set 2 ((fc.getD 2 0) + (nI 1))) hd sz el s g fm hm so si sh ce ca td wa kp la bf oo bo pw ow tr)) rfl rfl rfl (Nat.le_of_ble_eq_true rfl) rfl (ab_rvOf w0 rfl) (L55_X5_refuse (by omega)) (by decide) w_lens ?_
          exact E_iret rfl rfl
        · show Ev ab_Z0 4 165 [.ref 65, .int (nI a1k)] (ww im lf s d k ls rf rz ra rn rq lt m1 m2 m3 m4 bd (fc.set 2 ((fc.getD 2 0) + (nI 1))) hd sz el s g fm hm so si sh ce ca td wa kp la bf oo bo pw ow tr) (some (.int (-2)), (ww im lf s d k ls rf rz ra rn rq lt m1 m2 m3 m4 bd (fc.set 2 ((fc.getD 2 0) + (nI 1))) hd sz el s g (fm.set 2 ((fm.getD 2 0) + (nI 1))) hm so si sh ce ca td wa kp la bf oo bo pw ow tr))
          refine Ef.in (md := mX6_square) (L := [some (.ref 65), some (.int (nI a1k)), none, none, none]) rfl (Nat.le_of_ble_eq_true rfl) rfl ?_
          refine E_aload_n rfl rfl ?_
          refine E_iload_n rfl rfl ?_
          have e3 : Ev ab_Z0 2 142 [.ref 65, .int (nI a1k)] (ww im lf s d k ls rf rz ra rn rq lt m1 m2 m3 m4 bd (fc.set 2 ((fc.getD 2 0) + (nI 1))) hd sz el s g fm hm so si sh ce ca td wa kp la bf oo bo pw ow tr) (some (.int (-2)), (ww im lf s d k ls rf rz ra rn rq lt m1 m2 m3 m4 bd (fc.set 2 ((fc.getD 2 0) + (nI 1))) hd sz el s g fm hm so si sh ce ca td wa kp la bf oo bo pw ow tr)) := by
            refine Ef.in (md := mX6_wanted) (L := [some (.ref 65), some (.int (nI a1k))]) rfl (Nat.le_of_ble_eq_true rfl) rfl ?_
            refine E_aload_n rfl rfl ?_
            refine E_iload_n rfl rfl ?_
            refine E_callV (v := some (.int (nI 1))) (As := [.ref 65, .int (nI a1k)]) (r0 := []) (cs2 := (ww im lf s d k ls rf rz ra rn rq lt m1 m2 m3 m4 bd (fc.set 2 ((fc.getD 2 0) + (nI 1))) hd sz el s g fm hm so si sh ce ca td wa kp la bf oo bo pw ow tr)) rfl rfl rfl (Nat.le_of_ble_eq_true rfl) rfl (ab_rvOf w65 rfl) (L40_X6_isShelf (by omega) (by omega) (by omega)) (by decide) rfl ?_
            refine E_if (t := 12) (b := true) rfl rfl (by decide) ?_
            refine E_aload_n rfl rfl ?_
            refine E_getfield (v := .ref 76) rfl w65 rfl (by decide) rfl ?_
            refine E_iload_n rfl rfl ?_
            refine E_ialN (l := hm) (v := hm.getD a1k 0) rfl w76 (by omega) (by omega) rfl ?_
            refine E_iconst (x := nI 2) rfl (by decide) ?_
            refine E_ic (t := 27) (b := false) rfl rfl ((cn_ne (nI_toInt (by omega)) (nI_toInt (by omega))).trans (decide_eq_false (by omega))) ?_
            refine E_bipush (x := (-2)) rfl (by decide) ?_
            refine E_goto (t := 42) rfl rfl ?_
            exact E_iret rfl rfl
          refine E_callV (v := some (.int (-2))) (As := [.ref 65, .int (nI a1k)]) (r0 := []) (cs2 := (ww im lf s d k ls rf rz ra rn rq lt m1 m2 m3 m4 bd (fc.set 2 ((fc.getD 2 0) + (nI 1))) hd sz el s g fm hm so si sh ce ca td wa kp la bf oo bo pw ow tr)) rfl rfl rfl (Nat.le_of_ble_eq_true rfl) rfl (ab_rvOf w65 rfl) e3 (by decide) rfl ?_
          refine E_istore_n (L2 := [some (.ref 65), some (.int (nI a1k)), some (.int (-2)), none, none]) rfl rfl ?_
          refine E_iload_n rfl rfl ?_
          refine E_if (t := 16) (b := false) rfl rfl (by decide) ?_
          refine E_aload_n rfl rfl ?_
          refine E_iload_n rfl rfl ?_
          refine E_callV (v := some (.int (-2))) (As := [.ref 65, .int (-2)]) (r0 := []) (cs2 := (ww im lf s d k ls rf rz ra rn rq lt m1 m2 m3 m4 bd (fc.set 2 ((fc.getD 2 0) + (nI 1))) hd sz el s g (fm.set 2 ((fm.getD 2 0) + (nI 1))) hm so si sh ce ca td wa kp la bf oo bo pw ow tr)) rfl rfl rfl (Nat.le_of_ble_eq_true rfl) rfl (ab_rvOf w65 rfl) (L56_X6_no (by omega)) (by decide) w_lens ?_
          exact E_iret rfl rfl
        · exact ⟨I, rfl, hf, ⟨⟨d0, d1, d2, d3, d4, d5, d6, d7, d8⟩, ⟨k0, k1, k2, k3, k4, k5, k6, k7, k8⟩, ⟨r0, r1, r2, r3, r4, r5, r6, r7, r8⟩⟩, iM, iT, iS, l_el, (lr.1), (lr.2.1), (lr.2.2.1), (by simp only [List.length_set]; exact (lr.2.2.2.1)), (by simp only [List.length_set]; exact (lr.2.2.2.2.1)), (lr.2.2.2.2.2.1), (lr.2.2.2.2.2.2.1), (lr.2.2.2.2.2.2.2.1), (lr.2.2.2.2.2.2.2.2.1), (lr.2.2.2.2.2.2.2.2.2.1), (lr.2.2.2.2.2.2.2.2.2.2.1), (lr.2.2.2.2.2.2.2.2.2.2.2.1), (lr.2.2.2.2.2.2.2.2.2.2.2.2.1), (lr.2.2.2.2.2.2.2.2.2.2.2.2.2.1), (lr.2.2.2.2.2.2.2.2.2.2.2.2.2.2.1), (lr.2.2.2.2.2.2.2.2.2.2.2.2.2.2.2.1), (lr.2.2.2.2.2.2.2.2.2.2.2.2.2.2.2.2.1), (lr.2.2.2.2.2.2.2.2.2.2.2.2.2.2.2.2.2.1), (lr.2.2.2.2.2.2.2.2.2.2.2.2.2.2.2.2.2.2.1), (lr.2.2.2.2.2.2.2.2.2.2.2.2.2.2.2.2.2.2.2.1), (lr.2.2.2.2.2.2.2.2.2.2.2.2.2.2.2.2.2.2.2.2)⟩
      · rcases nat_opt (sqR (el a1k) (si.getD a1k 0) ((si.getD a1k 0) + 1) s 0 1).1 with hz | ⟨f, hz⟩
        · have hc9 := sqR_i (e := el a1k) (n := (si.getD a1k 0)) ((si.getD a1k 0) + 1) s 0 1
          obtain ⟨ra9, rn9, er9, hI9, hN9⟩ : ∃ (ra9 rn9 : Int32), Ev ab_Z0 6 14 [.ref 34, .ref (49 + 2 * a1k), .ref 1] (ww im lf s d k ls rf rz ra rn rq lt m1 m2 m3 m4 bd fc hd sz el s g fm hm so si sh ce ca td wa kp la bf oo bo pw ow tr) (some (.int (nI ((sqR (el a1k) (si.getD a1k 0) ((si.getD a1k 0) + 1) s 0 1).2.2))), (ww im lf s d k ls (-1) (nI (si.getD a1k 0)) ra9 rn9 ((sqR (el a1k) (si.getD a1k 0) ((si.getD a1k 0) + 1) s 0 1).2.1) (rdL (el a1k) lt (si.getD a1k 0)) m1 m2 m3 m4 bd fc hd sz el s g fm hm so si sh ce ca td wa kp la bf oo bo pw ow tr)) ∧ qI (sqR (el a1k) (si.getD a1k 0) ((si.getD a1k 0) + 1) s 0 1).2.1 ∧ qN s ≤ qN (sqR (el a1k) (si.getD a1k 0) ((si.getD a1k 0) + 1) s 0 1).2.1 := w_sqOK (by omega) u2 (by omega) (l_el _ (by omega)) (lr.2.1) I ⟨r0, r1, r2, r3, r4, r5, r6, r7, r8⟩ hz
          have hN8 : qN (sqR (el a1k) (si.getD a1k 0) ((si.getD a1k 0) + 1) s 0 1).2.1 ≤ 9 := hI9.2.2.1.1
          have hM8 : qM (sqR (el a1k) (si.getD a1k 0) ((si.getD a1k 0) + 1) s 0 1).2.1 ≤ 6 := hI9.2.2.1.2
          obtain ⟨z28, z30, z31, td9, K9, ltd9, -, hi9⟩ : ∃ (z28 z30 z31 : Int32) (td9 : List Int32), (∀ rr, Ef ab_Z0 3 mX6_square (133, [some (.ref 65), some (.int (nI a1k)), some (.int (nI 0)), some (.int (nI ((sqR (el a1k) (si.getD a1k 0) ((si.getD a1k 0) + 1) s 0 1).2.2))), some (.int (nI 1))], [], (ww im (-1) ((sqR (el a1k) (si.getD a1k 0) ((si.getD a1k 0) + 1) s 0 1).2.1) d k ls (-1) (nI (si.getD a1k 0)) ra9 rn9 ((sqR (el a1k) (si.getD a1k 0) ((si.getD a1k 0) + 1) s 0 1).2.1) (rdL (el a1k) lt (si.getD a1k 0)) m1 m2 m3 m4 bd fc hd sz el ((sqR (el a1k) (si.getD a1k 0) ((si.getD a1k 0) + 1) s 0 1).2.1) (fUp (fUp (fUp (fUp (fUp (fUp g 27 (nI (160 * a1k))) 29 (nI (si.getD a1k 0))) 6 (-1)) 28 z28) 30 z30) 31 z31) fm hm so si sh ce ca td9 (qFn s wa) kp la bf oo bo pw ow tr)) rr → Ef ab_Z0 3 mX6_square (56, [some (.ref 65), some (.int (nI a1k)), some (.int (nI 0)), some (.int (nI 1)), none], [], (ww im (-1) ((sqR (el a1k) (si.getD a1k 0) ((si.getD a1k 0) + 1) s 0 1).2.1) d k ls (-1) (nI (si.getD a1k 0)) ra9 rn9 ((sqR (el a1k) (si.getD a1k 0) ((si.getD a1k 0) + 1) s 0 1).2.1) (rdL (el a1k) lt (si.getD a1k 0)) m1 m2 m3 m4 bd fc hd sz el s (fUp (fUp (fUp (fUp g 27 (nI (160 * a1k))) 28 (nI 0)) 29 (nI (si.getD a1k 0))) 6 (-1)) fm hm so si sh ce ca td (qFn s wa) kp la bf oo bo pw ow tr)) rr) ∧ td9.length = 3 ∧ qI (sqR (el a1k) (si.getD a1k 0) ((si.getD a1k 0) + 1) s 0 1).2.1 ∧ (sqR (el a1k) (si.getD a1k 0) ((si.getD a1k 0) + 1) s 0 1).2.2 < 2147483648 := m_sqOK (by omega) (by omega) (lr.2.2.2.2.2.2.2.2.2.1) u6 I (lr.2.2.2.2.2.2.2.2.2.2.2.1) hz
          refine ⟨(nI ((sqR (el a1k) (si.getD a1k 0) ((si.getD a1k 0) + 1) s 0 1).2.2)), (im, (-1), ((sqR (el a1k) (si.getD a1k 0) ((si.getD a1k 0) + 1) s 0 1).2.1), d, k, ls, (-1), (nI (si.getD a1k 0)), ra9, rn9, ((sqR (el a1k) (si.getD a1k 0) ((si.getD a1k 0) + 1) s 0 1).2.1), (rdL (el a1k) lt (si.getD a1k 0)), m1, m2, m3, m4, bd, fc, hd, sz, el, s, g, fm, hm, so, si, sh, ce, ca, td, wa, kp, la, bf, oo, bo, pw, ow, tr), (im, (-1), ((sqR (el a1k) (si.getD a1k 0) ((si.getD a1k 0) + 1) s 0 1).2.1), d, k, ls, (-1), (nI (si.getD a1k 0)), ra9, rn9, ((sqR (el a1k) (si.getD a1k 0) ((si.getD a1k 0) + 1) s 0 1).2.1), (rdL (el a1k) lt (si.getD a1k 0)), m1, m2, m3, m4, bd, fc, hd, sz, el, ((sqR (el a1k) (si.getD a1k 0) ((si.getD a1k 0) + 1) s 0 1).2.1), (fUp (fUp (fUp (fUp (fUp (fUp g 27 (nI (160 * a1k))) 29 (nI (si.getD a1k 0))) 6 (-1)) 28 z28) 30 z30) 31 z31), fm, hm, so, si, sh, ce, ca, td9, (qFn s wa), kp, la, bf, oo, bo, pw, ow, tr), ?_, ?_, ?_⟩
          · show Ev ab_Z0 7 90 [.ref 0, .int (nI a1k)] (ww im lf s d k ls rf rz ra rn rq lt m1 m2 m3 m4 bd fc hd sz el s g fm hm so si sh ce ca td wa kp la bf oo bo pw ow tr) (some (.int (nI ((sqR (el a1k) (si.getD a1k 0) ((si.getD a1k 0) + 1) s 0 1).2.2))), (ww im (-1) ((sqR (el a1k) (si.getD a1k 0) ((si.getD a1k 0) + 1) s 0 1).2.1) d k ls (-1) (nI (si.getD a1k 0)) ra9 rn9 ((sqR (el a1k) (si.getD a1k 0) ((si.getD a1k 0) + 1) s 0 1).2.1) (rdL (el a1k) lt (si.getD a1k 0)) m1 m2 m3 m4 bd fc hd sz el s g fm hm so si sh ce ca td wa kp la bf oo bo pw ow tr))
            refine Ef.in (md := mX5_square) (L := [some (.ref 0), some (.int (nI a1k)), none, none]) rfl (Nat.le_of_ble_eq_true rfl) rfl ?_
            refine E_aload_n rfl rfl ?_
            refine E_iload_n rfl rfl ?_
            have e3 : Ev ab_Z0 2 119 [.ref 0, .int (nI a1k)] (ww im lf s d k ls rf rz ra rn rq lt m1 m2 m3 m4 bd fc hd sz el s g fm hm so si sh ce ca td wa kp la bf oo bo pw ow tr) (some (.int (nI 0)), (ww im lf s d k ls rf rz ra rn rq lt m1 m2 m3 m4 bd fc hd sz el s g fm hm so si sh ce ca td wa kp la bf oo bo pw ow tr)) := by
              refine Ef.in (md := mX5_whyNoRow) (L := [some (.ref 0), some (.int (nI a1k))]) rfl (Nat.le_of_ble_eq_true rfl) rfl ?_
              refine E_iload_n rfl rfl ?_
              refine E_callS (v := some (.int (nI 1))) (As := [.int (nI a1k)]) (r0 := []) (cs2 := (ww im lf s d k ls rf rz ra rn rq lt m1 m2 m3 m4 bd fc hd sz el s g fm hm so si sh ce ca td wa kp la bf oo bo pw ow tr)) rfl rfl rfl (Nat.le_of_ble_eq_true rfl) rfl (L39_X5_isShelf (by omega) (by omega) (by omega)) (by decide) rfl ?_
              refine E_if (t := 9) (b := true) rfl rfl (by decide) ?_
              refine E_aload_n rfl rfl ?_
              refine E_getfield (v := .ref 31) rfl w0 rfl (by decide) rfl ?_
              refine E_iload_n rfl rfl ?_
              refine E_aalN (b := 49 + 2 * a1k) rfl w31 (by omega) (w_shs (by omega)) ?_
              have e1 : Ev ab_Z0 1 33 [.ref (49 + 2 * a1k)] (ww im lf s d k ls rf rz ra rn rq lt m1 m2 m3 m4 bd fc hd sz el s g fm hm so si sh ce ca td wa kp la bf oo bo pw ow tr) (some (.int (nI 0)), (ww im lf s d k ls rf rz ra rn rq lt m1 m2 m3 m4 bd fc hd sz el s g fm hm so si sh ce ca td wa kp la bf oo bo pw ow tr)) := by
                refine Ef.in (md := mX3_isOtherThanRow) (L := [some (.ref (49 + 2 * a1k))]) rfl (Nat.le_of_ble_eq_true rfl) rfl ?_
                refine E_aload_n rfl rfl ?_
                refine E_getfield (v := .int (nI (100 + so.getD a1k 0))) rfl (w_shv (j := a1k) (by omega) u1 u2) rfl (by decide) rfl ?_
                refine E_if (t := 20) (b := false) rfl rfl ((cn_lt (nI_toInt (by omega)) (by decide : (0 : Int32).toInt = 0)).trans (decide_eq_false (by omega))) ?_
                refine E_aload_n rfl rfl ?_
                refine E_getfield (v := .int (nI (100 + so.getD a1k 0))) rfl (w_shv (j := a1k) (by omega) u1 u2) rfl (by decide) rfl ?_
                refine E_bipush (x := nI 100) rfl (by decide) ?_
                refine E_ic (t := 20) (b := true) rfl rfl ((cn_ge (nI_toInt (by omega)) (nI_toInt (by omega))).trans (decide_eq_true (by omega))) ?_
                refine E_iconst (x := nI 0) rfl (by decide) ?_
                exact E_iret rfl rfl
              refine E_callV (v := some (.int (nI 0))) (As := [.ref (49 + 2 * a1k)]) (r0 := []) (cs2 := (ww im lf s d k ls rf rz ra rn rq lt m1 m2 m3 m4 bd fc hd sz el s g fm hm so si sh ce ca td wa kp la bf oo bo pw ow tr)) rfl rfl rfl (Nat.le_of_ble_eq_true rfl) rfl (ab_rvOf (w_shv (j := a1k) (by omega) u1 u2) rfl) e1 (by decide) rfl ?_
              refine E_if (t := 23) (b := true) rfl rfl (by decide) ?_
              refine E_aload_n rfl rfl ?_
              refine E_getfield (v := .ref 31) rfl w0 rfl (by decide) rfl ?_
              refine E_iload_n rfl rfl ?_
              refine E_aalN (b := 49 + 2 * a1k) rfl w31 (by omega) (w_shs (by omega)) ?_
              have e2 : Ev ab_Z0 1 32 [.ref (49 + 2 * a1k)] (ww im lf s d k ls rf rz ra rn rq lt m1 m2 m3 m4 bd fc hd sz el s g fm hm so si sh ce ca td wa kp la bf oo bo pw ow tr) (some (.int (nI 0)), (ww im lf s d k ls rf rz ra rn rq lt m1 m2 m3 m4 bd fc hd sz el s g fm hm so si sh ce ca td wa kp la bf oo bo pw ow tr)) := by
                refine Ef.in (md := mX3_isEmpty) (L := [some (.ref (49 + 2 * a1k))]) rfl (Nat.le_of_ble_eq_true rfl) rfl ?_
                refine E_aload_n rfl rfl ?_
                refine E_getfield (v := .int (nI (100 + so.getD a1k 0))) rfl (w_shv (j := a1k) (by omega) u1 u2) rfl (by decide) rfl ?_
                refine E_iconst (x := (-1)) rfl (by decide) ?_
                refine E_ic (t := 12) (b := true) rfl rfl ((cn_ne (nI_toInt (by omega)) (by decide : (-1 : Int32).toInt = -1)).trans (decide_eq_true (by omega))) ?_
                refine E_iconst (x := nI 0) rfl (by decide) ?_
                exact E_iret rfl rfl
              refine E_callV (v := some (.int (nI 0))) (As := [.ref (49 + 2 * a1k)]) (r0 := []) (cs2 := (ww im lf s d k ls rf rz ra rn rq lt m1 m2 m3 m4 bd fc hd sz el s g fm hm so si sh ce ca td wa kp la bf oo bo pw ow tr)) rfl rfl rfl (Nat.le_of_ble_eq_true rfl) rfl (ab_rvOf (w_shv (j := a1k) (by omega) u1 u2) rfl) e2 (by decide) rfl ?_
              refine E_if (t := 39) (b := true) rfl rfl (by decide) ?_
              refine E_iconst (x := nI 0) rfl (by decide) ?_
              exact E_iret rfl rfl
            refine E_callV (v := some (.int (nI 0))) (As := [.ref 0, .int (nI a1k)]) (r0 := []) (cs2 := (ww im lf s d k ls rf rz ra rn rq lt m1 m2 m3 m4 bd fc hd sz el s g fm hm so si sh ce ca td wa kp la bf oo bo pw ow tr)) rfl rfl rfl (Nat.le_of_ble_eq_true rfl) rfl (ab_rvOf w0 rfl) e3 (by decide) rfl ?_
            refine E_istore_n (L2 := [some (.ref 0), some (.int (nI a1k)), some (.int (nI 0)), none]) rfl rfl ?_
            refine E_iload_n rfl rfl ?_
            refine E_if (t := 16) (b := true) rfl rfl (by decide) ?_
            refine E_aload_n rfl rfl ?_
            refine E_getfield (v := .ref 34) rfl w0 rfl (by decide) rfl ?_
            refine E_aload_n rfl rfl ?_
            refine E_getfield (v := .ref 31) rfl w0 rfl (by decide) rfl ?_
            refine E_iload_n rfl rfl ?_
            refine E_aalN (b := 49 + 2 * a1k) rfl w31 (by omega) (w_shs (by omega)) ?_
            refine E_aload_n rfl rfl ?_
            refine E_getfield (v := .ref 1) rfl w0 rfl (by decide) rfl ?_
            refine E_callV (v := some (.int (nI ((sqR (el a1k) (si.getD a1k 0) ((si.getD a1k 0) + 1) s 0 1).2.2)))) (As := [.ref 34, .ref (49 + 2 * a1k), .ref 1]) (r0 := []) (cs2 := (ww im lf s d k ls (-1) (nI (si.getD a1k 0)) ra9 rn9 ((sqR (el a1k) (si.getD a1k 0) ((si.getD a1k 0) + 1) s 0 1).2.1) (rdL (el a1k) lt (si.getD a1k 0)) m1 m2 m3 m4 bd fc hd sz el s g fm hm so si sh ce ca td wa kp la bf oo bo pw ow tr)) rfl rfl rfl (Nat.le_of_ble_eq_true rfl) rfl (ab_rvOf w34 rfl) er9 (by decide) w_lens ?_
            refine E_istore_n (L2 := [some (.ref 0), some (.int (nI a1k)), some (.int (nI 0)), some (.int (nI ((sqR (el a1k) (si.getD a1k 0) ((si.getD a1k 0) + 1) s 0 1).2.2)))]) rfl rfl ?_
            refine E_aload_n rfl rfl ?_
            refine E_aload_n rfl rfl ?_
            refine E_getfield (v := .ref 34) rfl w0 rfl (by decide) rfl ?_
            refine E_getfield (v := .int (-1)) rfl w34 rfl (by decide) rfl ?_
            refine E_putfield (cs2 := (ww im (-1) s d k ls (-1) (nI (si.getD a1k 0)) ra9 rn9 ((sqR (el a1k) (si.getD a1k 0) ((si.getD a1k 0) + 1) s 0 1).2.1) (rdL (el a1k) lt (si.getD a1k 0)) m1 m2 m3 m4 bd fc hd sz el s g fm hm so si sh ce ca td wa kp la bf oo bo pw ow tr)) rfl w0 rfl (by decide) (Nat.le_of_ble_eq_true rfl) rfl rfl rfl rfl ?_
            refine E_iload_n rfl rfl ?_
            refine E_iconst (x := (-1)) rfl (by decide) ?_
            refine E_ic (t := 57) (b := true) rfl rfl ((cn_ne (nI_toInt (by omega)) (by decide : (-1 : Int32).toInt = -1)).trans (decide_eq_true (by omega))) ?_
            refine E_aload_n rfl rfl ?_
            refine E_getfield (v := .ref 1) rfl w0 rfl (by decide) rfl ?_
            refine E_aload_n rfl rfl ?_
            refine E_getfield (v := .ref 34) rfl w0 rfl (by decide) rfl ?_
            refine E_getfield (v := .ref 35) rfl w34 rfl (by decide) rfl ?_
            refine E_callV (v := none) (As := [.ref 1, .ref 35]) (r0 := []) (cs2 := (ww im (-1) ((sqR (el a1k) (si.getD a1k 0) ((si.getD a1k 0) + 1) s 0 1).2.1) d k ls (-1) (nI (si.getD a1k 0)) ra9 rn9 ((sqR (el a1k) (si.getD a1k 0) ((si.getD a1k 0) + 1) s 0 1).2.1) (rdL (el a1k) lt (si.getD a1k 0)) m1 m2 m3 m4 bd fc hd sz el s g fm hm so si sh ce ca td wa kp la bf oo bo pw ow tr)) rfl rfl rfl (Nat.le_of_ble_eq_true rfl) rfl (ab_rvOf w1 rfl) (tk_1_35 I.ln hI9.ln) (by decide) w_lens ?_
            refine E_iload_n rfl rfl ?_
            exact E_iret rfl rfl
          · show Ev ab_Z0 4 165 [.ref 65, .int (nI a1k)] (ww im (-1) ((sqR (el a1k) (si.getD a1k 0) ((si.getD a1k 0) + 1) s 0 1).2.1) d k ls (-1) (nI (si.getD a1k 0)) ra9 rn9 ((sqR (el a1k) (si.getD a1k 0) ((si.getD a1k 0) + 1) s 0 1).2.1) (rdL (el a1k) lt (si.getD a1k 0)) m1 m2 m3 m4 bd fc hd sz el s g fm hm so si sh ce ca td wa kp la bf oo bo pw ow tr) (some (.int (nI ((sqR (el a1k) (si.getD a1k 0) ((si.getD a1k 0) + 1) s 0 1).2.2))), (ww im (-1) ((sqR (el a1k) (si.getD a1k 0) ((si.getD a1k 0) + 1) s 0 1).2.1) d k ls (-1) (nI (si.getD a1k 0)) ra9 rn9 ((sqR (el a1k) (si.getD a1k 0) ((si.getD a1k 0) + 1) s 0 1).2.1) (rdL (el a1k) lt (si.getD a1k 0)) m1 m2 m3 m4 bd fc hd sz el ((sqR (el a1k) (si.getD a1k 0) ((si.getD a1k 0) + 1) s 0 1).2.1) (fUp (fUp (fUp (fUp (fUp (fUp g 27 (nI (160 * a1k))) 29 (nI (si.getD a1k 0))) 6 (-1)) 28 z28) 30 z30) 31 z31) fm hm so si sh ce ca td9 (qFn s wa) kp la bf oo bo pw ow tr))
            refine Ef.in (md := mX6_square) (L := [some (.ref 65), some (.int (nI a1k)), none, none, none]) rfl (Nat.le_of_ble_eq_true rfl) rfl ?_
            refine E_aload_n rfl rfl ?_
            refine E_iload_n rfl rfl ?_
            have e4 : Ev ab_Z0 2 142 [.ref 65, .int (nI a1k)] (ww im (-1) ((sqR (el a1k) (si.getD a1k 0) ((si.getD a1k 0) + 1) s 0 1).2.1) d k ls (-1) (nI (si.getD a1k 0)) ra9 rn9 ((sqR (el a1k) (si.getD a1k 0) ((si.getD a1k 0) + 1) s 0 1).2.1) (rdL (el a1k) lt (si.getD a1k 0)) m1 m2 m3 m4 bd fc hd sz el s g fm hm so si sh ce ca td wa kp la bf oo bo pw ow tr) (some (.int (nI 0)), (ww im (-1) ((sqR (el a1k) (si.getD a1k 0) ((si.getD a1k 0) + 1) s 0 1).2.1) d k ls (-1) (nI (si.getD a1k 0)) ra9 rn9 ((sqR (el a1k) (si.getD a1k 0) ((si.getD a1k 0) + 1) s 0 1).2.1) (rdL (el a1k) lt (si.getD a1k 0)) m1 m2 m3 m4 bd fc hd sz el s g fm hm so si sh ce ca td wa kp la bf oo bo pw ow tr)) := by
              refine Ef.in (md := mX6_wanted) (L := [some (.ref 65), some (.int (nI a1k))]) rfl (Nat.le_of_ble_eq_true rfl) rfl ?_
              refine E_aload_n rfl rfl ?_
              refine E_iload_n rfl rfl ?_
              refine E_callV (v := some (.int (nI 1))) (As := [.ref 65, .int (nI a1k)]) (r0 := []) (cs2 := (ww im (-1) ((sqR (el a1k) (si.getD a1k 0) ((si.getD a1k 0) + 1) s 0 1).2.1) d k ls (-1) (nI (si.getD a1k 0)) ra9 rn9 ((sqR (el a1k) (si.getD a1k 0) ((si.getD a1k 0) + 1) s 0 1).2.1) (rdL (el a1k) lt (si.getD a1k 0)) m1 m2 m3 m4 bd fc hd sz el s g fm hm so si sh ce ca td wa kp la bf oo bo pw ow tr)) rfl rfl rfl (Nat.le_of_ble_eq_true rfl) rfl (ab_rvOf w65 rfl) (L40_X6_isShelf (by omega) (by omega) (by omega)) (by decide) rfl ?_
              refine E_if (t := 12) (b := true) rfl rfl (by decide) ?_
              refine E_aload_n rfl rfl ?_
              refine E_getfield (v := .ref 76) rfl w65 rfl (by decide) rfl ?_
              refine E_iload_n rfl rfl ?_
              refine E_ialN (l := hm) (v := hm.getD a1k 0) rfl w76 (by omega) (by omega) rfl ?_
              refine E_iconst (x := nI 2) rfl (by decide) ?_
              refine E_ic (t := 27) (b := true) rfl rfl ((cn_ne (nI_toInt (by omega)) (nI_toInt (by omega))).trans (decide_eq_true (by omega))) ?_
              refine E_aload_n rfl rfl ?_
              refine E_getfield (v := .ref 76) rfl w65 rfl (by decide) rfl ?_
              refine E_iload_n rfl rfl ?_
              refine E_ialN (l := hm) (v := hm.getD a1k 0) rfl w76 (by omega) (by omega) rfl ?_
              refine E_if (t := 41) (b := true) rfl rfl ((cn_ne (nI_toInt (by omega)) (by decide : (0 : Int32).toInt = 0)).trans (decide_eq_true (by omega))) ?_
              refine E_iconst (x := nI 0) rfl (by decide) ?_
              exact E_iret rfl rfl
            refine E_callV (v := some (.int (nI 0))) (As := [.ref 65, .int (nI a1k)]) (r0 := []) (cs2 := (ww im (-1) ((sqR (el a1k) (si.getD a1k 0) ((si.getD a1k 0) + 1) s 0 1).2.1) d k ls (-1) (nI (si.getD a1k 0)) ra9 rn9 ((sqR (el a1k) (si.getD a1k 0) ((si.getD a1k 0) + 1) s 0 1).2.1) (rdL (el a1k) lt (si.getD a1k 0)) m1 m2 m3 m4 bd fc hd sz el s g fm hm so si sh ce ca td wa kp la bf oo bo pw ow tr)) rfl rfl rfl (Nat.le_of_ble_eq_true rfl) rfl (ab_rvOf w65 rfl) e4 (by decide) rfl ?_
            refine E_istore_n (L2 := [some (.ref 65), some (.int (nI a1k)), some (.int (nI 0)), none, none]) rfl rfl ?_
            refine E_iload_n rfl rfl ?_
            refine E_if (t := 16) (b := true) rfl rfl (by decide) ?_
            refine E_aload_n rfl rfl ?_
            refine E_aload_n rfl rfl ?_
            refine E_getfield (v := .ref 86) rfl w65 rfl (by decide) rfl ?_
            refine E_iconst (x := nI 0) rfl (by decide) ?_
            refine E_callV (v := none) (As := [.ref 65, .ref 86, .int (nI 0)]) (r0 := []) (cs2 := (ww im (-1) ((sqR (el a1k) (si.getD a1k 0) ((si.getD a1k 0) + 1) s 0 1).2.1) d k ls (-1) (nI (si.getD a1k 0)) ra9 rn9 ((sqR (el a1k) (si.getD a1k 0) ((si.getD a1k 0) + 1) s 0 1).2.1) (rdL (el a1k) lt (si.getD a1k 0)) m1 m2 m3 m4 bd fc hd sz el s g fm hm so si sh ce ca td (qFn s wa) kp la bf oo bo pw ow tr)) rfl rfl rfl (Nat.le_of_ble_eq_true rfl) rfl (ab_rvOf w65 rfl) (m_allO_86 I.ln (lr.2.2.2.2.2.2.2.2.2.2.2.2.1)) (by decide) w_lens ?_
            refine E_aload_n rfl rfl ?_
            refine E_sipush (x := nI 160) rfl (by decide) ?_
            refine E_iload_n rfl rfl ?_
            refine E_imul (z := nI (160 * a1k)) rfl (pk_mul _ _) ?_
            refine E_putfield (cs2 := (ww im (-1) ((sqR (el a1k) (si.getD a1k 0) ((si.getD a1k 0) + 1) s 0 1).2.1) d k ls (-1) (nI (si.getD a1k 0)) ra9 rn9 ((sqR (el a1k) (si.getD a1k 0) ((si.getD a1k 0) + 1) s 0 1).2.1) (rdL (el a1k) lt (si.getD a1k 0)) m1 m2 m3 m4 bd fc hd sz el s (fUp g 27 (nI (160 * a1k))) fm hm so si sh ce ca td (qFn s wa) kp la bf oo bo pw ow tr)) rfl w65 rfl (by decide) (Nat.le_of_ble_eq_true rfl) rfl rfl rfl w_pt65_27 ?_
            refine E_aload_n rfl rfl ?_
            refine E_iconst (x := nI 0) rfl (by decide) ?_
            refine E_putfield (cs2 := (ww im (-1) ((sqR (el a1k) (si.getD a1k 0) ((si.getD a1k 0) + 1) s 0 1).2.1) d k ls (-1) (nI (si.getD a1k 0)) ra9 rn9 ((sqR (el a1k) (si.getD a1k 0) ((si.getD a1k 0) + 1) s 0 1).2.1) (rdL (el a1k) lt (si.getD a1k 0)) m1 m2 m3 m4 bd fc hd sz el s (fUp (fUp g 27 (nI (160 * a1k))) 28 (nI 0)) fm hm so si sh ce ca td (qFn s wa) kp la bf oo bo pw ow tr)) rfl w65 rfl (by decide) (Nat.le_of_ble_eq_true rfl) rfl rfl rfl w_pt65_28 ?_
            refine E_aload_n rfl rfl ?_
            refine E_aload_n rfl rfl ?_
            refine E_getfield (v := .ref 78) rfl w65 rfl (by decide) rfl ?_
            refine E_iload_n rfl rfl ?_
            refine E_ialN (l := si) (v := si.getD a1k 0) rfl w78 (by omega) (by omega) rfl ?_
            refine E_putfield (cs2 := (ww im (-1) ((sqR (el a1k) (si.getD a1k 0) ((si.getD a1k 0) + 1) s 0 1).2.1) d k ls (-1) (nI (si.getD a1k 0)) ra9 rn9 ((sqR (el a1k) (si.getD a1k 0) ((si.getD a1k 0) + 1) s 0 1).2.1) (rdL (el a1k) lt (si.getD a1k 0)) m1 m2 m3 m4 bd fc hd sz el s (fUp (fUp (fUp g 27 (nI (160 * a1k))) 28 (nI 0)) 29 (nI (si.getD a1k 0))) fm hm so si sh ce ca td (qFn s wa) kp la bf oo bo pw ow tr)) rfl w65 rfl (by decide) (Nat.le_of_ble_eq_true rfl) rfl rfl rfl w_pt65_29 ?_
            refine E_aload_n rfl rfl ?_
            refine E_iconst (x := (-1)) rfl (by decide) ?_
            refine E_putfield (cs2 := (ww im (-1) ((sqR (el a1k) (si.getD a1k 0) ((si.getD a1k 0) + 1) s 0 1).2.1) d k ls (-1) (nI (si.getD a1k 0)) ra9 rn9 ((sqR (el a1k) (si.getD a1k 0) ((si.getD a1k 0) + 1) s 0 1).2.1) (rdL (el a1k) lt (si.getD a1k 0)) m1 m2 m3 m4 bd fc hd sz el s (fUp (fUp (fUp (fUp g 27 (nI (160 * a1k))) 28 (nI 0)) 29 (nI (si.getD a1k 0))) 6 (-1)) fm hm so si sh ce ca td (qFn s wa) kp la bf oo bo pw ow tr)) rfl w65 rfl (by decide) (Nat.le_of_ble_eq_true rfl) rfl rfl rfl w_pt65_6 ?_
            refine E_iconst (x := nI 1) rfl (by decide) ?_
            refine E_istore_n (L2 := [some (.ref 65), some (.int (nI a1k)), some (.int (nI 0)), some (.int (nI 1)), none]) rfl rfl ?_
            refine K9 _ ?_
            refine E_iload rfl rfl ?_
            refine E_if (t := 140) (b := false) rfl rfl (by decide) ?_
            refine E_iload_n rfl rfl ?_
            exact E_iret rfl rfl
          · exact ⟨hI9, rfl, rfl, ⟨⟨d0, d1, d2, d3, d4, d5, d6, d7, d8⟩, ⟨k0, k1, k2, k3, k4, k5, k6, k7, k8⟩, hI9.ln⟩, iM, iT, (iS.n (s2 := ((sqR (el a1k) (si.getD a1k 0) ((si.getD a1k 0) + 1) s 0 1).2.1)) hN9), l_el, (lr.1), ((rdL_len _ _ _).trans (lr.2.1)), (lr.2.2.1), (lr.2.2.2.1), (lr.2.2.2.2.1), (lr.2.2.2.2.2.1), (lr.2.2.2.2.2.2.1), (lr.2.2.2.2.2.2.2.1), (lr.2.2.2.2.2.2.2.2.1), (lr.2.2.2.2.2.2.2.2.2.1), (lr.2.2.2.2.2.2.2.2.2.2.1), ltd9, (qFn_len I.ln (lr.2.2.2.2.2.2.2.2.2.2.2.2.1)), (lr.2.2.2.2.2.2.2.2.2.2.2.2.2.1), (lr.2.2.2.2.2.2.2.2.2.2.2.2.2.2.1), (lr.2.2.2.2.2.2.2.2.2.2.2.2.2.2.2.1), (lr.2.2.2.2.2.2.2.2.2.2.2.2.2.2.2.2.1), (lr.2.2.2.2.2.2.2.2.2.2.2.2.2.2.2.2.2.1), (lr.2.2.2.2.2.2.2.2.2.2.2.2.2.2.2.2.2.2.1), (lr.2.2.2.2.2.2.2.2.2.2.2.2.2.2.2.2.2.2.2.1), (lr.2.2.2.2.2.2.2.2.2.2.2.2.2.2.2.2.2.2.2.2)⟩
        · obtain ⟨rq9, ra9, rn9, er9, hI9⟩ : ∃ (rq9 : ab_q) (ra9 rn9 : Int32), Ev ab_Z0 6 14 [.ref 34, .ref (49 + 2 * a1k), .ref 1] (ww im lf s d k ls rf rz ra rn rq lt m1 m2 m3 m4 bd fc hd sz el s g fm hm so si sh ce ca td wa kp la bf oo bo pw ow tr) (some (.int (-1)), (ww im lf s d k ls (nI f) (nI (si.getD a1k 0)) ra9 rn9 rq9 (rdL (el a1k) lt (si.getD a1k 0)) m1 m2 m3 m4 bd fc hd sz el s g fm hm so si sh ce ca td wa kp la bf oo bo pw ow tr)) ∧ qI rq9 := w_sqBad (by omega) u2 (by omega) (l_el _ (by omega)) (lr.2.1) I ⟨r0, r1, r2, r3, r4, r5, r6, r7, r8⟩ hz
          obtain ⟨t9, z28, z30, td9, i9, K9, ltd9, hI7, hi9⟩ : ∃ (t9 : ab_q) (z28 z30 : Int32) (td9 : List Int32) (i9 : Nat), (∀ rr, Ef ab_Z0 3 mX6_square (133, [some (.ref 65), some (.int (nI a1k)), some (.int (nI 0)), some (.int (nI i9)), some (.int (nI 0))], [], (ww im (nI f) s d k ls (nI f) (nI (si.getD a1k 0)) ra9 rn9 rq9 (rdL (el a1k) lt (si.getD a1k 0)) m1 m2 m3 m4 bd (fc.set 6 ((fc.getD 6 0) + (nI 1))) hd sz el t9 (fUp (fUp (fUp (fUp (fUp (fUp g 27 (nI (160 * a1k))) 29 (nI (si.getD a1k 0))) 6 (-1)) 28 z28) 30 z30) 31 (nI f)) fm hm so si sh ce ca td9 (qFn s wa) kp la bf oo bo pw ow tr)) rr → Ef ab_Z0 3 mX6_square (56, [some (.ref 65), some (.int (nI a1k)), some (.int (nI 0)), some (.int (nI 1)), none], [], (ww im (nI f) s d k ls (nI f) (nI (si.getD a1k 0)) ra9 rn9 rq9 (rdL (el a1k) lt (si.getD a1k 0)) m1 m2 m3 m4 bd (fc.set 6 ((fc.getD 6 0) + (nI 1))) hd sz el s (fUp (fUp (fUp (fUp g 27 (nI (160 * a1k))) 28 (nI 0)) 29 (nI (si.getD a1k 0))) 6 (-1)) fm hm so si sh ce ca td (qFn s wa) kp la bf oo bo pw ow tr)) rr) ∧ td9.length = 3 ∧ qI t9 ∧ i9 < 2147483648 := m_sqBad (by omega) (by omega) (lr.2.2.2.2.2.2.2.2.2.1) u6 I (lr.2.2.2.2.2.2.2.2.2.2.2.1) hz
          refine ⟨(-6), (im, (nI f), s, d, k, ls, (nI f), (nI (si.getD a1k 0)), ra9, rn9, rq9, (rdL (el a1k) lt (si.getD a1k 0)), m1, m2, m3, m4, bd, (fc.set 6 ((fc.getD 6 0) + (nI 1))), hd, sz, el, s, g, fm, hm, so, si, sh, ce, ca, td, wa, kp, la, bf, oo, bo, pw, ow, tr), (im, (nI f), s, d, k, ls, (nI f), (nI (si.getD a1k 0)), ra9, rn9, rq9, (rdL (el a1k) lt (si.getD a1k 0)), m1, m2, m3, m4, bd, (fc.set 6 ((fc.getD 6 0) + (nI 1))), hd, sz, el, s, (fUp (fUp (fUp (fUp (fUp (fUp (fUp g 27 (nI (160 * a1k))) 29 (nI (si.getD a1k 0))) 6 (-1)) 28 z28) 30 z30) 31 (nI f)) 6 (nI f)), (fm.set 6 ((fm.getD 6 0) + (nI 1))), hm, so, si, sh, ce, ca, td9, (qFn s wa), kp, la, bf, oo, bo, pw, ow, tr), ?_, ?_, ?_⟩
          · show Ev ab_Z0 7 90 [.ref 0, .int (nI a1k)] (ww im lf s d k ls rf rz ra rn rq lt m1 m2 m3 m4 bd fc hd sz el s g fm hm so si sh ce ca td wa kp la bf oo bo pw ow tr) (some (.int (-6)), (ww im (nI f) s d k ls (nI f) (nI (si.getD a1k 0)) ra9 rn9 rq9 (rdL (el a1k) lt (si.getD a1k 0)) m1 m2 m3 m4 bd (fc.set 6 ((fc.getD 6 0) + (nI 1))) hd sz el s g fm hm so si sh ce ca td wa kp la bf oo bo pw ow tr))
            refine Ef.in (md := mX5_square) (L := [some (.ref 0), some (.int (nI a1k)), none, none]) rfl (Nat.le_of_ble_eq_true rfl) rfl ?_
            refine E_aload_n rfl rfl ?_
            refine E_iload_n rfl rfl ?_
            have e3 : Ev ab_Z0 2 119 [.ref 0, .int (nI a1k)] (ww im lf s d k ls rf rz ra rn rq lt m1 m2 m3 m4 bd fc hd sz el s g fm hm so si sh ce ca td wa kp la bf oo bo pw ow tr) (some (.int (nI 0)), (ww im lf s d k ls rf rz ra rn rq lt m1 m2 m3 m4 bd fc hd sz el s g fm hm so si sh ce ca td wa kp la bf oo bo pw ow tr)) := by
              refine Ef.in (md := mX5_whyNoRow) (L := [some (.ref 0), some (.int (nI a1k))]) rfl (Nat.le_of_ble_eq_true rfl) rfl ?_
              refine E_iload_n rfl rfl ?_
              refine E_callS (v := some (.int (nI 1))) (As := [.int (nI a1k)]) (r0 := []) (cs2 := (ww im lf s d k ls rf rz ra rn rq lt m1 m2 m3 m4 bd fc hd sz el s g fm hm so si sh ce ca td wa kp la bf oo bo pw ow tr)) rfl rfl rfl (Nat.le_of_ble_eq_true rfl) rfl (L39_X5_isShelf (by omega) (by omega) (by omega)) (by decide) rfl ?_
              refine E_if (t := 9) (b := true) rfl rfl (by decide) ?_
              refine E_aload_n rfl rfl ?_
              refine E_getfield (v := .ref 31) rfl w0 rfl (by decide) rfl ?_
              refine E_iload_n rfl rfl ?_
              refine E_aalN (b := 49 + 2 * a1k) rfl w31 (by omega) (w_shs (by omega)) ?_
              have e1 : Ev ab_Z0 1 33 [.ref (49 + 2 * a1k)] (ww im lf s d k ls rf rz ra rn rq lt m1 m2 m3 m4 bd fc hd sz el s g fm hm so si sh ce ca td wa kp la bf oo bo pw ow tr) (some (.int (nI 0)), (ww im lf s d k ls rf rz ra rn rq lt m1 m2 m3 m4 bd fc hd sz el s g fm hm so si sh ce ca td wa kp la bf oo bo pw ow tr)) := by
                refine Ef.in (md := mX3_isOtherThanRow) (L := [some (.ref (49 + 2 * a1k))]) rfl (Nat.le_of_ble_eq_true rfl) rfl ?_
                refine E_aload_n rfl rfl ?_
                refine E_getfield (v := .int (nI (100 + so.getD a1k 0))) rfl (w_shv (j := a1k) (by omega) u1 u2) rfl (by decide) rfl ?_
                refine E_if (t := 20) (b := false) rfl rfl ((cn_lt (nI_toInt (by omega)) (by decide : (0 : Int32).toInt = 0)).trans (decide_eq_false (by omega))) ?_
                refine E_aload_n rfl rfl ?_
                refine E_getfield (v := .int (nI (100 + so.getD a1k 0))) rfl (w_shv (j := a1k) (by omega) u1 u2) rfl (by decide) rfl ?_
                refine E_bipush (x := nI 100) rfl (by decide) ?_
                refine E_ic (t := 20) (b := true) rfl rfl ((cn_ge (nI_toInt (by omega)) (nI_toInt (by omega))).trans (decide_eq_true (by omega))) ?_
                refine E_iconst (x := nI 0) rfl (by decide) ?_
                exact E_iret rfl rfl
              refine E_callV (v := some (.int (nI 0))) (As := [.ref (49 + 2 * a1k)]) (r0 := []) (cs2 := (ww im lf s d k ls rf rz ra rn rq lt m1 m2 m3 m4 bd fc hd sz el s g fm hm so si sh ce ca td wa kp la bf oo bo pw ow tr)) rfl rfl rfl (Nat.le_of_ble_eq_true rfl) rfl (ab_rvOf (w_shv (j := a1k) (by omega) u1 u2) rfl) e1 (by decide) rfl ?_
              refine E_if (t := 23) (b := true) rfl rfl (by decide) ?_
              refine E_aload_n rfl rfl ?_
              refine E_getfield (v := .ref 31) rfl w0 rfl (by decide) rfl ?_
              refine E_iload_n rfl rfl ?_
              refine E_aalN (b := 49 + 2 * a1k) rfl w31 (by omega) (w_shs (by omega)) ?_
              have e2 : Ev ab_Z0 1 32 [.ref (49 + 2 * a1k)] (ww im lf s d k ls rf rz ra rn rq lt m1 m2 m3 m4 bd fc hd sz el s g fm hm so si sh ce ca td wa kp la bf oo bo pw ow tr) (some (.int (nI 0)), (ww im lf s d k ls rf rz ra rn rq lt m1 m2 m3 m4 bd fc hd sz el s g fm hm so si sh ce ca td wa kp la bf oo bo pw ow tr)) := by
                refine Ef.in (md := mX3_isEmpty) (L := [some (.ref (49 + 2 * a1k))]) rfl (Nat.le_of_ble_eq_true rfl) rfl ?_
                refine E_aload_n rfl rfl ?_
                refine E_getfield (v := .int (nI (100 + so.getD a1k 0))) rfl (w_shv (j := a1k) (by omega) u1 u2) rfl (by decide) rfl ?_
                refine E_iconst (x := (-1)) rfl (by decide) ?_
                refine E_ic (t := 12) (b := true) rfl rfl ((cn_ne (nI_toInt (by omega)) (by decide : (-1 : Int32).toInt = -1)).trans (decide_eq_true (by omega))) ?_
                refine E_iconst (x := nI 0) rfl (by decide) ?_
                exact E_iret rfl rfl
              refine E_callV (v := some (.int (nI 0))) (As := [.ref (49 + 2 * a1k)]) (r0 := []) (cs2 := (ww im lf s d k ls rf rz ra rn rq lt m1 m2 m3 m4 bd fc hd sz el s g fm hm so si sh ce ca td wa kp la bf oo bo pw ow tr)) rfl rfl rfl (Nat.le_of_ble_eq_true rfl) rfl (ab_rvOf (w_shv (j := a1k) (by omega) u1 u2) rfl) e2 (by decide) rfl ?_
              refine E_if (t := 39) (b := true) rfl rfl (by decide) ?_
              refine E_iconst (x := nI 0) rfl (by decide) ?_
              exact E_iret rfl rfl
            refine E_callV (v := some (.int (nI 0))) (As := [.ref 0, .int (nI a1k)]) (r0 := []) (cs2 := (ww im lf s d k ls rf rz ra rn rq lt m1 m2 m3 m4 bd fc hd sz el s g fm hm so si sh ce ca td wa kp la bf oo bo pw ow tr)) rfl rfl rfl (Nat.le_of_ble_eq_true rfl) rfl (ab_rvOf w0 rfl) e3 (by decide) rfl ?_
            refine E_istore_n (L2 := [some (.ref 0), some (.int (nI a1k)), some (.int (nI 0)), none]) rfl rfl ?_
            refine E_iload_n rfl rfl ?_
            refine E_if (t := 16) (b := true) rfl rfl (by decide) ?_
            refine E_aload_n rfl rfl ?_
            refine E_getfield (v := .ref 34) rfl w0 rfl (by decide) rfl ?_
            refine E_aload_n rfl rfl ?_
            refine E_getfield (v := .ref 31) rfl w0 rfl (by decide) rfl ?_
            refine E_iload_n rfl rfl ?_
            refine E_aalN (b := 49 + 2 * a1k) rfl w31 (by omega) (w_shs (by omega)) ?_
            refine E_aload_n rfl rfl ?_
            refine E_getfield (v := .ref 1) rfl w0 rfl (by decide) rfl ?_
            refine E_callV (v := some (.int (-1))) (As := [.ref 34, .ref (49 + 2 * a1k), .ref 1]) (r0 := []) (cs2 := (ww im lf s d k ls (nI f) (nI (si.getD a1k 0)) ra9 rn9 rq9 (rdL (el a1k) lt (si.getD a1k 0)) m1 m2 m3 m4 bd fc hd sz el s g fm hm so si sh ce ca td wa kp la bf oo bo pw ow tr)) rfl rfl rfl (Nat.le_of_ble_eq_true rfl) rfl (ab_rvOf w34 rfl) er9 (by decide) w_lens ?_
            refine E_istore_n (L2 := [some (.ref 0), some (.int (nI a1k)), some (.int (nI 0)), some (.int (-1))]) rfl rfl ?_
            refine E_aload_n rfl rfl ?_
            refine E_aload_n rfl rfl ?_
            refine E_getfield (v := .ref 34) rfl w0 rfl (by decide) rfl ?_
            refine E_getfield (v := .int (nI f)) rfl w34 rfl (by decide) rfl ?_
            refine E_putfield (cs2 := (ww im (nI f) s d k ls (nI f) (nI (si.getD a1k 0)) ra9 rn9 rq9 (rdL (el a1k) lt (si.getD a1k 0)) m1 m2 m3 m4 bd fc hd sz el s g fm hm so si sh ce ca td wa kp la bf oo bo pw ow tr)) rfl w0 rfl (by decide) (Nat.le_of_ble_eq_true rfl) rfl rfl rfl rfl ?_
            refine E_iload_n rfl rfl ?_
            refine E_iconst (x := (-1)) rfl (by decide) ?_
            refine E_ic (t := 57) (b := false) rfl rfl (by decide) ?_
            refine E_aload_n rfl rfl ?_
            refine E_bipush (x := nI 6) rfl (by decide) ?_
            refine E_callV (v := some (.int (-6))) (As := [.ref 0, .int (nI 6)]) (r0 := []) (cs2 := (ww im (nI f) s d k ls (nI f) (nI (si.getD a1k 0)) ra9 rn9 rq9 (rdL (el a1k) lt (si.getD a1k 0)) m1 m2 m3 m4 bd (fc.set 6 ((fc.getD 6 0) + (nI 1))) hd sz el s g fm hm so si sh ce ca td wa kp la bf oo bo pw ow tr)) rfl rfl rfl (Nat.le_of_ble_eq_true rfl) rfl (ab_rvOf w0 rfl) (L26_X5_refuse (by omega)) (by decide) w_lens ?_
            exact E_iret rfl rfl
          · show Ev ab_Z0 4 165 [.ref 65, .int (nI a1k)] (ww im (nI f) s d k ls (nI f) (nI (si.getD a1k 0)) ra9 rn9 rq9 (rdL (el a1k) lt (si.getD a1k 0)) m1 m2 m3 m4 bd (fc.set 6 ((fc.getD 6 0) + (nI 1))) hd sz el s g fm hm so si sh ce ca td wa kp la bf oo bo pw ow tr) (some (.int (-6)), (ww im (nI f) s d k ls (nI f) (nI (si.getD a1k 0)) ra9 rn9 rq9 (rdL (el a1k) lt (si.getD a1k 0)) m1 m2 m3 m4 bd (fc.set 6 ((fc.getD 6 0) + (nI 1))) hd sz el s (fUp (fUp (fUp (fUp (fUp (fUp (fUp g 27 (nI (160 * a1k))) 29 (nI (si.getD a1k 0))) 6 (-1)) 28 z28) 30 z30) 31 (nI f)) 6 (nI f)) (fm.set 6 ((fm.getD 6 0) + (nI 1))) hm so si sh ce ca td9 (qFn s wa) kp la bf oo bo pw ow tr))
            refine Ef.in (md := mX6_square) (L := [some (.ref 65), some (.int (nI a1k)), none, none, none]) rfl (Nat.le_of_ble_eq_true rfl) rfl ?_
            refine E_aload_n rfl rfl ?_
            refine E_iload_n rfl rfl ?_
            have e4 : Ev ab_Z0 2 142 [.ref 65, .int (nI a1k)] (ww im (nI f) s d k ls (nI f) (nI (si.getD a1k 0)) ra9 rn9 rq9 (rdL (el a1k) lt (si.getD a1k 0)) m1 m2 m3 m4 bd (fc.set 6 ((fc.getD 6 0) + (nI 1))) hd sz el s g fm hm so si sh ce ca td wa kp la bf oo bo pw ow tr) (some (.int (nI 0)), (ww im (nI f) s d k ls (nI f) (nI (si.getD a1k 0)) ra9 rn9 rq9 (rdL (el a1k) lt (si.getD a1k 0)) m1 m2 m3 m4 bd (fc.set 6 ((fc.getD 6 0) + (nI 1))) hd sz el s g fm hm so si sh ce ca td wa kp la bf oo bo pw ow tr)) := by
              refine Ef.in (md := mX6_wanted) (L := [some (.ref 65), some (.int (nI a1k))]) rfl (Nat.le_of_ble_eq_true rfl) rfl ?_
              refine E_aload_n rfl rfl ?_
              refine E_iload_n rfl rfl ?_
              refine E_callV (v := some (.int (nI 1))) (As := [.ref 65, .int (nI a1k)]) (r0 := []) (cs2 := (ww im (nI f) s d k ls (nI f) (nI (si.getD a1k 0)) ra9 rn9 rq9 (rdL (el a1k) lt (si.getD a1k 0)) m1 m2 m3 m4 bd (fc.set 6 ((fc.getD 6 0) + (nI 1))) hd sz el s g fm hm so si sh ce ca td wa kp la bf oo bo pw ow tr)) rfl rfl rfl (Nat.le_of_ble_eq_true rfl) rfl (ab_rvOf w65 rfl) (L40_X6_isShelf (by omega) (by omega) (by omega)) (by decide) rfl ?_
              refine E_if (t := 12) (b := true) rfl rfl (by decide) ?_
              refine E_aload_n rfl rfl ?_
              refine E_getfield (v := .ref 76) rfl w65 rfl (by decide) rfl ?_
              refine E_iload_n rfl rfl ?_
              refine E_ialN (l := hm) (v := hm.getD a1k 0) rfl w76 (by omega) (by omega) rfl ?_
              refine E_iconst (x := nI 2) rfl (by decide) ?_
              refine E_ic (t := 27) (b := true) rfl rfl ((cn_ne (nI_toInt (by omega)) (nI_toInt (by omega))).trans (decide_eq_true (by omega))) ?_
              refine E_aload_n rfl rfl ?_
              refine E_getfield (v := .ref 76) rfl w65 rfl (by decide) rfl ?_
              refine E_iload_n rfl rfl ?_
              refine E_ialN (l := hm) (v := hm.getD a1k 0) rfl w76 (by omega) (by omega) rfl ?_
              refine E_if (t := 41) (b := true) rfl rfl ((cn_ne (nI_toInt (by omega)) (by decide : (0 : Int32).toInt = 0)).trans (decide_eq_true (by omega))) ?_
              refine E_iconst (x := nI 0) rfl (by decide) ?_
              exact E_iret rfl rfl
            refine E_callV (v := some (.int (nI 0))) (As := [.ref 65, .int (nI a1k)]) (r0 := []) (cs2 := (ww im (nI f) s d k ls (nI f) (nI (si.getD a1k 0)) ra9 rn9 rq9 (rdL (el a1k) lt (si.getD a1k 0)) m1 m2 m3 m4 bd (fc.set 6 ((fc.getD 6 0) + (nI 1))) hd sz el s g fm hm so si sh ce ca td wa kp la bf oo bo pw ow tr)) rfl rfl rfl (Nat.le_of_ble_eq_true rfl) rfl (ab_rvOf w65 rfl) e4 (by decide) rfl ?_
            refine E_istore_n (L2 := [some (.ref 65), some (.int (nI a1k)), some (.int (nI 0)), none, none]) rfl rfl ?_
            refine E_iload_n rfl rfl ?_
            refine E_if (t := 16) (b := true) rfl rfl (by decide) ?_
            refine E_aload_n rfl rfl ?_
            refine E_aload_n rfl rfl ?_
            refine E_getfield (v := .ref 86) rfl w65 rfl (by decide) rfl ?_
            refine E_iconst (x := nI 0) rfl (by decide) ?_
            refine E_callV (v := none) (As := [.ref 65, .ref 86, .int (nI 0)]) (r0 := []) (cs2 := (ww im (nI f) s d k ls (nI f) (nI (si.getD a1k 0)) ra9 rn9 rq9 (rdL (el a1k) lt (si.getD a1k 0)) m1 m2 m3 m4 bd (fc.set 6 ((fc.getD 6 0) + (nI 1))) hd sz el s g fm hm so si sh ce ca td (qFn s wa) kp la bf oo bo pw ow tr)) rfl rfl rfl (Nat.le_of_ble_eq_true rfl) rfl (ab_rvOf w65 rfl) (m_allO_86 I.ln (lr.2.2.2.2.2.2.2.2.2.2.2.2.1)) (by decide) w_lens ?_
            refine E_aload_n rfl rfl ?_
            refine E_sipush (x := nI 160) rfl (by decide) ?_
            refine E_iload_n rfl rfl ?_
            refine E_imul (z := nI (160 * a1k)) rfl (pk_mul _ _) ?_
            refine E_putfield (cs2 := (ww im (nI f) s d k ls (nI f) (nI (si.getD a1k 0)) ra9 rn9 rq9 (rdL (el a1k) lt (si.getD a1k 0)) m1 m2 m3 m4 bd (fc.set 6 ((fc.getD 6 0) + (nI 1))) hd sz el s (fUp g 27 (nI (160 * a1k))) fm hm so si sh ce ca td (qFn s wa) kp la bf oo bo pw ow tr)) rfl w65 rfl (by decide) (Nat.le_of_ble_eq_true rfl) rfl rfl rfl w_pt65_27 ?_
            refine E_aload_n rfl rfl ?_
            refine E_iconst (x := nI 0) rfl (by decide) ?_
            refine E_putfield (cs2 := (ww im (nI f) s d k ls (nI f) (nI (si.getD a1k 0)) ra9 rn9 rq9 (rdL (el a1k) lt (si.getD a1k 0)) m1 m2 m3 m4 bd (fc.set 6 ((fc.getD 6 0) + (nI 1))) hd sz el s (fUp (fUp g 27 (nI (160 * a1k))) 28 (nI 0)) fm hm so si sh ce ca td (qFn s wa) kp la bf oo bo pw ow tr)) rfl w65 rfl (by decide) (Nat.le_of_ble_eq_true rfl) rfl rfl rfl w_pt65_28 ?_
            refine E_aload_n rfl rfl ?_
            refine E_aload_n rfl rfl ?_
            refine E_getfield (v := .ref 78) rfl w65 rfl (by decide) rfl ?_
            refine E_iload_n rfl rfl ?_
            refine E_ialN (l := si) (v := si.getD a1k 0) rfl w78 (by omega) (by omega) rfl ?_
            refine E_putfield (cs2 := (ww im (nI f) s d k ls (nI f) (nI (si.getD a1k 0)) ra9 rn9 rq9 (rdL (el a1k) lt (si.getD a1k 0)) m1 m2 m3 m4 bd (fc.set 6 ((fc.getD 6 0) + (nI 1))) hd sz el s (fUp (fUp (fUp g 27 (nI (160 * a1k))) 28 (nI 0)) 29 (nI (si.getD a1k 0))) fm hm so si sh ce ca td (qFn s wa) kp la bf oo bo pw ow tr)) rfl w65 rfl (by decide) (Nat.le_of_ble_eq_true rfl) rfl rfl rfl w_pt65_29 ?_
            refine E_aload_n rfl rfl ?_
            refine E_iconst (x := (-1)) rfl (by decide) ?_
            refine E_putfield (cs2 := (ww im (nI f) s d k ls (nI f) (nI (si.getD a1k 0)) ra9 rn9 rq9 (rdL (el a1k) lt (si.getD a1k 0)) m1 m2 m3 m4 bd (fc.set 6 ((fc.getD 6 0) + (nI 1))) hd sz el s (fUp (fUp (fUp (fUp g 27 (nI (160 * a1k))) 28 (nI 0)) 29 (nI (si.getD a1k 0))) 6 (-1)) fm hm so si sh ce ca td (qFn s wa) kp la bf oo bo pw ow tr)) rfl w65 rfl (by decide) (Nat.le_of_ble_eq_true rfl) rfl rfl rfl w_pt65_6 ?_
            refine E_iconst (x := nI 1) rfl (by decide) ?_
            refine E_istore_n (L2 := [some (.ref 65), some (.int (nI a1k)), some (.int (nI 0)), some (.int (nI 1)), none]) rfl rfl ?_
            refine K9 _ ?_
            refine E_iload rfl rfl ?_
            refine E_if (t := 140) (b := true) rfl rfl (by decide) ?_
            refine E_aload_n rfl rfl ?_
            refine E_aload_n rfl rfl ?_
            refine E_getfield (v := .ref 86) rfl w65 rfl (by decide) rfl ?_
            refine E_iconst (x := nI 1) rfl (by decide) ?_
            refine E_callV (v := none) (As := [.ref 65, .ref 86, .int (nI 1)]) (r0 := []) (cs2 := (ww im (nI f) s d k ls (nI f) (nI (si.getD a1k 0)) ra9 rn9 rq9 (rdL (el a1k) lt (si.getD a1k 0)) m1 m2 m3 m4 bd (fc.set 6 ((fc.getD 6 0) + (nI 1))) hd sz el s (fUp (fUp (fUp (fUp (fUp (fUp g 27 (nI (160 * a1k))) 29 (nI (si.getD a1k 0))) 6 (-1)) 28 z28) 30 z30) 31 (nI f)) fm hm so si sh ce ca td9 (qFn s wa) kp la bf oo bo pw ow tr)) rfl rfl rfl (Nat.le_of_ble_eq_true rfl) rfl (ab_rvOf w65 rfl) (m_allB_86 hI7.ln I.ln (lr.2.2.2.2.2.2.2.2.2.2.2.2.1) rfl) (by decide) w_lens ?_
            refine E_aload_n rfl rfl ?_
            refine E_aload_n rfl rfl ?_
            refine E_getfield (v := .int (nI f)) rfl w65 rfl (by decide) rfl ?_
            refine E_putfield (cs2 := (ww im (nI f) s d k ls (nI f) (nI (si.getD a1k 0)) ra9 rn9 rq9 (rdL (el a1k) lt (si.getD a1k 0)) m1 m2 m3 m4 bd (fc.set 6 ((fc.getD 6 0) + (nI 1))) hd sz el s (fUp (fUp (fUp (fUp (fUp (fUp (fUp g 27 (nI (160 * a1k))) 29 (nI (si.getD a1k 0))) 6 (-1)) 28 z28) 30 z30) 31 (nI f)) 6 (nI f)) fm hm so si sh ce ca td9 (qFn s wa) kp la bf oo bo pw ow tr)) rfl w65 rfl (by decide) (Nat.le_of_ble_eq_true rfl) rfl rfl rfl w_pt65_6 ?_
            refine E_aload_n rfl rfl ?_
            refine E_bipush (x := (-6)) rfl (by decide) ?_
            refine E_callV (v := some (.int (-6))) (As := [.ref 65, .int (-6)]) (r0 := []) (cs2 := (ww im (nI f) s d k ls (nI f) (nI (si.getD a1k 0)) ra9 rn9 rq9 (rdL (el a1k) lt (si.getD a1k 0)) m1 m2 m3 m4 bd (fc.set 6 ((fc.getD 6 0) + (nI 1))) hd sz el s (fUp (fUp (fUp (fUp (fUp (fUp (fUp g 27 (nI (160 * a1k))) 29 (nI (si.getD a1k 0))) 6 (-1)) 28 z28) 30 z30) 31 (nI f)) 6 (nI f)) (fm.set 6 ((fm.getD 6 0) + (nI 1))) hm so si sh ce ca td9 (qFn s wa) kp la bf oo bo pw ow tr)) rfl rfl rfl (Nat.le_of_ble_eq_true rfl) rfl (ab_rvOf w65 rfl) (L28_X6_no (by omega)) (by decide) w_lens ?_
            exact E_iret rfl rfl
          · exact ⟨I, rfl, rfl, ⟨⟨d0, d1, d2, d3, d4, d5, d6, d7, d8⟩, ⟨k0, k1, k2, k3, k4, k5, k6, k7, k8⟩, hI9.ln⟩, iM, iT, iS, l_el, (lr.1), ((rdL_len _ _ _).trans (lr.2.1)), (lr.2.2.1), (by simp only [List.length_set]; exact (lr.2.2.2.1)), (by simp only [List.length_set]; exact (lr.2.2.2.2.1)), (lr.2.2.2.2.2.1), (lr.2.2.2.2.2.2.1), (lr.2.2.2.2.2.2.2.1), (lr.2.2.2.2.2.2.2.2.1), (lr.2.2.2.2.2.2.2.2.2.1), (lr.2.2.2.2.2.2.2.2.2.2.1), ltd9, (qFn_len I.ln (lr.2.2.2.2.2.2.2.2.2.2.2.2.1)), (lr.2.2.2.2.2.2.2.2.2.2.2.2.2.1), (lr.2.2.2.2.2.2.2.2.2.2.2.2.2.2.1), (lr.2.2.2.2.2.2.2.2.2.2.2.2.2.2.2.1), (lr.2.2.2.2.2.2.2.2.2.2.2.2.2.2.2.2.1), (lr.2.2.2.2.2.2.2.2.2.2.2.2.2.2.2.2.2.1), (lr.2.2.2.2.2.2.2.2.2.2.2.2.2.2.2.2.2.2.1), (lr.2.2.2.2.2.2.2.2.2.2.2.2.2.2.2.2.2.2.2.1), (lr.2.2.2.2.2.2.2.2.2.2.2.2.2.2.2.2.2.2.2.2)⟩
    · refine ⟨(-1), (im, lf, s, d, k, ls, rf, rz, ra, rn, rq, lt, m1, m2, m3, m4, bd, (fc.set 1 ((fc.getD 1 0) + (nI 1))), hd, sz, el, s, g, fm, hm, so, si, sh, ce, ca, td, wa, kp, la, bf, oo, bo, pw, ow, tr), (im, lf, s, d, k, ls, rf, rz, ra, rn, rq, lt, m1, m2, m3, m4, bd, (fc.set 1 ((fc.getD 1 0) + (nI 1))), hd, sz, el, s, g, (fm.set 1 ((fm.getD 1 0) + (nI 1))), hm, so, si, sh, ce, ca, td, wa, kp, la, bf, oo, bo, pw, ow, tr), ?_, ?_, ?_⟩
      · show Ev ab_Z0 7 90 [.ref 0, .int (nI a1k)] (ww im lf s d k ls rf rz ra rn rq lt m1 m2 m3 m4 bd fc hd sz el s g fm hm so si sh ce ca td wa kp la bf oo bo pw ow tr) (some (.int (-1)), (ww im lf s d k ls rf rz ra rn rq lt m1 m2 m3 m4 bd (fc.set 1 ((fc.getD 1 0) + (nI 1))) hd sz el s g fm hm so si sh ce ca td wa kp la bf oo bo pw ow tr))
        refine Ef.in (md := mX5_square) (L := [some (.ref 0), some (.int (nI a1k)), none, none]) rfl (Nat.le_of_ble_eq_true rfl) rfl ?_
        refine E_aload_n rfl rfl ?_
        refine E_iload_n rfl rfl ?_
        have e1 : Ev ab_Z0 2 119 [.ref 0, .int (nI a1k)] (ww im lf s d k ls rf rz ra rn rq lt m1 m2 m3 m4 bd fc hd sz el s g fm hm so si sh ce ca td wa kp la bf oo bo pw ow tr) (some (.int (nI 1)), (ww im lf s d k ls rf rz ra rn rq lt m1 m2 m3 m4 bd fc hd sz el s g fm hm so si sh ce ca td wa kp la bf oo bo pw ow tr)) := by
          refine Ef.in (md := mX5_whyNoRow) (L := [some (.ref 0), some (.int (nI a1k))]) rfl (Nat.le_of_ble_eq_true rfl) rfl ?_
          refine E_iload_n rfl rfl ?_
          refine E_callS (v := some (.int (nI 0))) (As := [.int (nI a1k)]) (r0 := []) (cs2 := (ww im lf s d k ls rf rz ra rn rq lt m1 m2 m3 m4 bd fc hd sz el s g fm hm so si sh ce ca td wa kp la bf oo bo pw ow tr)) rfl rfl rfl (Nat.le_of_ble_eq_true rfl) rfl (L47_X5_isShelf (by omega) (by omega) (by omega)) (by decide) rfl ?_
          refine E_if (t := 9) (b := false) rfl rfl (by decide) ?_
          refine E_iconst (x := nI 1) rfl (by decide) ?_
          exact E_iret rfl rfl
        refine E_callV (v := some (.int (nI 1))) (As := [.ref 0, .int (nI a1k)]) (r0 := []) (cs2 := (ww im lf s d k ls rf rz ra rn rq lt m1 m2 m3 m4 bd fc hd sz el s g fm hm so si sh ce ca td wa kp la bf oo bo pw ow tr)) rfl rfl rfl (Nat.le_of_ble_eq_true rfl) rfl (ab_rvOf w0 rfl) e1 (by decide) rfl ?_
        refine E_istore_n (L2 := [some (.ref 0), some (.int (nI a1k)), some (.int (nI 1)), none]) rfl rfl ?_
        refine E_iload_n rfl rfl ?_
        refine E_if (t := 16) (b := false) rfl rfl (by decide) ?_
        refine E_aload_n rfl rfl ?_
        refine E_iload_n rfl rfl ?_
        refine E_callV (v := some (.int (-1))) (As := [.ref 0, .int (nI 1)]) (r0 := []) (cs2 := (ww im lf s d k ls rf rz ra rn rq lt m1 m2 m3 m4 bd (fc.set 1 ((fc.getD 1 0) + (nI 1))) hd sz el s g fm hm so si sh ce ca td wa kp la bf oo bo pw ow tr)) rfl rfl rfl (Nat.le_of_ble_eq_true rfl) rfl (ab_rvOf w0 rfl) (L6_X5_refuse (by omega)) (by decide) w_lens ?_
        exact E_iret rfl rfl
      · show Ev ab_Z0 4 165 [.ref 65, .int (nI a1k)] (ww im lf s d k ls rf rz ra rn rq lt m1 m2 m3 m4 bd (fc.set 1 ((fc.getD 1 0) + (nI 1))) hd sz el s g fm hm so si sh ce ca td wa kp la bf oo bo pw ow tr) (some (.int (-1)), (ww im lf s d k ls rf rz ra rn rq lt m1 m2 m3 m4 bd (fc.set 1 ((fc.getD 1 0) + (nI 1))) hd sz el s g (fm.set 1 ((fm.getD 1 0) + (nI 1))) hm so si sh ce ca td wa kp la bf oo bo pw ow tr))
        refine Ef.in (md := mX6_square) (L := [some (.ref 65), some (.int (nI a1k)), none, none, none]) rfl (Nat.le_of_ble_eq_true rfl) rfl ?_
        refine E_aload_n rfl rfl ?_
        refine E_iload_n rfl rfl ?_
        have e2 : Ev ab_Z0 2 142 [.ref 65, .int (nI a1k)] (ww im lf s d k ls rf rz ra rn rq lt m1 m2 m3 m4 bd (fc.set 1 ((fc.getD 1 0) + (nI 1))) hd sz el s g fm hm so si sh ce ca td wa kp la bf oo bo pw ow tr) (some (.int (-1)), (ww im lf s d k ls rf rz ra rn rq lt m1 m2 m3 m4 bd (fc.set 1 ((fc.getD 1 0) + (nI 1))) hd sz el s g fm hm so si sh ce ca td wa kp la bf oo bo pw ow tr)) := by
          refine Ef.in (md := mX6_wanted) (L := [some (.ref 65), some (.int (nI a1k))]) rfl (Nat.le_of_ble_eq_true rfl) rfl ?_
          refine E_aload_n rfl rfl ?_
          refine E_iload_n rfl rfl ?_
          refine E_callV (v := some (.int (nI 0))) (As := [.ref 65, .int (nI a1k)]) (r0 := []) (cs2 := (ww im lf s d k ls rf rz ra rn rq lt m1 m2 m3 m4 bd (fc.set 1 ((fc.getD 1 0) + (nI 1))) hd sz el s g fm hm so si sh ce ca td wa kp la bf oo bo pw ow tr)) rfl rfl rfl (Nat.le_of_ble_eq_true rfl) rfl (ab_rvOf w65 rfl) (L48_X6_isShelf (by omega) (by omega) (by omega)) (by decide) rfl ?_
          refine E_if (t := 12) (b := false) rfl rfl (by decide) ?_
          refine E_iconst (x := (-1)) rfl (by decide) ?_
          refine E_goto (t := 42) rfl rfl ?_
          exact E_iret rfl rfl
        refine E_callV (v := some (.int (-1))) (As := [.ref 65, .int (nI a1k)]) (r0 := []) (cs2 := (ww im lf s d k ls rf rz ra rn rq lt m1 m2 m3 m4 bd (fc.set 1 ((fc.getD 1 0) + (nI 1))) hd sz el s g fm hm so si sh ce ca td wa kp la bf oo bo pw ow tr)) rfl rfl rfl (Nat.le_of_ble_eq_true rfl) rfl (ab_rvOf w65 rfl) e2 (by decide) rfl ?_
        refine E_istore_n (L2 := [some (.ref 65), some (.int (nI a1k)), some (.int (-1)), none, none]) rfl rfl ?_
        refine E_iload_n rfl rfl ?_
        refine E_if (t := 16) (b := false) rfl rfl (by decide) ?_
        refine E_aload_n rfl rfl ?_
        refine E_iload_n rfl rfl ?_
        refine E_callV (v := some (.int (-1))) (As := [.ref 65, .int (-1)]) (r0 := []) (cs2 := (ww im lf s d k ls rf rz ra rn rq lt m1 m2 m3 m4 bd (fc.set 1 ((fc.getD 1 0) + (nI 1))) hd sz el s g (fm.set 1 ((fm.getD 1 0) + (nI 1))) hm so si sh ce ca td wa kp la bf oo bo pw ow tr)) rfl rfl rfl (Nat.le_of_ble_eq_true rfl) rfl (ab_rvOf w65 rfl) (L8_X6_no (by omega)) (by decide) w_lens ?_
        exact E_iret rfl rfl
      · exact ⟨I, rfl, hf, ⟨⟨d0, d1, d2, d3, d4, d5, d6, d7, d8⟩, ⟨k0, k1, k2, k3, k4, k5, k6, k7, k8⟩, ⟨r0, r1, r2, r3, r4, r5, r6, r7, r8⟩⟩, iM, iT, iS, l_el, (lr.1), (lr.2.1), (lr.2.2.1), (by simp only [List.length_set]; exact (lr.2.2.2.1)), (by simp only [List.length_set]; exact (lr.2.2.2.2.1)), (lr.2.2.2.2.2.1), (lr.2.2.2.2.2.2.1), (lr.2.2.2.2.2.2.2.1), (lr.2.2.2.2.2.2.2.2.1), (lr.2.2.2.2.2.2.2.2.2.1), (lr.2.2.2.2.2.2.2.2.2.2.1), (lr.2.2.2.2.2.2.2.2.2.2.2.1), (lr.2.2.2.2.2.2.2.2.2.2.2.2.1), (lr.2.2.2.2.2.2.2.2.2.2.2.2.2.1), (lr.2.2.2.2.2.2.2.2.2.2.2.2.2.2.1), (lr.2.2.2.2.2.2.2.2.2.2.2.2.2.2.2.1), (lr.2.2.2.2.2.2.2.2.2.2.2.2.2.2.2.2.1), (lr.2.2.2.2.2.2.2.2.2.2.2.2.2.2.2.2.2.1), (lr.2.2.2.2.2.2.2.2.2.2.2.2.2.2.2.2.2.2.1), (lr.2.2.2.2.2.2.2.2.2.2.2.2.2.2.2.2.2.2.2.1), (lr.2.2.2.2.2.2.2.2.2.2.2.2.2.2.2.2.2.2.2.2)⟩
  · refine ⟨(-1), (im, lf, s, d, k, ls, rf, rz, ra, rn, rq, lt, m1, m2, m3, m4, bd, (fc.set 1 ((fc.getD 1 0) + (nI 1))), hd, sz, el, s, g, fm, hm, so, si, sh, ce, ca, td, wa, kp, la, bf, oo, bo, pw, ow, tr), (im, lf, s, d, k, ls, rf, rz, ra, rn, rq, lt, m1, m2, m3, m4, bd, (fc.set 1 ((fc.getD 1 0) + (nI 1))), hd, sz, el, s, g, (fm.set 1 ((fm.getD 1 0) + (nI 1))), hm, so, si, sh, ce, ca, td, wa, kp, la, bf, oo, bo, pw, ow, tr), ?_, ?_, ?_⟩
    · show Ev ab_Z0 7 90 [.ref 0, .int a1] (ww im lf s d k ls rf rz ra rn rq lt m1 m2 m3 m4 bd fc hd sz el s g fm hm so si sh ce ca td wa kp la bf oo bo pw ow tr) (some (.int (-1)), (ww im lf s d k ls rf rz ra rn rq lt m1 m2 m3 m4 bd (fc.set 1 ((fc.getD 1 0) + (nI 1))) hd sz el s g fm hm so si sh ce ca td wa kp la bf oo bo pw ow tr))
      refine Ef.in (md := mX5_square) (L := [some (.ref 0), some (.int a1), none, none]) rfl (Nat.le_of_ble_eq_true rfl) rfl ?_
      refine E_aload_n rfl rfl ?_
      refine E_iload_n rfl rfl ?_
      have e1 : Ev ab_Z0 2 119 [.ref 0, .int a1] (ww im lf s d k ls rf rz ra rn rq lt m1 m2 m3 m4 bd fc hd sz el s g fm hm so si sh ce ca td wa kp la bf oo bo pw ow tr) (some (.int (nI 1)), (ww im lf s d k ls rf rz ra rn rq lt m1 m2 m3 m4 bd fc hd sz el s g fm hm so si sh ce ca td wa kp la bf oo bo pw ow tr)) := by
        refine Ef.in (md := mX5_whyNoRow) (L := [some (.ref 0), some (.int a1)]) rfl (Nat.le_of_ble_eq_true rfl) rfl ?_
        refine E_iload_n rfl rfl ?_
        refine E_callS (v := some (.int (nI 0))) (As := [.int a1]) (r0 := []) (cs2 := (ww im lf s d k ls rf rz ra rn rq lt m1 m2 m3 m4 bd fc hd sz el s g fm hm so si sh ce ca td wa kp la bf oo bo pw ow tr)) rfl rfl rfl (Nat.le_of_ble_eq_true rfl) rfl (L49_X5_isShelf (by omega) (by omega)) (by decide) rfl ?_
        refine E_if (t := 9) (b := false) rfl rfl (by decide) ?_
        refine E_iconst (x := nI 1) rfl (by decide) ?_
        exact E_iret rfl rfl
      refine E_callV (v := some (.int (nI 1))) (As := [.ref 0, .int a1]) (r0 := []) (cs2 := (ww im lf s d k ls rf rz ra rn rq lt m1 m2 m3 m4 bd fc hd sz el s g fm hm so si sh ce ca td wa kp la bf oo bo pw ow tr)) rfl rfl rfl (Nat.le_of_ble_eq_true rfl) rfl (ab_rvOf w0 rfl) e1 (by decide) rfl ?_
      refine E_istore_n (L2 := [some (.ref 0), some (.int a1), some (.int (nI 1)), none]) rfl rfl ?_
      refine E_iload_n rfl rfl ?_
      refine E_if (t := 16) (b := false) rfl rfl (by decide) ?_
      refine E_aload_n rfl rfl ?_
      refine E_iload_n rfl rfl ?_
      refine E_callV (v := some (.int (-1))) (As := [.ref 0, .int (nI 1)]) (r0 := []) (cs2 := (ww im lf s d k ls rf rz ra rn rq lt m1 m2 m3 m4 bd (fc.set 1 ((fc.getD 1 0) + (nI 1))) hd sz el s g fm hm so si sh ce ca td wa kp la bf oo bo pw ow tr)) rfl rfl rfl (Nat.le_of_ble_eq_true rfl) rfl (ab_rvOf w0 rfl) (L6_X5_refuse (by omega)) (by decide) w_lens ?_
      exact E_iret rfl rfl
    · show Ev ab_Z0 4 165 [.ref 65, .int a1] (ww im lf s d k ls rf rz ra rn rq lt m1 m2 m3 m4 bd (fc.set 1 ((fc.getD 1 0) + (nI 1))) hd sz el s g fm hm so si sh ce ca td wa kp la bf oo bo pw ow tr) (some (.int (-1)), (ww im lf s d k ls rf rz ra rn rq lt m1 m2 m3 m4 bd (fc.set 1 ((fc.getD 1 0) + (nI 1))) hd sz el s g (fm.set 1 ((fm.getD 1 0) + (nI 1))) hm so si sh ce ca td wa kp la bf oo bo pw ow tr))
      refine Ef.in (md := mX6_square) (L := [some (.ref 65), some (.int a1), none, none, none]) rfl (Nat.le_of_ble_eq_true rfl) rfl ?_
      refine E_aload_n rfl rfl ?_
      refine E_iload_n rfl rfl ?_
      have e2 : Ev ab_Z0 2 142 [.ref 65, .int a1] (ww im lf s d k ls rf rz ra rn rq lt m1 m2 m3 m4 bd (fc.set 1 ((fc.getD 1 0) + (nI 1))) hd sz el s g fm hm so si sh ce ca td wa kp la bf oo bo pw ow tr) (some (.int (-1)), (ww im lf s d k ls rf rz ra rn rq lt m1 m2 m3 m4 bd (fc.set 1 ((fc.getD 1 0) + (nI 1))) hd sz el s g fm hm so si sh ce ca td wa kp la bf oo bo pw ow tr)) := by
        refine Ef.in (md := mX6_wanted) (L := [some (.ref 65), some (.int a1)]) rfl (Nat.le_of_ble_eq_true rfl) rfl ?_
        refine E_aload_n rfl rfl ?_
        refine E_iload_n rfl rfl ?_
        refine E_callV (v := some (.int (nI 0))) (As := [.ref 65, .int a1]) (r0 := []) (cs2 := (ww im lf s d k ls rf rz ra rn rq lt m1 m2 m3 m4 bd (fc.set 1 ((fc.getD 1 0) + (nI 1))) hd sz el s g fm hm so si sh ce ca td wa kp la bf oo bo pw ow tr)) rfl rfl rfl (Nat.le_of_ble_eq_true rfl) rfl (ab_rvOf w65 rfl) (L50_X6_isShelf (by omega) (by omega)) (by decide) rfl ?_
        refine E_if (t := 12) (b := false) rfl rfl (by decide) ?_
        refine E_iconst (x := (-1)) rfl (by decide) ?_
        refine E_goto (t := 42) rfl rfl ?_
        exact E_iret rfl rfl
      refine E_callV (v := some (.int (-1))) (As := [.ref 65, .int a1]) (r0 := []) (cs2 := (ww im lf s d k ls rf rz ra rn rq lt m1 m2 m3 m4 bd (fc.set 1 ((fc.getD 1 0) + (nI 1))) hd sz el s g fm hm so si sh ce ca td wa kp la bf oo bo pw ow tr)) rfl rfl rfl (Nat.le_of_ble_eq_true rfl) rfl (ab_rvOf w65 rfl) e2 (by decide) rfl ?_
      refine E_istore_n (L2 := [some (.ref 65), some (.int a1), some (.int (-1)), none, none]) rfl rfl ?_
      refine E_iload_n rfl rfl ?_
      refine E_if (t := 16) (b := false) rfl rfl (by decide) ?_
      refine E_aload_n rfl rfl ?_
      refine E_iload_n rfl rfl ?_
      refine E_callV (v := some (.int (-1))) (As := [.ref 65, .int (-1)]) (r0 := []) (cs2 := (ww im lf s d k ls rf rz ra rn rq lt m1 m2 m3 m4 bd (fc.set 1 ((fc.getD 1 0) + (nI 1))) hd sz el s g (fm.set 1 ((fm.getD 1 0) + (nI 1))) hm so si sh ce ca td wa kp la bf oo bo pw ow tr)) rfl rfl rfl (Nat.le_of_ble_eq_true rfl) rfl (ab_rvOf w65 rfl) (L8_X6_no (by omega)) (by decide) w_lens ?_
      exact E_iret rfl rfl
    · exact ⟨I, rfl, hf, ⟨⟨d0, d1, d2, d3, d4, d5, d6, d7, d8⟩, ⟨k0, k1, k2, k3, k4, k5, k6, k7, k8⟩, ⟨r0, r1, r2, r3, r4, r5, r6, r7, r8⟩⟩, iM, iT, iS, l_el, (lr.1), (lr.2.1), (lr.2.2.1), (by simp only [List.length_set]; exact (lr.2.2.2.1)), (by simp only [List.length_set]; exact (lr.2.2.2.2.1)), (lr.2.2.2.2.2.1), (lr.2.2.2.2.2.2.1), (lr.2.2.2.2.2.2.2.1), (lr.2.2.2.2.2.2.2.2.1), (lr.2.2.2.2.2.2.2.2.2.1), (lr.2.2.2.2.2.2.2.2.2.2.1), (lr.2.2.2.2.2.2.2.2.2.2.2.1), (lr.2.2.2.2.2.2.2.2.2.2.2.2.1), (lr.2.2.2.2.2.2.2.2.2.2.2.2.2.1), (lr.2.2.2.2.2.2.2.2.2.2.2.2.2.2.1), (lr.2.2.2.2.2.2.2.2.2.2.2.2.2.2.2.1), (lr.2.2.2.2.2.2.2.2.2.2.2.2.2.2.2.2.1), (lr.2.2.2.2.2.2.2.2.2.2.2.2.2.2.2.2.2.1), (lr.2.2.2.2.2.2.2.2.2.2.2.2.2.2.2.2.2.2.1), (lr.2.2.2.2.2.2.2.2.2.2.2.2.2.2.2.2.2.2.2.1), (lr.2.2.2.2.2.2.2.2.2.2.2.2.2.2.2.2.2.2.2.2)⟩
