/-! done; by program (wip/tools/op.py) -/
set_option maxHeartbeats 4000000 in
theorem op_done (x : St) (hx : wI x) (a1 : Int32) (a2 : Int32) : ∃ (r : Int32) (x1 x2 : St), Ev ab_Z0 7 105 [.ref 0, .int a1, .int a2] (wt x) (some (.int r), wt x1) ∧ Ev ab_Z0 6 196 [.ref 65, .int a1, .int a2] (wt x1) (some (.int r), wt x2) ∧ wI x2 := by
  obtain ⟨im, lf, s, d, k, ls, rf, rz, ra, rn, rq, lt, m1, m2, m3, m4, bd, fc, hd, sz, el, t, g, fm, hm, so, si, sh, ce, ca, td, wa, kp, la, bf, oo, bo, pw, ow, tr⟩ := x
  obtain ⟨I, ts, hf, iQ, iM, iT, iS, l_el, lr⟩ := hx
  replace lr : Hd _ := lr
  have l_fc := lr.2.2.2.1
  have l_fm := lr.2.2.2.2.1
  have l_hm := lr.2.2.2.2.2.1
  have l_si := lr.2.2.2.2.2.2.2.1
  subst ts
  obtain ⟨⟨i0, i1, i2, i3⟩, ⟨i4, i5, i6, i7, i8⟩, ⟨i9, i10⟩, I1, I2, I3, I4⟩ := id I
  obtain ⟨⟨d0, d1, d2, d3, d4, d5, d6, d7, d8⟩, ⟨k0, k1, k2, k3, k4, k5, k6, k7, k8⟩, ⟨r0, r1, r2, r3, r4, r5, r6, r7, r8⟩⟩ := iQ
  rcases ab_int a1 with ⟨a1k, f0, rfl⟩ | f0
  · by_cases f1 : a1k < 8
    · rcases iS a1k (by omega) with ⟨u1, u2, u3⟩ | ⟨xq, u1, u2, u3, u4, u5⟩ | ⟨u1, u2, u3, u4, u5, u6⟩
      · refine ⟨(-3), (im, lf, s, d, k, ls, rf, rz, ra, rn, rq, lt, m1, m2, m3, m4, bd, (fc.set 3 ((fc.getD 3 0) + (nI 1))), hd, sz, el, s, g, fm, hm, so, si, sh, ce, ca, td, wa, kp, la, bf, oo, bo, pw, ow, tr), (im, lf, s, d, k, ls, rf, rz, ra, rn, rq, lt, m1, m2, m3, m4, bd, (fc.set 3 ((fc.getD 3 0) + (nI 1))), hd, sz, el, s, g, (fm.set 3 ((fm.getD 3 0) + (nI 1))), hm, so, si, sh, ce, ca, td, wa, kp, la, bf, oo, bo, pw, ow, tr), ?_, ?_, ?_⟩
        · show Ev ab_Z0 7 105 [.ref 0, .int (nI a1k), .int a2] (ww im lf s d k ls rf rz ra rn rq lt m1 m2 m3 m4 bd fc hd sz el s g fm hm so si sh ce ca td wa kp la bf oo bo pw ow tr) (some (.int (-3)), (ww im lf s d k ls rf rz ra rn rq lt m1 m2 m3 m4 bd (fc.set 3 ((fc.getD 3 0) + (nI 1))) hd sz el s g fm hm so si sh ce ca td wa kp la bf oo bo pw ow tr))
          refine Ef.in (md := mX5_done) (L := [some (.ref 0), some (.int (nI a1k)), some (.int a2), none]) rfl (Nat.le_of_ble_eq_true rfl) rfl ?_
          refine E_aload_n rfl rfl ?_
          refine E_iload_n rfl rfl ?_
          refine E_iload_n rfl rfl ?_
          refine E_bipush (x := nI 20) rfl (by decide) ?_
          refine E_iconst (x := nI 0) rfl (by decide) ?_
          have e4 : Ev ab_Z0 3 120 [.ref 0, .int (nI a1k), .int a2, .int (nI 20), .int (nI 0)] (ww im lf s d k ls rf rz ra rn rq lt m1 m2 m3 m4 bd fc hd sz el s g fm hm so si sh ce ca td wa kp la bf oo bo pw ow tr) (some (.int (nI 3)), (ww im lf s d k ls rf rz ra rn rq lt m1 m2 m3 m4 bd fc hd sz el s g fm hm so si sh ce ca td wa kp la bf oo bo pw ow tr)) := by
            refine Ef.in (md := mX5_whyNoTwos) (L := [some (.ref 0), some (.int (nI a1k)), some (.int a2), some (.int (nI 20)), some (.int (nI 0)), none]) rfl (Nat.le_of_ble_eq_true rfl) rfl ?_
            refine E_aload_n rfl rfl ?_
            refine E_iload_n rfl rfl ?_
            have e3 : Ev ab_Z0 2 119 [.ref 0, .int (nI a1k)] (ww im lf s d k ls rf rz ra rn rq lt m1 m2 m3 m4 bd fc hd sz el s g fm hm so si sh ce ca td wa kp la bf oo bo pw ow tr) (some (.int (nI 3)), (ww im lf s d k ls rf rz ra rn rq lt m1 m2 m3 m4 bd fc hd sz el s g fm hm so si sh ce ca td wa kp la bf oo bo pw ow tr)) := by
              refine Ef.in (md := mX5_whyNoRow) (L := [some (.ref 0), some (.int (nI a1k))]) rfl (Nat.le_of_ble_eq_true rfl) rfl ?_
              refine E_iload_n rfl rfl ?_
              refine E_callS (v := some (.int (nI 1))) (As := [.int (nI a1k)]) (r0 := []) (cs2 := (ww im lf s d k ls rf rz ra rn rq lt m1 m2 m3 m4 bd fc hd sz el s g fm hm so si sh ce ca td wa kp la bf oo bo pw ow tr)) rfl rfl rfl (Nat.le_of_ble_eq_true rfl) rfl (L39_X5_isShelf (by omega) (by omega) (by omega)) (by decide) rfl ?_
              refine E_if (t := 9) (b := true) rfl rfl (by decide) ?_
              refine E_aload_n rfl rfl ?_
              refine E_getfield (v := .ref 31) rfl w0 rfl (by decide) rfl ?_
              refine E_iload_n rfl rfl ?_
              refine E_aalN (b := 49 + 2 * a1k) rfl w31 (by omega) (w_shs (by omega)) ?_
              have e1 : Ev ab_Z0 1 33 [.ref (49 + 2 * a1k)] (ww im lf s d k ls rf rz ra rn rq lt m1 m2 m3 m4 bd fc hd sz el s g fm hm so si sh ce ca td wa kp la bf oo bo pw ow tr) (some (.int (nI 0)), (ww im lf s d k ls rf rz ra rn rq lt m1 m2 m3 m4 bd fc hd sz el s g fm hm so si sh ce ca td wa kp la bf oo bo pw ow tr)) := by
                refine Ef.in (md := mX3_isOtherThanRow) (L := [some (.ref (49 + 2 * a1k))]) rfl (Nat.le_of_ble_eq_true rfl) rfl ?_
                refine E_aload_n rfl rfl ?_
                refine E_getfield (v := .int (-1)) rfl (w_shv (j := a1k) (by omega) u1 u2) rfl (by decide) rfl ?_
                refine E_if (t := 20) (b := true) rfl rfl (by decide) ?_
                refine E_iconst (x := nI 0) rfl (by decide) ?_
                exact E_iret rfl rfl
              refine E_callV (v := some (.int (nI 0))) (As := [.ref (49 + 2 * a1k)]) (r0 := []) (cs2 := (ww im lf s d k ls rf rz ra rn rq lt m1 m2 m3 m4 bd fc hd sz el s g fm hm so si sh ce ca td wa kp la bf oo bo pw ow tr)) rfl rfl rfl (Nat.le_of_ble_eq_true rfl) rfl (ab_rvOf (w_shv (j := a1k) (by omega) u1 u2) rfl) e1 (by decide) rfl ?_
              refine E_if (t := 23) (b := true) rfl rfl (by decide) ?_
              refine E_aload_n rfl rfl ?_
              refine E_getfield (v := .ref 31) rfl w0 rfl (by decide) rfl ?_
              refine E_iload_n rfl rfl ?_
              refine E_aalN (b := 49 + 2 * a1k) rfl w31 (by omega) (w_shs (by omega)) ?_
              have e2 : Ev ab_Z0 1 32 [.ref (49 + 2 * a1k)] (ww im lf s d k ls rf rz ra rn rq lt m1 m2 m3 m4 bd fc hd sz el s g fm hm so si sh ce ca td wa kp la bf oo bo pw ow tr) (some (.int (nI 1)), (ww im lf s d k ls rf rz ra rn rq lt m1 m2 m3 m4 bd fc hd sz el s g fm hm so si sh ce ca td wa kp la bf oo bo pw ow tr)) := by
                refine Ef.in (md := mX3_isEmpty) (L := [some (.ref (49 + 2 * a1k))]) rfl (Nat.le_of_ble_eq_true rfl) rfl ?_
                refine E_aload_n rfl rfl ?_
                refine E_getfield (v := .int (-1)) rfl (w_shv (j := a1k) (by omega) u1 u2) rfl (by decide) rfl ?_
                refine E_iconst (x := (-1)) rfl (by decide) ?_
                refine E_ic (t := 12) (b := false) rfl rfl (by decide) ?_
                refine E_iconst (x := nI 1) rfl (by decide) ?_
                refine E_goto (t := 13) rfl rfl ?_
                exact E_iret rfl rfl
              refine E_callV (v := some (.int (nI 1))) (As := [.ref (49 + 2 * a1k)]) (r0 := []) (cs2 := (ww im lf s d k ls rf rz ra rn rq lt m1 m2 m3 m4 bd fc hd sz el s g fm hm so si sh ce ca td wa kp la bf oo bo pw ow tr)) rfl rfl rfl (Nat.le_of_ble_eq_true rfl) rfl (ab_rvOf (w_shv (j := a1k) (by omega) u1 u2) rfl) e2 (by decide) rfl ?_
              refine E_if (t := 39) (b := false) rfl rfl (by decide) ?_
              refine E_iconst (x := nI 3) rfl (by decide) ?_
              refine E_goto (t := 40) rfl rfl ?_
              exact E_iret rfl rfl
            refine E_callV (v := some (.int (nI 3))) (As := [.ref 0, .int (nI a1k)]) (r0 := []) (cs2 := (ww im lf s d k ls rf rz ra rn rq lt m1 m2 m3 m4 bd fc hd sz el s g fm hm so si sh ce ca td wa kp la bf oo bo pw ow tr)) rfl rfl rfl (Nat.le_of_ble_eq_true rfl) rfl (ab_rvOf w0 rfl) e3 (by decide) rfl ?_
            refine E_istore (L2 := [some (.ref 0), some (.int (nI a1k)), some (.int a2), some (.int (nI 20)), some (.int (nI 0)), some (.int (nI 3))]) rfl rfl ?_
            refine E_iload rfl rfl ?_
            refine E_if (t := 15) (b := false) rfl rfl (by decide) ?_
            refine E_iload rfl rfl ?_
            exact E_iret rfl rfl
          refine E_callV (v := some (.int (nI 3))) (As := [.ref 0, .int (nI a1k), .int a2, .int (nI 20), .int (nI 0)]) (r0 := []) (cs2 := (ww im lf s d k ls rf rz ra rn rq lt m1 m2 m3 m4 bd fc hd sz el s g fm hm so si sh ce ca td wa kp la bf oo bo pw ow tr)) rfl rfl rfl (Nat.le_of_ble_eq_true rfl) rfl (ab_rvOf w0 rfl) e4 (by decide) rfl ?_
          refine E_istore_n (L2 := [some (.ref 0), some (.int (nI a1k)), some (.int a2), some (.int (nI 3))]) rfl rfl ?_
          refine E_iload_n rfl rfl ?_
          refine E_if (t := 32) (b := true) rfl rfl (by decide) ?_
          refine E_iload_n rfl rfl ?_
          refine E_if (t := 42) (b := false) rfl rfl (by decide) ?_
          refine E_aload_n rfl rfl ?_
          refine E_iload_n rfl rfl ?_
          refine E_callV (v := some (.int (-3))) (As := [.ref 0, .int (nI 3)]) (r0 := []) (cs2 := (ww im lf s d k ls rf rz ra rn rq lt m1 m2 m3 m4 bd (fc.set 3 ((fc.getD 3 0) + (nI 1))) hd sz el s g fm hm so si sh ce ca td wa kp la bf oo bo pw ow tr)) rfl rfl rfl (Nat.le_of_ble_eq_true rfl) rfl (ab_rvOf w0 rfl) (L52_X5_refuse (by omega)) (by decide) w_lens ?_
          exact E_iret rfl rfl
        · show Ev ab_Z0 6 196 [.ref 65, .int (nI a1k), .int a2] (ww im lf s d k ls rf rz ra rn rq lt m1 m2 m3 m4 bd (fc.set 3 ((fc.getD 3 0) + (nI 1))) hd sz el s g fm hm so si sh ce ca td wa kp la bf oo bo pw ow tr) (some (.int (-3)), (ww im lf s d k ls rf rz ra rn rq lt m1 m2 m3 m4 bd (fc.set 3 ((fc.getD 3 0) + (nI 1))) hd sz el s g (fm.set 3 ((fm.getD 3 0) + (nI 1))) hm so si sh ce ca td wa kp la bf oo bo pw ow tr))
          refine Ef.in (md := mX6_done) (L := [some (.ref 65), some (.int (nI a1k)), some (.int a2), none]) rfl (Nat.le_of_ble_eq_true rfl) rfl ?_
          refine E_aload_n rfl rfl ?_
          refine E_iload_n rfl rfl ?_
          refine E_iload_n rfl rfl ?_
          refine E_bipush (x := nI 20) rfl (by decide) ?_
          refine E_iconst (x := nI 1) rfl (by decide) ?_
          have e6 : Ev ab_Z0 3 186 [.ref 65, .int (nI a1k), .int a2, .int (nI 20), .int (nI 1)] (ww im lf s d k ls rf rz ra rn rq lt m1 m2 m3 m4 bd (fc.set 3 ((fc.getD 3 0) + (nI 1))) hd sz el s g fm hm so si sh ce ca td wa kp la bf oo bo pw ow tr) (some (.int (-3)), (ww im lf s d k ls rf rz ra rn rq lt m1 m2 m3 m4 bd (fc.set 3 ((fc.getD 3 0) + (nI 1))) hd sz el s g fm hm so si sh ce ca td wa kp la bf oo bo pw ow tr)) := by
            refine Ef.in (md := mX6_barsOf) (L := [some (.ref 65), some (.int (nI a1k)), some (.int a2), some (.int (nI 20)), some (.int (nI 1)), none]) rfl (Nat.le_of_ble_eq_true rfl) rfl ?_
            refine E_aload_n rfl rfl ?_
            refine E_iload_n rfl rfl ?_
            have e5 : Ev ab_Z0 2 142 [.ref 65, .int (nI a1k)] (ww im lf s d k ls rf rz ra rn rq lt m1 m2 m3 m4 bd (fc.set 3 ((fc.getD 3 0) + (nI 1))) hd sz el s g fm hm so si sh ce ca td wa kp la bf oo bo pw ow tr) (some (.int (-3)), (ww im lf s d k ls rf rz ra rn rq lt m1 m2 m3 m4 bd (fc.set 3 ((fc.getD 3 0) + (nI 1))) hd sz el s g fm hm so si sh ce ca td wa kp la bf oo bo pw ow tr)) := by
              refine Ef.in (md := mX6_wanted) (L := [some (.ref 65), some (.int (nI a1k))]) rfl (Nat.le_of_ble_eq_true rfl) rfl ?_
              refine E_aload_n rfl rfl ?_
              refine E_iload_n rfl rfl ?_
              refine E_callV (v := some (.int (nI 1))) (As := [.ref 65, .int (nI a1k)]) (r0 := []) (cs2 := (ww im lf s d k ls rf rz ra rn rq lt m1 m2 m3 m4 bd (fc.set 3 ((fc.getD 3 0) + (nI 1))) hd sz el s g fm hm so si sh ce ca td wa kp la bf oo bo pw ow tr)) rfl rfl rfl (Nat.le_of_ble_eq_true rfl) rfl (ab_rvOf w65 rfl) (L40_X6_isShelf (by omega) (by omega) (by omega)) (by decide) rfl ?_
              refine E_if (t := 12) (b := true) rfl rfl (by decide) ?_
              refine E_aload_n rfl rfl ?_
              refine E_getfield (v := .ref 76) rfl w65 rfl (by decide) rfl ?_
              refine E_iload_n rfl rfl ?_
              refine E_ialN (l := hm) (v := hm.getD a1k 0) rfl w76 (by omega) (by omega) rfl ?_
              refine E_iconst (x := nI 2) rfl (by decide) ?_
              refine E_ic (t := 27) (b := true) rfl rfl ((cn_ne (nI_toInt (by omega)) (nI_toInt (by omega))).trans (decide_eq_true (by omega))) ?_
              refine E_aload_n rfl rfl ?_
              refine E_getfield (v := .ref 76) rfl w65 rfl (by decide) rfl ?_
              refine E_iload_n rfl rfl ?_
              refine E_ialN (l := hm) (v := hm.getD a1k 0) rfl w76 (by omega) (by omega) rfl ?_
              refine E_if (t := 41) (b := false) rfl rfl ((cn_ne (nI_toInt (by omega)) (by decide : (0 : Int32).toInt = 0)).trans (decide_eq_false (by omega))) ?_
              refine E_bipush (x := (-3)) rfl (by decide) ?_
              refine E_goto (t := 42) rfl rfl ?_
              exact E_iret rfl rfl
            refine E_callV (v := some (.int (-3))) (As := [.ref 65, .int (nI a1k)]) (r0 := []) (cs2 := (ww im lf s d k ls rf rz ra rn rq lt m1 m2 m3 m4 bd (fc.set 3 ((fc.getD 3 0) + (nI 1))) hd sz el s g fm hm so si sh ce ca td wa kp la bf oo bo pw ow tr)) rfl rfl rfl (Nat.le_of_ble_eq_true rfl) rfl (ab_rvOf w65 rfl) e5 (by decide) rfl ?_
            refine E_istore (L2 := [some (.ref 65), some (.int (nI a1k)), some (.int a2), some (.int (nI 20)), some (.int (nI 1)), some (.int (-3))]) rfl rfl ?_
            refine E_iload rfl rfl ?_
            refine E_if (t := 17) (b := false) rfl rfl (by decide) ?_
            refine E_iload rfl rfl ?_
            refine E_goto (t := 59) rfl rfl ?_
            exact E_iret rfl rfl
          refine E_callV (v := some (.int (-3))) (As := [.ref 65, .int (nI a1k), .int a2, .int (nI 20), .int (nI 1)]) (r0 := []) (cs2 := (ww im lf s d k ls rf rz ra rn rq lt m1 m2 m3 m4 bd (fc.set 3 ((fc.getD 3 0) + (nI 1))) hd sz el s g fm hm so si sh ce ca td wa kp la bf oo bo pw ow tr)) rfl rfl rfl (Nat.le_of_ble_eq_true rfl) rfl (ab_rvOf w65 rfl) e6 (by decide) rfl ?_
          refine E_istore_n (L2 := [some (.ref 65), some (.int (nI a1k)), some (.int a2), some (.int (-3))]) rfl rfl ?_
          refine E_iload_n rfl rfl ?_
          refine E_if (t := 20) (b := false) rfl rfl (by decide) ?_
          refine E_aload_n rfl rfl ?_
          refine E_iload_n rfl rfl ?_
          refine E_callV (v := some (.int (-3))) (As := [.ref 65, .int (-3)]) (r0 := []) (cs2 := (ww im lf s d k ls rf rz ra rn rq lt m1 m2 m3 m4 bd (fc.set 3 ((fc.getD 3 0) + (nI 1))) hd sz el s g (fm.set 3 ((fm.getD 3 0) + (nI 1))) hm so si sh ce ca td wa kp la bf oo bo pw ow tr)) rfl rfl rfl (Nat.le_of_ble_eq_true rfl) rfl (ab_rvOf w65 rfl) (L53_X6_no (by omega)) (by decide) w_lens ?_
          exact E_iret rfl rfl
        · exact ⟨I, rfl, hf, ⟨⟨d0, d1, d2, d3, d4, d5, d6, d7, d8⟩, ⟨k0, k1, k2, k3, k4, k5, k6, k7, k8⟩, ⟨r0, r1, r2, r3, r4, r5, r6, r7, r8⟩⟩, iM, iT, iS, l_el, (lr.1), (lr.2.1), (lr.2.2.1), (by simp only [List.length_set]; exact (lr.2.2.2.1)), (by simp only [List.length_set]; exact (lr.2.2.2.2.1)), (lr.2.2.2.2.2.1), (lr.2.2.2.2.2.2.1), (lr.2.2.2.2.2.2.2.1), (lr.2.2.2.2.2.2.2.2.1), (lr.2.2.2.2.2.2.2.2.2.1), (lr.2.2.2.2.2.2.2.2.2.2.1), (lr.2.2.2.2.2.2.2.2.2.2.2.1), (lr.2.2.2.2.2.2.2.2.2.2.2.2.1), (lr.2.2.2.2.2.2.2.2.2.2.2.2.2.1), (lr.2.2.2.2.2.2.2.2.2.2.2.2.2.2.1), (lr.2.2.2.2.2.2.2.2.2.2.2.2.2.2.2.1), (lr.2.2.2.2.2.2.2.2.2.2.2.2.2.2.2.2.1), (lr.2.2.2.2.2.2.2.2.2.2.2.2.2.2.2.2.2.1), (lr.2.2.2.2.2.2.2.2.2.2.2.2.2.2.2.2.2.2.1), (lr.2.2.2.2.2.2.2.2.2.2.2.2.2.2.2.2.2.2.2.1), (lr.2.2.2.2.2.2.2.2.2.2.2.2.2.2.2.2.2.2.2.2)⟩
      · refine ⟨(-2), (im, lf, s, d, k, ls, rf, rz, ra, rn, rq, lt, m1, m2, m3, m4, bd, (fc.set 2 ((fc.getD 2 0) + (nI 1))), hd, sz, el, s, g, fm, hm, so, si, sh, ce, ca, td, wa, kp, la, bf, oo, bo, pw, ow, tr), (im, lf, s, d, k, ls, rf, rz, ra, rn, rq, lt, m1, m2, m3, m4, bd, (fc.set 2 ((fc.getD 2 0) + (nI 1))), hd, sz, el, s, g, (fm.set 2 ((fm.getD 2 0) + (nI 1))), hm, so, si, sh, ce, ca, td, wa, kp, la, bf, oo, bo, pw, ow, tr), ?_, ?_, ?_⟩
        · show Ev ab_Z0 7 105 [.ref 0, .int (nI a1k), .int a2] (ww im lf s d k ls rf rz ra rn rq lt m1 m2 m3 m4 bd fc hd sz el s g fm hm so si sh ce ca td wa kp la bf oo bo pw ow tr) (some (.int (-2)), (ww im lf s d k ls rf rz ra rn rq lt m1 m2 m3 m4 bd (fc.set 2 ((fc.getD 2 0) + (nI 1))) hd sz el s g fm hm so si sh ce ca td wa kp la bf oo bo pw ow tr))
          refine Ef.in (md := mX5_done) (L := [some (.ref 0), some (.int (nI a1k)), some (.int a2), none]) rfl (Nat.le_of_ble_eq_true rfl) rfl ?_
          refine E_aload_n rfl rfl ?_
          refine E_iload_n rfl rfl ?_
          refine E_iload_n rfl rfl ?_
          refine E_bipush (x := nI 20) rfl (by decide) ?_
          refine E_iconst (x := nI 0) rfl (by decide) ?_
          have e3 : Ev ab_Z0 3 120 [.ref 0, .int (nI a1k), .int a2, .int (nI 20), .int (nI 0)] (ww im lf s d k ls rf rz ra rn rq lt m1 m2 m3 m4 bd fc hd sz el s g fm hm so si sh ce ca td wa kp la bf oo bo pw ow tr) (some (.int (nI 2)), (ww im lf s d k ls rf rz ra rn rq lt m1 m2 m3 m4 bd fc hd sz el s g fm hm so si sh ce ca td wa kp la bf oo bo pw ow tr)) := by
            refine Ef.in (md := mX5_whyNoTwos) (L := [some (.ref 0), some (.int (nI a1k)), some (.int a2), some (.int (nI 20)), some (.int (nI 0)), none]) rfl (Nat.le_of_ble_eq_true rfl) rfl ?_
            refine E_aload_n rfl rfl ?_
            refine E_iload_n rfl rfl ?_
            have e2 : Ev ab_Z0 2 119 [.ref 0, .int (nI a1k)] (ww im lf s d k ls rf rz ra rn rq lt m1 m2 m3 m4 bd fc hd sz el s g fm hm so si sh ce ca td wa kp la bf oo bo pw ow tr) (some (.int (nI 2)), (ww im lf s d k ls rf rz ra rn rq lt m1 m2 m3 m4 bd fc hd sz el s g fm hm so si sh ce ca td wa kp la bf oo bo pw ow tr)) := by
              refine Ef.in (md := mX5_whyNoRow) (L := [some (.ref 0), some (.int (nI a1k))]) rfl (Nat.le_of_ble_eq_true rfl) rfl ?_
              refine E_iload_n rfl rfl ?_
              refine E_callS (v := some (.int (nI 1))) (As := [.int (nI a1k)]) (r0 := []) (cs2 := (ww im lf s d k ls rf rz ra rn rq lt m1 m2 m3 m4 bd fc hd sz el s g fm hm so si sh ce ca td wa kp la bf oo bo pw ow tr)) rfl rfl rfl (Nat.le_of_ble_eq_true rfl) rfl (L39_X5_isShelf (by omega) (by omega) (by omega)) (by decide) rfl ?_
              refine E_if (t := 9) (b := true) rfl rfl (by decide) ?_
              refine E_aload_n rfl rfl ?_
              refine E_getfield (v := .ref 31) rfl w0 rfl (by decide) rfl ?_
              refine E_iload_n rfl rfl ?_
              refine E_aalN (b := 49 + 2 * a1k) rfl w31 (by omega) (w_shs (by omega)) ?_
              have e1 : Ev ab_Z0 1 33 [.ref (49 + 2 * a1k)] (ww im lf s d k ls rf rz ra rn rq lt m1 m2 m3 m4 bd fc hd sz el s g fm hm so si sh ce ca td wa kp la bf oo bo pw ow tr) (some (.int (nI 1)), (ww im lf s d k ls rf rz ra rn rq lt m1 m2 m3 m4 bd fc hd sz el s g fm hm so si sh ce ca td wa kp la bf oo bo pw ow tr)) := by
                refine Ef.in (md := mX3_isOtherThanRow) (L := [some (.ref (49 + 2 * a1k))]) rfl (Nat.le_of_ble_eq_true rfl) rfl ?_
                refine E_aload_n rfl rfl ?_
                refine E_getfield (v := .int (nI xq)) rfl (w_shv (j := a1k) (by omega) u2 u3) rfl (by decide) rfl ?_
                refine E_if (t := 20) (b := false) rfl rfl ((cn_lt (nI_toInt (by omega)) (by decide : (0 : Int32).toInt = 0)).trans (decide_eq_false (by omega))) ?_
                refine E_aload_n rfl rfl ?_
                refine E_getfield (v := .int (nI xq)) rfl (w_shv (j := a1k) (by omega) u2 u3) rfl (by decide) rfl ?_
                refine E_bipush (x := nI 100) rfl (by decide) ?_
                refine E_ic (t := 20) (b := false) rfl rfl ((cn_ge (nI_toInt (by omega)) (nI_toInt (by omega))).trans (decide_eq_false (by omega))) ?_
                refine E_iconst (x := nI 1) rfl (by decide) ?_
                refine E_goto (t := 21) rfl rfl ?_
                exact E_iret rfl rfl
              refine E_callV (v := some (.int (nI 1))) (As := [.ref (49 + 2 * a1k)]) (r0 := []) (cs2 := (ww im lf s d k ls rf rz ra rn rq lt m1 m2 m3 m4 bd fc hd sz el s g fm hm so si sh ce ca td wa kp la bf oo bo pw ow tr)) rfl rfl rfl (Nat.le_of_ble_eq_true rfl) rfl (ab_rvOf (w_shv (j := a1k) (by omega) u2 u3) rfl) e1 (by decide) rfl ?_
              refine E_if (t := 23) (b := false) rfl rfl (by decide) ?_
              refine E_iconst (x := nI 2) rfl (by decide) ?_
              exact E_iret rfl rfl
            refine E_callV (v := some (.int (nI 2))) (As := [.ref 0, .int (nI a1k)]) (r0 := []) (cs2 := (ww im lf s d k ls rf rz ra rn rq lt m1 m2 m3 m4 bd fc hd sz el s g fm hm so si sh ce ca td wa kp la bf oo bo pw ow tr)) rfl rfl rfl (Nat.le_of_ble_eq_true rfl) rfl (ab_rvOf w0 rfl) e2 (by decide) rfl ?_
            refine E_istore (L2 := [some (.ref 0), some (.int (nI a1k)), some (.int a2), some (.int (nI 20)), some (.int (nI 0)), some (.int (nI 2))]) rfl rfl ?_
            refine E_iload rfl rfl ?_
            refine E_if (t := 15) (b := false) rfl rfl (by decide) ?_
            refine E_iload rfl rfl ?_
            exact E_iret rfl rfl
          refine E_callV (v := some (.int (nI 2))) (As := [.ref 0, .int (nI a1k), .int a2, .int (nI 20), .int (nI 0)]) (r0 := []) (cs2 := (ww im lf s d k ls rf rz ra rn rq lt m1 m2 m3 m4 bd fc hd sz el s g fm hm so si sh ce ca td wa kp la bf oo bo pw ow tr)) rfl rfl rfl (Nat.le_of_ble_eq_true rfl) rfl (ab_rvOf w0 rfl) e3 (by decide) rfl ?_
          refine E_istore_n (L2 := [some (.ref 0), some (.int (nI a1k)), some (.int a2), some (.int (nI 2))]) rfl rfl ?_
          refine E_iload_n rfl rfl ?_
          refine E_if (t := 32) (b := true) rfl rfl (by decide) ?_
          refine E_iload_n rfl rfl ?_
          refine E_if (t := 42) (b := false) rfl rfl (by decide) ?_
          refine E_aload_n rfl rfl ?_
          refine E_iload_n rfl rfl ?_
          refine E_callV (v := some (.int (-2))) (As := [.ref 0, .int (nI 2)]) (r0 := []) (cs2 := (ww im lf s d k ls rf rz ra rn rq lt m1 m2 m3 m4 bd (fc.set 2 ((fc.getD 2 0) + (nI 1))) hd sz el s g fm hm so si sh ce ca td wa kp la bf oo bo pw ow tr)) rfl rfl rfl (Nat.le_of_ble_eq_true rfl) rfl (ab_rvOf w0 rfl) (L55_X5_refuse (by omega)) (by decide) w_lens ?_
          exact E_iret rfl rfl
        · show Ev ab_Z0 6 196 [.ref 65, .int (nI a1k), .int a2] (ww im lf s d k ls rf rz ra rn rq lt m1 m2 m3 m4 bd (fc.set 2 ((fc.getD 2 0) + (nI 1))) hd sz el s g fm hm so si sh ce ca td wa kp la bf oo bo pw ow tr) (some (.int (-2)), (ww im lf s d k ls rf rz ra rn rq lt m1 m2 m3 m4 bd (fc.set 2 ((fc.getD 2 0) + (nI 1))) hd sz el s g (fm.set 2 ((fm.getD 2 0) + (nI 1))) hm so si sh ce ca td wa kp la bf oo bo pw ow tr))
          refine Ef.in (md := mX6_done) (L := [some (.ref 65), some (.int (nI a1k)), some (.int a2), none]) rfl (Nat.le_of_ble_eq_true rfl) rfl ?_
          refine E_aload_n rfl rfl ?_
          refine E_iload_n rfl rfl ?_
          refine E_iload_n rfl rfl ?_
          refine E_bipush (x := nI 20) rfl (by decide) ?_
          refine E_iconst (x := nI 1) rfl (by decide) ?_
          have e5 : Ev ab_Z0 3 186 [.ref 65, .int (nI a1k), .int a2, .int (nI 20), .int (nI 1)] (ww im lf s d k ls rf rz ra rn rq lt m1 m2 m3 m4 bd (fc.set 2 ((fc.getD 2 0) + (nI 1))) hd sz el s g fm hm so si sh ce ca td wa kp la bf oo bo pw ow tr) (some (.int (-2)), (ww im lf s d k ls rf rz ra rn rq lt m1 m2 m3 m4 bd (fc.set 2 ((fc.getD 2 0) + (nI 1))) hd sz el s g fm hm so si sh ce ca td wa kp la bf oo bo pw ow tr)) := by
            refine Ef.in (md := mX6_barsOf) (L := [some (.ref 65), some (.int (nI a1k)), some (.int a2), some (.int (nI 20)), some (.int (nI 1)), none]) rfl (Nat.le_of_ble_eq_true rfl) rfl ?_
            refine E_aload_n rfl rfl ?_
            refine E_iload_n rfl rfl ?_
            have e4 : Ev ab_Z0 2 142 [.ref 65, .int (nI a1k)] (ww im lf s d k ls rf rz ra rn rq lt m1 m2 m3 m4 bd (fc.set 2 ((fc.getD 2 0) + (nI 1))) hd sz el s g fm hm so si sh ce ca td wa kp la bf oo bo pw ow tr) (some (.int (-2)), (ww im lf s d k ls rf rz ra rn rq lt m1 m2 m3 m4 bd (fc.set 2 ((fc.getD 2 0) + (nI 1))) hd sz el s g fm hm so si sh ce ca td wa kp la bf oo bo pw ow tr)) := by
              refine Ef.in (md := mX6_wanted) (L := [some (.ref 65), some (.int (nI a1k))]) rfl (Nat.le_of_ble_eq_true rfl) rfl ?_
              refine E_aload_n rfl rfl ?_
              refine E_iload_n rfl rfl ?_
              refine E_callV (v := some (.int (nI 1))) (As := [.ref 65, .int (nI a1k)]) (r0 := []) (cs2 := (ww im lf s d k ls rf rz ra rn rq lt m1 m2 m3 m4 bd (fc.set 2 ((fc.getD 2 0) + (nI 1))) hd sz el s g fm hm so si sh ce ca td wa kp la bf oo bo pw ow tr)) rfl rfl rfl (Nat.le_of_ble_eq_true rfl) rfl (ab_rvOf w65 rfl) (L40_X6_isShelf (by omega) (by omega) (by omega)) (by decide) rfl ?_
              refine E_if (t := 12) (b := true) rfl rfl (by decide) ?_
              refine E_aload_n rfl rfl ?_
              refine E_getfield (v := .ref 76) rfl w65 rfl (by decide) rfl ?_
              refine E_iload_n rfl rfl ?_
              refine E_ialN (l := hm) (v := hm.getD a1k 0) rfl w76 (by omega) (by omega) rfl ?_
              refine E_iconst (x := nI 2) rfl (by decide) ?_
              refine E_ic (t := 27) (b := false) rfl rfl ((cn_ne (nI_toInt (by omega)) (nI_toInt (by omega))).trans (decide_eq_false (by omega))) ?_
              refine E_bipush (x := (-2)) rfl (by decide) ?_
              refine E_goto (t := 42) rfl rfl ?_
              exact E_iret rfl rfl
            refine E_callV (v := some (.int (-2))) (As := [.ref 65, .int (nI a1k)]) (r0 := []) (cs2 := (ww im lf s d k ls rf rz ra rn rq lt m1 m2 m3 m4 bd (fc.set 2 ((fc.getD 2 0) + (nI 1))) hd sz el s g fm hm so si sh ce ca td wa kp la bf oo bo pw ow tr)) rfl rfl rfl (Nat.le_of_ble_eq_true rfl) rfl (ab_rvOf w65 rfl) e4 (by decide) rfl ?_
            refine E_istore (L2 := [some (.ref 65), some (.int (nI a1k)), some (.int a2), some (.int (nI 20)), some (.int (nI 1)), some (.int (-2))]) rfl rfl ?_
            refine E_iload rfl rfl ?_
            refine E_if (t := 17) (b := false) rfl rfl (by decide) ?_
            refine E_iload rfl rfl ?_
            refine E_goto (t := 59) rfl rfl ?_
            exact E_iret rfl rfl
          refine E_callV (v := some (.int (-2))) (As := [.ref 65, .int (nI a1k), .int a2, .int (nI 20), .int (nI 1)]) (r0 := []) (cs2 := (ww im lf s d k ls rf rz ra rn rq lt m1 m2 m3 m4 bd (fc.set 2 ((fc.getD 2 0) + (nI 1))) hd sz el s g fm hm so si sh ce ca td wa kp la bf oo bo pw ow tr)) rfl rfl rfl (Nat.le_of_ble_eq_true rfl) rfl (ab_rvOf w65 rfl) e5 (by decide) rfl ?_
          refine E_istore_n (L2 := [some (.ref 65), some (.int (nI a1k)), some (.int a2), some (.int (-2))]) rfl rfl ?_
          refine E_iload_n rfl rfl ?_
          refine E_if (t := 20) (b := false) rfl rfl (by decide) ?_
          refine E_aload_n rfl rfl ?_
          refine E_iload_n rfl rfl ?_
          refine E_callV (v := some (.int (-2))) (As := [.ref 65, .int (-2)]) (r0 := []) (cs2 := (ww im lf s d k ls rf rz ra rn rq lt m1 m2 m3 m4 bd (fc.set 2 ((fc.getD 2 0) + (nI 1))) hd sz el s g (fm.set 2 ((fm.getD 2 0) + (nI 1))) hm so si sh ce ca td wa kp la bf oo bo pw ow tr)) rfl rfl rfl (Nat.le_of_ble_eq_true rfl) rfl (ab_rvOf w65 rfl) (L56_X6_no (by omega)) (by decide) w_lens ?_
          exact E_iret rfl rfl
        · exact ⟨I, rfl, hf, ⟨⟨d0, d1, d2, d3, d4, d5, d6, d7, d8⟩, ⟨k0, k1, k2, k3, k4, k5, k6, k7, k8⟩, ⟨r0, r1, r2, r3, r4, r5, r6, r7, r8⟩⟩, iM, iT, iS, l_el, (lr.1), (lr.2.1), (lr.2.2.1), (by simp only [List.length_set]; exact (lr.2.2.2.1)), (by simp only [List.length_set]; exact (lr.2.2.2.2.1)), (lr.2.2.2.2.2.1), (lr.2.2.2.2.2.2.1), (lr.2.2.2.2.2.2.2.1), (lr.2.2.2.2.2.2.2.2.1), (lr.2.2.2.2.2.2.2.2.2.1), (lr.2.2.2.2.2.2.2.2.2.2.1), (lr.2.2.2.2.2.2.2.2.2.2.2.1), (lr.2.2.2.2.2.2.2.2.2.2.2.2.1), (lr.2.2.2.2.2.2.2.2.2.2.2.2.2.1), (lr.2.2.2.2.2.2.2.2.2.2.2.2.2.2.1), (lr.2.2.2.2.2.2.2.2.2.2.2.2.2.2.2.1), (lr.2.2.2.2.2.2.2.2.2.2.2.2.2.2.2.2.1), (lr.2.2.2.2.2.2.2.2.2.2.2.2.2.2.2.2.2.1), (lr.2.2.2.2.2.2.2.2.2.2.2.2.2.2.2.2.2.2.1), (lr.2.2.2.2.2.2.2.2.2.2.2.2.2.2.2.2.2.2.2.1), (lr.2.2.2.2.2.2.2.2.2.2.2.2.2.2.2.2.2.2.2.2)⟩
      · rcases ab_int a2 with ⟨a2k, f3, rfl⟩ | f3
        · by_cases f4 : ((si.getD a1k 0) / 2) < a2k
          · refine ⟨(-5), (im, lf, s, d, k, ls, rf, rz, ra, rn, rq, lt, m1, m2, m3, m4, bd, (fc.set 5 ((fc.getD 5 0) + (nI 1))), hd, sz, el, s, g, fm, hm, so, si, sh, ce, ca, td, wa, kp, la, bf, oo, bo, pw, ow, tr), (im, lf, s, d, k, ls, rf, rz, ra, rn, rq, lt, m1, m2, m3, m4, bd, (fc.set 5 ((fc.getD 5 0) + (nI 1))), hd, sz, el, s, g, (fm.set 5 ((fm.getD 5 0) + (nI 1))), hm, so, si, sh, ce, ca, td, wa, kp, la, bf, oo, bo, pw, ow, tr), ?_, ?_, ?_⟩
            · show Ev ab_Z0 7 105 [.ref 0, .int (nI a1k), .int (nI a2k)] (ww im lf s d k ls rf rz ra rn rq lt m1 m2 m3 m4 bd fc hd sz el s g fm hm so si sh ce ca td wa kp la bf oo bo pw ow tr) (some (.int (-5)), (ww im lf s d k ls rf rz ra rn rq lt m1 m2 m3 m4 bd (fc.set 5 ((fc.getD 5 0) + (nI 1))) hd sz el s g fm hm so si sh ce ca td wa kp la bf oo bo pw ow tr))
              refine Ef.in (md := mX5_done) (L := [some (.ref 0), some (.int (nI a1k)), some (.int (nI a2k)), none]) rfl (Nat.le_of_ble_eq_true rfl) rfl ?_
              refine E_aload_n rfl rfl ?_
              refine E_iload_n rfl rfl ?_
              refine E_iload_n rfl rfl ?_
              refine E_bipush (x := nI 20) rfl (by decide) ?_
              refine E_iconst (x := nI 0) rfl (by decide) ?_
              have e4 : Ev ab_Z0 3 120 [.ref 0, .int (nI a1k), .int (nI a2k), .int (nI 20), .int (nI 0)] (ww im lf s d k ls rf rz ra rn rq lt m1 m2 m3 m4 bd fc hd sz el s g fm hm so si sh ce ca td wa kp la bf oo bo pw ow tr) (some (.int (nI 5)), (ww im lf s d k ls rf rz ra rn rq lt m1 m2 m3 m4 bd fc hd sz el s g fm hm so si sh ce ca td wa kp la bf oo bo pw ow tr)) := by
                refine Ef.in (md := mX5_whyNoTwos) (L := [some (.ref 0), some (.int (nI a1k)), some (.int (nI a2k)), some (.int (nI 20)), some (.int (nI 0)), none]) rfl (Nat.le_of_ble_eq_true rfl) rfl ?_
                refine E_aload_n rfl rfl ?_
                refine E_iload_n rfl rfl ?_
                have e3 : Ev ab_Z0 2 119 [.ref 0, .int (nI a1k)] (ww im lf s d k ls rf rz ra rn rq lt m1 m2 m3 m4 bd fc hd sz el s g fm hm so si sh ce ca td wa kp la bf oo bo pw ow tr) (some (.int (nI 0)), (ww im lf s d k ls rf rz ra rn rq lt m1 m2 m3 m4 bd fc hd sz el s g fm hm so si sh ce ca td wa kp la bf oo bo pw ow tr)) := by
                  refine Ef.in (md := mX5_whyNoRow) (L := [some (.ref 0), some (.int (nI a1k))]) rfl (Nat.le_of_ble_eq_true rfl) rfl ?_
                  refine E_iload_n rfl rfl ?_
                  refine E_callS (v := some (.int (nI 1))) (As := [.int (nI a1k)]) (r0 := []) (cs2 := (ww im lf s d k ls rf rz ra rn rq lt m1 m2 m3 m4 bd fc hd sz el s g fm hm so si sh ce ca td wa kp la bf oo bo pw ow tr)) rfl rfl rfl (Nat.le_of_ble_eq_true rfl) rfl (L39_X5_isShelf (by omega) (by omega) (by omega)) (by decide) rfl ?_
                  refine E_if (t := 9) (b := true) rfl rfl (by decide) ?_
                  refine E_aload_n rfl rfl ?_
                  refine E_getfield (v := .ref 31) rfl w0 rfl (by decide) rfl ?_
                  refine E_iload_n rfl rfl ?_
                  refine E_aalN (b := 49 + 2 * a1k) rfl w31 (by omega) (w_shs (by omega)) ?_
                  have e1 : Ev ab_Z0 1 33 [.ref (49 + 2 * a1k)] (ww im lf s d k ls rf rz ra rn rq lt m1 m2 m3 m4 bd fc hd sz el s g fm hm so si sh ce ca td wa kp la bf oo bo pw ow tr) (some (.int (nI 0)), (ww im lf s d k ls rf rz ra rn rq lt m1 m2 m3 m4 bd fc hd sz el s g fm hm so si sh ce ca td wa kp la bf oo bo pw ow tr)) := by
                    refine Ef.in (md := mX3_isOtherThanRow) (L := [some (.ref (49 + 2 * a1k))]) rfl (Nat.le_of_ble_eq_true rfl) rfl ?_
                    refine E_aload_n rfl rfl ?_
                    refine E_getfield (v := .int (nI (100 + so.getD a1k 0))) rfl (w_shv (j := a1k) (by omega) u1 u2) rfl (by decide) rfl ?_
                    refine E_if (t := 20) (b := false) rfl rfl ((cn_lt (nI_toInt (by omega)) (by decide : (0 : Int32).toInt = 0)).trans (decide_eq_false (by omega))) ?_
                    refine E_aload_n rfl rfl ?_
                    refine E_getfield (v := .int (nI (100 + so.getD a1k 0))) rfl (w_shv (j := a1k) (by omega) u1 u2) rfl (by decide) rfl ?_
                    refine E_bipush (x := nI 100) rfl (by decide) ?_
                    refine E_ic (t := 20) (b := true) rfl rfl ((cn_ge (nI_toInt (by omega)) (nI_toInt (by omega))).trans (decide_eq_true (by omega))) ?_
                    refine E_iconst (x := nI 0) rfl (by decide) ?_
                    exact E_iret rfl rfl
                  refine E_callV (v := some (.int (nI 0))) (As := [.ref (49 + 2 * a1k)]) (r0 := []) (cs2 := (ww im lf s d k ls rf rz ra rn rq lt m1 m2 m3 m4 bd fc hd sz el s g fm hm so si sh ce ca td wa kp la bf oo bo pw ow tr)) rfl rfl rfl (Nat.le_of_ble_eq_true rfl) rfl (ab_rvOf (w_shv (j := a1k) (by omega) u1 u2) rfl) e1 (by decide) rfl ?_
                  refine E_if (t := 23) (b := true) rfl rfl (by decide) ?_
                  refine E_aload_n rfl rfl ?_
                  refine E_getfield (v := .ref 31) rfl w0 rfl (by decide) rfl ?_
                  refine E_iload_n rfl rfl ?_
                  refine E_aalN (b := 49 + 2 * a1k) rfl w31 (by omega) (w_shs (by omega)) ?_
                  have e2 : Ev ab_Z0 1 32 [.ref (49 + 2 * a1k)] (ww im lf s d k ls rf rz ra rn rq lt m1 m2 m3 m4 bd fc hd sz el s g fm hm so si sh ce ca td wa kp la bf oo bo pw ow tr) (some (.int (nI 0)), (ww im lf s d k ls rf rz ra rn rq lt m1 m2 m3 m4 bd fc hd sz el s g fm hm so si sh ce ca td wa kp la bf oo bo pw ow tr)) := by
                    refine Ef.in (md := mX3_isEmpty) (L := [some (.ref (49 + 2 * a1k))]) rfl (Nat.le_of_ble_eq_true rfl) rfl ?_
                    refine E_aload_n rfl rfl ?_
                    refine E_getfield (v := .int (nI (100 + so.getD a1k 0))) rfl (w_shv (j := a1k) (by omega) u1 u2) rfl (by decide) rfl ?_
                    refine E_iconst (x := (-1)) rfl (by decide) ?_
                    refine E_ic (t := 12) (b := true) rfl rfl ((cn_ne (nI_toInt (by omega)) (by decide : (-1 : Int32).toInt = -1)).trans (decide_eq_true (by omega))) ?_
                    refine E_iconst (x := nI 0) rfl (by decide) ?_
                    exact E_iret rfl rfl
                  refine E_callV (v := some (.int (nI 0))) (As := [.ref (49 + 2 * a1k)]) (r0 := []) (cs2 := (ww im lf s d k ls rf rz ra rn rq lt m1 m2 m3 m4 bd fc hd sz el s g fm hm so si sh ce ca td wa kp la bf oo bo pw ow tr)) rfl rfl rfl (Nat.le_of_ble_eq_true rfl) rfl (ab_rvOf (w_shv (j := a1k) (by omega) u1 u2) rfl) e2 (by decide) rfl ?_
                  refine E_if (t := 39) (b := true) rfl rfl (by decide) ?_
                  refine E_iconst (x := nI 0) rfl (by decide) ?_
                  exact E_iret rfl rfl
                refine E_callV (v := some (.int (nI 0))) (As := [.ref 0, .int (nI a1k)]) (r0 := []) (cs2 := (ww im lf s d k ls rf rz ra rn rq lt m1 m2 m3 m4 bd fc hd sz el s g fm hm so si sh ce ca td wa kp la bf oo bo pw ow tr)) rfl rfl rfl (Nat.le_of_ble_eq_true rfl) rfl (ab_rvOf w0 rfl) e3 (by decide) rfl ?_
                refine E_istore (L2 := [some (.ref 0), some (.int (nI a1k)), some (.int (nI a2k)), some (.int (nI 20)), some (.int (nI 0)), some (.int (nI 0))]) rfl rfl ?_
                refine E_iload rfl rfl ?_
                refine E_if (t := 15) (b := true) rfl rfl (by decide) ?_
                refine E_iload_n rfl rfl ?_
                refine E_if (t := 21) (b := true) rfl rfl ((cn_ge (nI_toInt (by omega)) (by decide : (0 : Int32).toInt = 0)).trans (decide_eq_true (by omega))) ?_
                refine E_iload rfl rfl ?_
                refine E_if (t := 41) (b := false) rfl rfl (by decide) ?_
                refine E_iload_n rfl rfl ?_
                refine E_aload_n rfl rfl ?_
                refine E_getfield (v := .ref 31) rfl w0 rfl (by decide) rfl ?_
                refine E_iload_n rfl rfl ?_
                refine E_aalN (b := 49 + 2 * a1k) rfl w31 (by omega) (w_shs (by omega)) ?_
                refine E_getfield (v := .int (nI (si.getD a1k 0))) rfl (w_shv (j := a1k) (by omega) u1 u2) rfl (by decide) rfl ?_
                refine E_iconst (x := nI 2) rfl (by decide) ?_
                refine E_idiv (z := nI ((si.getD a1k 0) / 2)) rfl (by decide) (pk_div (by omega) (by omega) (by omega)) ?_
                refine E_ic (t := 43) (b := false) rfl rfl ((cn_le (nI_toInt (by omega)) (nI_toInt (by omega))).trans (decide_eq_false (by omega))) ?_
                refine E_iconst (x := nI 5) rfl (by decide) ?_
                exact E_iret rfl rfl
              refine E_callV (v := some (.int (nI 5))) (As := [.ref 0, .int (nI a1k), .int (nI a2k), .int (nI 20), .int (nI 0)]) (r0 := []) (cs2 := (ww im lf s d k ls rf rz ra rn rq lt m1 m2 m3 m4 bd fc hd sz el s g fm hm so si sh ce ca td wa kp la bf oo bo pw ow tr)) rfl rfl rfl (Nat.le_of_ble_eq_true rfl) rfl (ab_rvOf w0 rfl) e4 (by decide) rfl ?_
              refine E_istore_n (L2 := [some (.ref 0), some (.int (nI a1k)), some (.int (nI a2k)), some (.int (nI 5))]) rfl rfl ?_
              refine E_iload_n rfl rfl ?_
              refine E_if (t := 32) (b := true) rfl rfl (by decide) ?_
              refine E_iload_n rfl rfl ?_
              refine E_if (t := 42) (b := false) rfl rfl (by decide) ?_
              refine E_aload_n rfl rfl ?_
              refine E_iload_n rfl rfl ?_
              refine E_callV (v := some (.int (-5))) (As := [.ref 0, .int (nI 5)]) (r0 := []) (cs2 := (ww im lf s d k ls rf rz ra rn rq lt m1 m2 m3 m4 bd (fc.set 5 ((fc.getD 5 0) + (nI 1))) hd sz el s g fm hm so si sh ce ca td wa kp la bf oo bo pw ow tr)) rfl rfl rfl (Nat.le_of_ble_eq_true rfl) rfl (ab_rvOf w0 rfl) (L18_X5_refuse (by omega)) (by decide) w_lens ?_
              exact E_iret rfl rfl
            · show Ev ab_Z0 6 196 [.ref 65, .int (nI a1k), .int (nI a2k)] (ww im lf s d k ls rf rz ra rn rq lt m1 m2 m3 m4 bd (fc.set 5 ((fc.getD 5 0) + (nI 1))) hd sz el s g fm hm so si sh ce ca td wa kp la bf oo bo pw ow tr) (some (.int (-5)), (ww im lf s d k ls rf rz ra rn rq lt m1 m2 m3 m4 bd (fc.set 5 ((fc.getD 5 0) + (nI 1))) hd sz el s g (fm.set 5 ((fm.getD 5 0) + (nI 1))) hm so si sh ce ca td wa kp la bf oo bo pw ow tr))
              refine Ef.in (md := mX6_done) (L := [some (.ref 65), some (.int (nI a1k)), some (.int (nI a2k)), none]) rfl (Nat.le_of_ble_eq_true rfl) rfl ?_
              refine E_aload_n rfl rfl ?_
              refine E_iload_n rfl rfl ?_
              refine E_iload_n rfl rfl ?_
              refine E_bipush (x := nI 20) rfl (by decide) ?_
              refine E_iconst (x := nI 1) rfl (by decide) ?_
              have e6 : Ev ab_Z0 3 186 [.ref 65, .int (nI a1k), .int (nI a2k), .int (nI 20), .int (nI 1)] (ww im lf s d k ls rf rz ra rn rq lt m1 m2 m3 m4 bd (fc.set 5 ((fc.getD 5 0) + (nI 1))) hd sz el s g fm hm so si sh ce ca td wa kp la bf oo bo pw ow tr) (some (.int (-5)), (ww im lf s d k ls rf rz ra rn rq lt m1 m2 m3 m4 bd (fc.set 5 ((fc.getD 5 0) + (nI 1))) hd sz el s g fm hm so si sh ce ca td wa kp la bf oo bo pw ow tr)) := by
                refine Ef.in (md := mX6_barsOf) (L := [some (.ref 65), some (.int (nI a1k)), some (.int (nI a2k)), some (.int (nI 20)), some (.int (nI 1)), none]) rfl (Nat.le_of_ble_eq_true rfl) rfl ?_
                refine E_aload_n rfl rfl ?_
                refine E_iload_n rfl rfl ?_
                have e5 : Ev ab_Z0 2 142 [.ref 65, .int (nI a1k)] (ww im lf s d k ls rf rz ra rn rq lt m1 m2 m3 m4 bd (fc.set 5 ((fc.getD 5 0) + (nI 1))) hd sz el s g fm hm so si sh ce ca td wa kp la bf oo bo pw ow tr) (some (.int (nI 0)), (ww im lf s d k ls rf rz ra rn rq lt m1 m2 m3 m4 bd (fc.set 5 ((fc.getD 5 0) + (nI 1))) hd sz el s g fm hm so si sh ce ca td wa kp la bf oo bo pw ow tr)) := by
                  refine Ef.in (md := mX6_wanted) (L := [some (.ref 65), some (.int (nI a1k))]) rfl (Nat.le_of_ble_eq_true rfl) rfl ?_
                  refine E_aload_n rfl rfl ?_
                  refine E_iload_n rfl rfl ?_
                  refine E_callV (v := some (.int (nI 1))) (As := [.ref 65, .int (nI a1k)]) (r0 := []) (cs2 := (ww im lf s d k ls rf rz ra rn rq lt m1 m2 m3 m4 bd (fc.set 5 ((fc.getD 5 0) + (nI 1))) hd sz el s g fm hm so si sh ce ca td wa kp la bf oo bo pw ow tr)) rfl rfl rfl (Nat.le_of_ble_eq_true rfl) rfl (ab_rvOf w65 rfl) (L40_X6_isShelf (by omega) (by omega) (by omega)) (by decide) rfl ?_
                  refine E_if (t := 12) (b := true) rfl rfl (by decide) ?_
                  refine E_aload_n rfl rfl ?_
                  refine E_getfield (v := .ref 76) rfl w65 rfl (by decide) rfl ?_
                  refine E_iload_n rfl rfl ?_
                  refine E_ialN (l := hm) (v := hm.getD a1k 0) rfl w76 (by omega) (by omega) rfl ?_
                  refine E_iconst (x := nI 2) rfl (by decide) ?_
                  refine E_ic (t := 27) (b := true) rfl rfl ((cn_ne (nI_toInt (by omega)) (nI_toInt (by omega))).trans (decide_eq_true (by omega))) ?_
                  refine E_aload_n rfl rfl ?_
                  refine E_getfield (v := .ref 76) rfl w65 rfl (by decide) rfl ?_
                  refine E_iload_n rfl rfl ?_
                  refine E_ialN (l := hm) (v := hm.getD a1k 0) rfl w76 (by omega) (by omega) rfl ?_
                  refine E_if (t := 41) (b := true) rfl rfl ((cn_ne (nI_toInt (by omega)) (by decide : (0 : Int32).toInt = 0)).trans (decide_eq_true (by omega))) ?_
                  refine E_iconst (x := nI 0) rfl (by decide) ?_
                  exact E_iret rfl rfl
                refine E_callV (v := some (.int (nI 0))) (As := [.ref 65, .int (nI a1k)]) (r0 := []) (cs2 := (ww im lf s d k ls rf rz ra rn rq lt m1 m2 m3 m4 bd (fc.set 5 ((fc.getD 5 0) + (nI 1))) hd sz el s g fm hm so si sh ce ca td wa kp la bf oo bo pw ow tr)) rfl rfl rfl (Nat.le_of_ble_eq_true rfl) rfl (ab_rvOf w65 rfl) e5 (by decide) rfl ?_
                refine E_istore (L2 := [some (.ref 65), some (.int (nI a1k)), some (.int (nI a2k)), some (.int (nI 20)), some (.int (nI 1)), some (.int (nI 0))]) rfl rfl ?_
                refine E_iload rfl rfl ?_
                refine E_if (t := 17) (b := true) rfl rfl (by decide) ?_
                refine E_iload_n rfl rfl ?_
                refine E_if (t := 26) (b := true) rfl rfl ((cn_ge (nI_toInt (by omega)) (by decide : (0 : Int32).toInt = 0)).trans (decide_eq_true (by omega))) ?_
                refine E_iload_n rfl rfl ?_
                refine E_aload_n rfl rfl ?_
                refine E_getfield (v := .ref 78) rfl w65 rfl (by decide) rfl ?_
                refine E_iload_n rfl rfl ?_
                refine E_ialN (l := si) (v := si.getD a1k 0) rfl w78 (by omega) (by omega) rfl ?_
                refine E_iconst (x := nI 2) rfl (by decide) ?_
                refine E_idiv (z := nI ((si.getD a1k 0) / 2)) rfl (by decide) (pk_div (by omega) (by omega) (by omega)) ?_
                refine E_ic (t := 43) (b := true) rfl rfl ((cn_gt (nI_toInt (by omega)) (nI_toInt (by omega))).trans (decide_eq_true (by omega))) ?_
                refine E_bipush (x := (-5)) rfl (by decide) ?_
                refine E_goto (t := 59) rfl rfl ?_
                exact E_iret rfl rfl
              refine E_callV (v := some (.int (-5))) (As := [.ref 65, .int (nI a1k), .int (nI a2k), .int (nI 20), .int (nI 1)]) (r0 := []) (cs2 := (ww im lf s d k ls rf rz ra rn rq lt m1 m2 m3 m4 bd (fc.set 5 ((fc.getD 5 0) + (nI 1))) hd sz el s g fm hm so si sh ce ca td wa kp la bf oo bo pw ow tr)) rfl rfl rfl (Nat.le_of_ble_eq_true rfl) rfl (ab_rvOf w65 rfl) e6 (by decide) rfl ?_
              refine E_istore_n (L2 := [some (.ref 65), some (.int (nI a1k)), some (.int (nI a2k)), some (.int (-5))]) rfl rfl ?_
              refine E_iload_n rfl rfl ?_
              refine E_if (t := 20) (b := false) rfl rfl (by decide) ?_
              refine E_aload_n rfl rfl ?_
              refine E_iload_n rfl rfl ?_
              refine E_callV (v := some (.int (-5))) (As := [.ref 65, .int (-5)]) (r0 := []) (cs2 := (ww im lf s d k ls rf rz ra rn rq lt m1 m2 m3 m4 bd (fc.set 5 ((fc.getD 5 0) + (nI 1))) hd sz el s g (fm.set 5 ((fm.getD 5 0) + (nI 1))) hm so si sh ce ca td wa kp la bf oo bo pw ow tr)) rfl rfl rfl (Nat.le_of_ble_eq_true rfl) rfl (ab_rvOf w65 rfl) (L19_X6_no (by omega)) (by decide) w_lens ?_
              exact E_iret rfl rfl
            · exact ⟨I, rfl, hf, ⟨⟨d0, d1, d2, d3, d4, d5, d6, d7, d8⟩, ⟨k0, k1, k2, k3, k4, k5, k6, k7, k8⟩, ⟨r0, r1, r2, r3, r4, r5, r6, r7, r8⟩⟩, iM, iT, iS, l_el, (lr.1), (lr.2.1), (lr.2.2.1), (by simp only [List.length_set]; exact (lr.2.2.2.1)), (by simp only [List.length_set]; exact (lr.2.2.2.2.1)), (lr.2.2.2.2.2.1), (lr.2.2.2.2.2.2.1), (lr.2.2.2.2.2.2.2.1), (lr.2.2.2.2.2.2.2.2.1), (lr.2.2.2.2.2.2.2.2.2.1), (lr.2.2.2.2.2.2.2.2.2.2.1), (lr.2.2.2.2.2.2.2.2.2.2.2.1), (lr.2.2.2.2.2.2.2.2.2.2.2.2.1), (lr.2.2.2.2.2.2.2.2.2.2.2.2.2.1), (lr.2.2.2.2.2.2.2.2.2.2.2.2.2.2.1), (lr.2.2.2.2.2.2.2.2.2.2.2.2.2.2.2.1), (lr.2.2.2.2.2.2.2.2.2.2.2.2.2.2.2.2.1), (lr.2.2.2.2.2.2.2.2.2.2.2.2.2.2.2.2.2.1), (lr.2.2.2.2.2.2.2.2.2.2.2.2.2.2.2.2.2.2.1), (lr.2.2.2.2.2.2.2.2.2.2.2.2.2.2.2.2.2.2.2.1), (lr.2.2.2.2.2.2.2.2.2.2.2.2.2.2.2.2.2.2.2.2)⟩
          · by_cases f5 : 20 < a2k
            · refine ⟨(-6), (im, lf, s, d, k, ls, rf, rz, ra, rn, rq, lt, m1, m2, m3, m4, bd, (fc.set 6 ((fc.getD 6 0) + (nI 1))), hd, sz, el, s, g, fm, hm, so, si, sh, ce, ca, td, wa, kp, la, bf, oo, bo, pw, ow, tr), (im, lf, s, d, k, ls, rf, rz, ra, rn, rq, lt, m1, m2, m3, m4, bd, (fc.set 6 ((fc.getD 6 0) + (nI 1))), hd, sz, el, s, g, (fm.set 6 ((fm.getD 6 0) + (nI 1))), hm, so, si, sh, ce, ca, td, wa, kp, la, bf, oo, bo, pw, ow, tr), ?_, ?_, ?_⟩
              · show Ev ab_Z0 7 105 [.ref 0, .int (nI a1k), .int (nI a2k)] (ww im lf s d k ls rf rz ra rn rq lt m1 m2 m3 m4 bd fc hd sz el s g fm hm so si sh ce ca td wa kp la bf oo bo pw ow tr) (some (.int (-6)), (ww im lf s d k ls rf rz ra rn rq lt m1 m2 m3 m4 bd (fc.set 6 ((fc.getD 6 0) + (nI 1))) hd sz el s g fm hm so si sh ce ca td wa kp la bf oo bo pw ow tr))
                refine Ef.in (md := mX5_done) (L := [some (.ref 0), some (.int (nI a1k)), some (.int (nI a2k)), none]) rfl (Nat.le_of_ble_eq_true rfl) rfl ?_
                refine E_aload_n rfl rfl ?_
                refine E_iload_n rfl rfl ?_
                refine E_iload_n rfl rfl ?_
                refine E_bipush (x := nI 20) rfl (by decide) ?_
                refine E_iconst (x := nI 0) rfl (by decide) ?_
                have e4 : Ev ab_Z0 3 120 [.ref 0, .int (nI a1k), .int (nI a2k), .int (nI 20), .int (nI 0)] (ww im lf s d k ls rf rz ra rn rq lt m1 m2 m3 m4 bd fc hd sz el s g fm hm so si sh ce ca td wa kp la bf oo bo pw ow tr) (some (.int (nI 6)), (ww im lf s d k ls rf rz ra rn rq lt m1 m2 m3 m4 bd fc hd sz el s g fm hm so si sh ce ca td wa kp la bf oo bo pw ow tr)) := by
                  refine Ef.in (md := mX5_whyNoTwos) (L := [some (.ref 0), some (.int (nI a1k)), some (.int (nI a2k)), some (.int (nI 20)), some (.int (nI 0)), none]) rfl (Nat.le_of_ble_eq_true rfl) rfl ?_
                  refine E_aload_n rfl rfl ?_
                  refine E_iload_n rfl rfl ?_
                  have e3 : Ev ab_Z0 2 119 [.ref 0, .int (nI a1k)] (ww im lf s d k ls rf rz ra rn rq lt m1 m2 m3 m4 bd fc hd sz el s g fm hm so si sh ce ca td wa kp la bf oo bo pw ow tr) (some (.int (nI 0)), (ww im lf s d k ls rf rz ra rn rq lt m1 m2 m3 m4 bd fc hd sz el s g fm hm so si sh ce ca td wa kp la bf oo bo pw ow tr)) := by
                    refine Ef.in (md := mX5_whyNoRow) (L := [some (.ref 0), some (.int (nI a1k))]) rfl (Nat.le_of_ble_eq_true rfl) rfl ?_
                    refine E_iload_n rfl rfl ?_
                    refine E_callS (v := some (.int (nI 1))) (As := [.int (nI a1k)]) (r0 := []) (cs2 := (ww im lf s d k ls rf rz ra rn rq lt m1 m2 m3 m4 bd fc hd sz el s g fm hm so si sh ce ca td wa kp la bf oo bo pw ow tr)) rfl rfl rfl (Nat.le_of_ble_eq_true rfl) rfl (L39_X5_isShelf (by omega) (by omega) (by omega)) (by decide) rfl ?_
                    refine E_if (t := 9) (b := true) rfl rfl (by decide) ?_
                    refine E_aload_n rfl rfl ?_
                    refine E_getfield (v := .ref 31) rfl w0 rfl (by decide) rfl ?_
                    refine E_iload_n rfl rfl ?_
                    refine E_aalN (b := 49 + 2 * a1k) rfl w31 (by omega) (w_shs (by omega)) ?_
                    have e1 : Ev ab_Z0 1 33 [.ref (49 + 2 * a1k)] (ww im lf s d k ls rf rz ra rn rq lt m1 m2 m3 m4 bd fc hd sz el s g fm hm so si sh ce ca td wa kp la bf oo bo pw ow tr) (some (.int (nI 0)), (ww im lf s d k ls rf rz ra rn rq lt m1 m2 m3 m4 bd fc hd sz el s g fm hm so si sh ce ca td wa kp la bf oo bo pw ow tr)) := by
                      refine Ef.in (md := mX3_isOtherThanRow) (L := [some (.ref (49 + 2 * a1k))]) rfl (Nat.le_of_ble_eq_true rfl) rfl ?_
                      refine E_aload_n rfl rfl ?_
                      refine E_getfield (v := .int (nI (100 + so.getD a1k 0))) rfl (w_shv (j := a1k) (by omega) u1 u2) rfl (by decide) rfl ?_
                      refine E_if (t := 20) (b := false) rfl rfl ((cn_lt (nI_toInt (by omega)) (by decide : (0 : Int32).toInt = 0)).trans (decide_eq_false (by omega))) ?_
                      refine E_aload_n rfl rfl ?_
                      refine E_getfield (v := .int (nI (100 + so.getD a1k 0))) rfl (w_shv (j := a1k) (by omega) u1 u2) rfl (by decide) rfl ?_
                      refine E_bipush (x := nI 100) rfl (by decide) ?_
                      refine E_ic (t := 20) (b := true) rfl rfl ((cn_ge (nI_toInt (by omega)) (nI_toInt (by omega))).trans (decide_eq_true (by omega))) ?_
                      refine E_iconst (x := nI 0) rfl (by decide) ?_
                      exact E_iret rfl rfl
                    refine E_callV (v := some (.int (nI 0))) (As := [.ref (49 + 2 * a1k)]) (r0 := []) (cs2 := (ww im lf s d k ls rf rz ra rn rq lt m1 m2 m3 m4 bd fc hd sz el s g fm hm so si sh ce ca td wa kp la bf oo bo pw ow tr)) rfl rfl rfl (Nat.le_of_ble_eq_true rfl) rfl (ab_rvOf (w_shv (j := a1k) (by omega) u1 u2) rfl) e1 (by decide) rfl ?_
                    refine E_if (t := 23) (b := true) rfl rfl (by decide) ?_
                    refine E_aload_n rfl rfl ?_
                    refine E_getfield (v := .ref 31) rfl w0 rfl (by decide) rfl ?_
                    refine E_iload_n rfl rfl ?_
                    refine E_aalN (b := 49 + 2 * a1k) rfl w31 (by omega) (w_shs (by omega)) ?_
                    have e2 : Ev ab_Z0 1 32 [.ref (49 + 2 * a1k)] (ww im lf s d k ls rf rz ra rn rq lt m1 m2 m3 m4 bd fc hd sz el s g fm hm so si sh ce ca td wa kp la bf oo bo pw ow tr) (some (.int (nI 0)), (ww im lf s d k ls rf rz ra rn rq lt m1 m2 m3 m4 bd fc hd sz el s g fm hm so si sh ce ca td wa kp la bf oo bo pw ow tr)) := by
                      refine Ef.in (md := mX3_isEmpty) (L := [some (.ref (49 + 2 * a1k))]) rfl (Nat.le_of_ble_eq_true rfl) rfl ?_
                      refine E_aload_n rfl rfl ?_
                      refine E_getfield (v := .int (nI (100 + so.getD a1k 0))) rfl (w_shv (j := a1k) (by omega) u1 u2) rfl (by decide) rfl ?_
                      refine E_iconst (x := (-1)) rfl (by decide) ?_
                      refine E_ic (t := 12) (b := true) rfl rfl ((cn_ne (nI_toInt (by omega)) (by decide : (-1 : Int32).toInt = -1)).trans (decide_eq_true (by omega))) ?_
                      refine E_iconst (x := nI 0) rfl (by decide) ?_
                      exact E_iret rfl rfl
                    refine E_callV (v := some (.int (nI 0))) (As := [.ref (49 + 2 * a1k)]) (r0 := []) (cs2 := (ww im lf s d k ls rf rz ra rn rq lt m1 m2 m3 m4 bd fc hd sz el s g fm hm so si sh ce ca td wa kp la bf oo bo pw ow tr)) rfl rfl rfl (Nat.le_of_ble_eq_true rfl) rfl (ab_rvOf (w_shv (j := a1k) (by omega) u1 u2) rfl) e2 (by decide) rfl ?_
                    refine E_if (t := 39) (b := true) rfl rfl (by decide) ?_
                    refine E_iconst (x := nI 0) rfl (by decide) ?_
                    exact E_iret rfl rfl
                  refine E_callV (v := some (.int (nI 0))) (As := [.ref 0, .int (nI a1k)]) (r0 := []) (cs2 := (ww im lf s d k ls rf rz ra rn rq lt m1 m2 m3 m4 bd fc hd sz el s g fm hm so si sh ce ca td wa kp la bf oo bo pw ow tr)) rfl rfl rfl (Nat.le_of_ble_eq_true rfl) rfl (ab_rvOf w0 rfl) e3 (by decide) rfl ?_
                  refine E_istore (L2 := [some (.ref 0), some (.int (nI a1k)), some (.int (nI a2k)), some (.int (nI 20)), some (.int (nI 0)), some (.int (nI 0))]) rfl rfl ?_
                  refine E_iload rfl rfl ?_
                  refine E_if (t := 15) (b := true) rfl rfl (by decide) ?_
                  refine E_iload_n rfl rfl ?_
                  refine E_if (t := 21) (b := true) rfl rfl ((cn_ge (nI_toInt (by omega)) (by decide : (0 : Int32).toInt = 0)).trans (decide_eq_true (by omega))) ?_
                  refine E_iload rfl rfl ?_
                  refine E_if (t := 41) (b := false) rfl rfl (by decide) ?_
                  refine E_iload_n rfl rfl ?_
                  refine E_aload_n rfl rfl ?_
                  refine E_getfield (v := .ref 31) rfl w0 rfl (by decide) rfl ?_
                  refine E_iload_n rfl rfl ?_
                  refine E_aalN (b := 49 + 2 * a1k) rfl w31 (by omega) (w_shs (by omega)) ?_
                  refine E_getfield (v := .int (nI (si.getD a1k 0))) rfl (w_shv (j := a1k) (by omega) u1 u2) rfl (by decide) rfl ?_
                  refine E_iconst (x := nI 2) rfl (by decide) ?_
                  refine E_idiv (z := nI ((si.getD a1k 0) / 2)) rfl (by decide) (pk_div (by omega) (by omega) (by omega)) ?_
                  refine E_ic (t := 43) (b := true) rfl rfl ((cn_le (nI_toInt (by omega)) (nI_toInt (by omega))).trans (decide_eq_true (by omega))) ?_
                  refine E_iload_n rfl rfl ?_
                  refine E_iload_n rfl rfl ?_
                  refine E_ic (t := 53) (b := false) rfl rfl ((cn_le (nI_toInt (by omega)) (nI_toInt (by omega))).trans (decide_eq_false (by omega))) ?_
                  refine E_bipush (x := nI 6) rfl (by decide) ?_
                  refine E_goto (t := 54) rfl rfl ?_
                  exact E_iret rfl rfl
                refine E_callV (v := some (.int (nI 6))) (As := [.ref 0, .int (nI a1k), .int (nI a2k), .int (nI 20), .int (nI 0)]) (r0 := []) (cs2 := (ww im lf s d k ls rf rz ra rn rq lt m1 m2 m3 m4 bd fc hd sz el s g fm hm so si sh ce ca td wa kp la bf oo bo pw ow tr)) rfl rfl rfl (Nat.le_of_ble_eq_true rfl) rfl (ab_rvOf w0 rfl) e4 (by decide) rfl ?_
                refine E_istore_n (L2 := [some (.ref 0), some (.int (nI a1k)), some (.int (nI a2k)), some (.int (nI 6))]) rfl rfl ?_
                refine E_iload_n rfl rfl ?_
                refine E_if (t := 32) (b := true) rfl rfl (by decide) ?_
                refine E_iload_n rfl rfl ?_
                refine E_if (t := 42) (b := false) rfl rfl (by decide) ?_
                refine E_aload_n rfl rfl ?_
                refine E_iload_n rfl rfl ?_
                refine E_callV (v := some (.int (-6))) (As := [.ref 0, .int (nI 6)]) (r0 := []) (cs2 := (ww im lf s d k ls rf rz ra rn rq lt m1 m2 m3 m4 bd (fc.set 6 ((fc.getD 6 0) + (nI 1))) hd sz el s g fm hm so si sh ce ca td wa kp la bf oo bo pw ow tr)) rfl rfl rfl (Nat.le_of_ble_eq_true rfl) rfl (ab_rvOf w0 rfl) (L26_X5_refuse (by omega)) (by decide) w_lens ?_
                exact E_iret rfl rfl
              · show Ev ab_Z0 6 196 [.ref 65, .int (nI a1k), .int (nI a2k)] (ww im lf s d k ls rf rz ra rn rq lt m1 m2 m3 m4 bd (fc.set 6 ((fc.getD 6 0) + (nI 1))) hd sz el s g fm hm so si sh ce ca td wa kp la bf oo bo pw ow tr) (some (.int (-6)), (ww im lf s d k ls rf rz ra rn rq lt m1 m2 m3 m4 bd (fc.set 6 ((fc.getD 6 0) + (nI 1))) hd sz el s g (fm.set 6 ((fm.getD 6 0) + (nI 1))) hm so si sh ce ca td wa kp la bf oo bo pw ow tr))
                refine Ef.in (md := mX6_done) (L := [some (.ref 65), some (.int (nI a1k)), some (.int (nI a2k)), none]) rfl (Nat.le_of_ble_eq_true rfl) rfl ?_
                refine E_aload_n rfl rfl ?_
                refine E_iload_n rfl rfl ?_
                refine E_iload_n rfl rfl ?_
                refine E_bipush (x := nI 20) rfl (by decide) ?_
                refine E_iconst (x := nI 1) rfl (by decide) ?_
                have e6 : Ev ab_Z0 3 186 [.ref 65, .int (nI a1k), .int (nI a2k), .int (nI 20), .int (nI 1)] (ww im lf s d k ls rf rz ra rn rq lt m1 m2 m3 m4 bd (fc.set 6 ((fc.getD 6 0) + (nI 1))) hd sz el s g fm hm so si sh ce ca td wa kp la bf oo bo pw ow tr) (some (.int (-6)), (ww im lf s d k ls rf rz ra rn rq lt m1 m2 m3 m4 bd (fc.set 6 ((fc.getD 6 0) + (nI 1))) hd sz el s g fm hm so si sh ce ca td wa kp la bf oo bo pw ow tr)) := by
                  refine Ef.in (md := mX6_barsOf) (L := [some (.ref 65), some (.int (nI a1k)), some (.int (nI a2k)), some (.int (nI 20)), some (.int (nI 1)), none]) rfl (Nat.le_of_ble_eq_true rfl) rfl ?_
                  refine E_aload_n rfl rfl ?_
                  refine E_iload_n rfl rfl ?_
                  have e5 : Ev ab_Z0 2 142 [.ref 65, .int (nI a1k)] (ww im lf s d k ls rf rz ra rn rq lt m1 m2 m3 m4 bd (fc.set 6 ((fc.getD 6 0) + (nI 1))) hd sz el s g fm hm so si sh ce ca td wa kp la bf oo bo pw ow tr) (some (.int (nI 0)), (ww im lf s d k ls rf rz ra rn rq lt m1 m2 m3 m4 bd (fc.set 6 ((fc.getD 6 0) + (nI 1))) hd sz el s g fm hm so si sh ce ca td wa kp la bf oo bo pw ow tr)) := by
                    refine Ef.in (md := mX6_wanted) (L := [some (.ref 65), some (.int (nI a1k))]) rfl (Nat.le_of_ble_eq_true rfl) rfl ?_
                    refine E_aload_n rfl rfl ?_
                    refine E_iload_n rfl rfl ?_
                    refine E_callV (v := some (.int (nI 1))) (As := [.ref 65, .int (nI a1k)]) (r0 := []) (cs2 := (ww im lf s d k ls rf rz ra rn rq lt m1 m2 m3 m4 bd (fc.set 6 ((fc.getD 6 0) + (nI 1))) hd sz el s g fm hm so si sh ce ca td wa kp la bf oo bo pw ow tr)) rfl rfl rfl (Nat.le_of_ble_eq_true rfl) rfl (ab_rvOf w65 rfl) (L40_X6_isShelf (by omega) (by omega) (by omega)) (by decide) rfl ?_
                    refine E_if (t := 12) (b := true) rfl rfl (by decide) ?_
                    refine E_aload_n rfl rfl ?_
                    refine E_getfield (v := .ref 76) rfl w65 rfl (by decide) rfl ?_
                    refine E_iload_n rfl rfl ?_
                    refine E_ialN (l := hm) (v := hm.getD a1k 0) rfl w76 (by omega) (by omega) rfl ?_
                    refine E_iconst (x := nI 2) rfl (by decide) ?_
                    refine E_ic (t := 27) (b := true) rfl rfl ((cn_ne (nI_toInt (by omega)) (nI_toInt (by omega))).trans (decide_eq_true (by omega))) ?_
                    refine E_aload_n rfl rfl ?_
                    refine E_getfield (v := .ref 76) rfl w65 rfl (by decide) rfl ?_
                    refine E_iload_n rfl rfl ?_
                    refine E_ialN (l := hm) (v := hm.getD a1k 0) rfl w76 (by omega) (by omega) rfl ?_
                    refine E_if (t := 41) (b := true) rfl rfl ((cn_ne (nI_toInt (by omega)) (by decide : (0 : Int32).toInt = 0)).trans (decide_eq_true (by omega))) ?_
                    refine E_iconst (x := nI 0) rfl (by decide) ?_
                    exact E_iret rfl rfl
                  refine E_callV (v := some (.int (nI 0))) (As := [.ref 65, .int (nI a1k)]) (r0 := []) (cs2 := (ww im lf s d k ls rf rz ra rn rq lt m1 m2 m3 m4 bd (fc.set 6 ((fc.getD 6 0) + (nI 1))) hd sz el s g fm hm so si sh ce ca td wa kp la bf oo bo pw ow tr)) rfl rfl rfl (Nat.le_of_ble_eq_true rfl) rfl (ab_rvOf w65 rfl) e5 (by decide) rfl ?_
                  refine E_istore (L2 := [some (.ref 65), some (.int (nI a1k)), some (.int (nI a2k)), some (.int (nI 20)), some (.int (nI 1)), some (.int (nI 0))]) rfl rfl ?_
                  refine E_iload rfl rfl ?_
                  refine E_if (t := 17) (b := true) rfl rfl (by decide) ?_
                  refine E_iload_n rfl rfl ?_
                  refine E_if (t := 26) (b := true) rfl rfl ((cn_ge (nI_toInt (by omega)) (by decide : (0 : Int32).toInt = 0)).trans (decide_eq_true (by omega))) ?_
                  refine E_iload_n rfl rfl ?_
                  refine E_aload_n rfl rfl ?_
                  refine E_getfield (v := .ref 78) rfl w65 rfl (by decide) rfl ?_
                  refine E_iload_n rfl rfl ?_
                  refine E_ialN (l := si) (v := si.getD a1k 0) rfl w78 (by omega) (by omega) rfl ?_
                  refine E_iconst (x := nI 2) rfl (by decide) ?_
                  refine E_idiv (z := nI ((si.getD a1k 0) / 2)) rfl (by decide) (pk_div (by omega) (by omega) (by omega)) ?_
                  refine E_ic (t := 43) (b := false) rfl rfl ((cn_gt (nI_toInt (by omega)) (nI_toInt (by omega))).trans (decide_eq_false (by omega))) ?_
                  refine E_iload rfl rfl ?_
                  refine E_if (t := 48) (b := true) rfl rfl (by decide) ?_
                  refine E_iload_n rfl rfl ?_
                  refine E_iload_n rfl rfl ?_
                  refine E_ic (t := 58) (b := false) rfl rfl ((cn_le (nI_toInt (by omega)) (nI_toInt (by omega))).trans (decide_eq_false (by omega))) ?_
                  refine E_bipush (x := (-6)) rfl (by decide) ?_
                  refine E_goto (t := 59) rfl rfl ?_
                  exact E_iret rfl rfl
                refine E_callV (v := some (.int (-6))) (As := [.ref 65, .int (nI a1k), .int (nI a2k), .int (nI 20), .int (nI 1)]) (r0 := []) (cs2 := (ww im lf s d k ls rf rz ra rn rq lt m1 m2 m3 m4 bd (fc.set 6 ((fc.getD 6 0) + (nI 1))) hd sz el s g fm hm so si sh ce ca td wa kp la bf oo bo pw ow tr)) rfl rfl rfl (Nat.le_of_ble_eq_true rfl) rfl (ab_rvOf w65 rfl) e6 (by decide) rfl ?_
                refine E_istore_n (L2 := [some (.ref 65), some (.int (nI a1k)), some (.int (nI a2k)), some (.int (-6))]) rfl rfl ?_
                refine E_iload_n rfl rfl ?_
                refine E_if (t := 20) (b := false) rfl rfl (by decide) ?_
                refine E_aload_n rfl rfl ?_
                refine E_iload_n rfl rfl ?_
                refine E_callV (v := some (.int (-6))) (As := [.ref 65, .int (-6)]) (r0 := []) (cs2 := (ww im lf s d k ls rf rz ra rn rq lt m1 m2 m3 m4 bd (fc.set 6 ((fc.getD 6 0) + (nI 1))) hd sz el s g (fm.set 6 ((fm.getD 6 0) + (nI 1))) hm so si sh ce ca td wa kp la bf oo bo pw ow tr)) rfl rfl rfl (Nat.le_of_ble_eq_true rfl) rfl (ab_rvOf w65 rfl) (L28_X6_no (by omega)) (by decide) w_lens ?_
                exact E_iret rfl rfl
              · exact ⟨I, rfl, hf, ⟨⟨d0, d1, d2, d3, d4, d5, d6, d7, d8⟩, ⟨k0, k1, k2, k3, k4, k5, k6, k7, k8⟩, ⟨r0, r1, r2, r3, r4, r5, r6, r7, r8⟩⟩, iM, iT, iS, l_el, (lr.1), (lr.2.1), (lr.2.2.1), (by simp only [List.length_set]; exact (lr.2.2.2.1)), (by simp only [List.length_set]; exact (lr.2.2.2.2.1)), (lr.2.2.2.2.2.1), (lr.2.2.2.2.2.2.1), (lr.2.2.2.2.2.2.2.1), (lr.2.2.2.2.2.2.2.2.1), (lr.2.2.2.2.2.2.2.2.2.1), (lr.2.2.2.2.2.2.2.2.2.2.1), (lr.2.2.2.2.2.2.2.2.2.2.2.1), (lr.2.2.2.2.2.2.2.2.2.2.2.2.1), (lr.2.2.2.2.2.2.2.2.2.2.2.2.2.1), (lr.2.2.2.2.2.2.2.2.2.2.2.2.2.2.1), (lr.2.2.2.2.2.2.2.2.2.2.2.2.2.2.2.1), (lr.2.2.2.2.2.2.2.2.2.2.2.2.2.2.2.2.1), (lr.2.2.2.2.2.2.2.2.2.2.2.2.2.2.2.2.2.1), (lr.2.2.2.2.2.2.2.2.2.2.2.2.2.2.2.2.2.2.1), (lr.2.2.2.2.2.2.2.2.2.2.2.2.2.2.2.2.2.2.2.1), (lr.2.2.2.2.2.2.2.2.2.2.2.2.2.2.2.2.2.2.2.2)⟩
            · rcases dy_first (el a1k) s a2k with hok | ⟨v0, hv0, hno, hok⟩
              · have hN9 : qN (dyS (el a1k) s a2k) ≤ 9 := (dyS_I I a2k).2.2.1.1
                obtain ⟨ls2, hl2, ed⟩ : ∃ ls2 : List Int32, ls2.length = 100 ∧ Ev ab_Z0 6 123 [.ref 0, .ref (49 + 2 * a1k), .int (nI a2k)] (ww im lf s d k ls rf rz ra rn rq lt m1 m2 m3 m4 bd fc hd sz el s g fm hm so si sh ce ca td wa kp la bf oo bo pw ow tr) (some (.int (-1)), (ww im lf s (dyS (el a1k) s a2k) k ls2 rf rz ra rn rq lt m1 m2 m3 m4 bd fc hd sz el s g fm hm so si sh ce ca td wa kp la bf oo bo pw ow tr)) := w_draft0 (by omega) u2 (by omega) (l_el _ (by omega)) (by omega) (by omega) I hok (lr.1) ⟨d0, d1, d2, d3, d4, d5, d6, d7, d8⟩
                obtain ⟨bf2, hb2, eg⟩ : ∃ bf2 : List Int32, bf2.length = 100 ∧ Ev ab_Z0 5 193 [.ref 65, .int (nI a1k), .int (nI a2k)] (ww im lf (dyS (el a1k) s a2k) (dyS (el a1k) s a2k) k ls2 rf rz ra rn rq lt m1 m2 m3 m4 bd fc hd sz el s g fm hm so si sh ce ca td wa kp (qFn s la) bf oo bo pw ow tr) (some (.int (-1)), (ww im lf (dyS (el a1k) s a2k) (dyS (el a1k) s a2k) k ls2 rf rz ra rn rq lt m1 m2 m3 m4 bd fc hd sz el (dyS (el a1k) s a2k) (fUp (fUp (fUp g 43 (nI a2k)) 44 (nI (dyH (el a1k) s a2k))) 45 (nI (dyM (el a1k) s a2k))) fm hm so si sh ce ca td wa kp (qFn s la) bf2 oo bo pw ow tr)) := w_goes0 (by omega) u2 (by omega) (l_el _ (by omega)) (lr.2.2.2.2.2.2.2.2.2.1) u6 (by omega) (by omega) I hok (lr.2.2.2.2.2.2.2.2.2.2.2.2.2.2.2.1)
                refine ⟨(qY (dyS (el a1k) s a2k)), (im, lf, (dyS (el a1k) s a2k), (dyS (el a1k) s a2k), k, ls2, rf, rz, ra, rn, rq, lt, m1, m2, m3, m4, bd, fc, hd, sz, el, s, g, fm, hm, so, si, sh, ce, ca, td, wa, kp, la, bf, oo, bo, pw, ow, tr), (im, lf, (dyS (el a1k) s a2k), (dyS (el a1k) s a2k), k, ls2, rf, rz, ra, rn, rq, lt, m1, m2, m3, m4, bd, fc, hd, sz, el, (dyS (el a1k) s a2k), (fUp (fUp (fUp g 43 (nI a2k)) 44 (nI (dyH (el a1k) s a2k))) 45 (nI (dyM (el a1k) s a2k))), fm, hm, so, si, sh, ce, ca, td, wa, kp, (qFn s la), bf2, oo, bo, pw, ow, tr), ?_, ?_, ?_⟩
                · show Ev ab_Z0 7 105 [.ref 0, .int (nI a1k), .int (nI a2k)] (ww im lf s d k ls rf rz ra rn rq lt m1 m2 m3 m4 bd fc hd sz el s g fm hm so si sh ce ca td wa kp la bf oo bo pw ow tr) (some (.int (qY (dyS (el a1k) s a2k))), (ww im lf (dyS (el a1k) s a2k) (dyS (el a1k) s a2k) k ls2 rf rz ra rn rq lt m1 m2 m3 m4 bd fc hd sz el s g fm hm so si sh ce ca td wa kp la bf oo bo pw ow tr))
                  refine Ef.in (md := mX5_done) (L := [some (.ref 0), some (.int (nI a1k)), some (.int (nI a2k)), none]) rfl (Nat.le_of_ble_eq_true rfl) rfl ?_
                  refine E_aload_n rfl rfl ?_
                  refine E_iload_n rfl rfl ?_
                  refine E_iload_n rfl rfl ?_
                  refine E_bipush (x := nI 20) rfl (by decide) ?_
                  refine E_iconst (x := nI 0) rfl (by decide) ?_
                  have e4 : Ev ab_Z0 3 120 [.ref 0, .int (nI a1k), .int (nI a2k), .int (nI 20), .int (nI 0)] (ww im lf s d k ls rf rz ra rn rq lt m1 m2 m3 m4 bd fc hd sz el s g fm hm so si sh ce ca td wa kp la bf oo bo pw ow tr) (some (.int (nI 0)), (ww im lf s d k ls rf rz ra rn rq lt m1 m2 m3 m4 bd fc hd sz el s g fm hm so si sh ce ca td wa kp la bf oo bo pw ow tr)) := by
                    refine Ef.in (md := mX5_whyNoTwos) (L := [some (.ref 0), some (.int (nI a1k)), some (.int (nI a2k)), some (.int (nI 20)), some (.int (nI 0)), none]) rfl (Nat.le_of_ble_eq_true rfl) rfl ?_
                    refine E_aload_n rfl rfl ?_
                    refine E_iload_n rfl rfl ?_
                    have e3 : Ev ab_Z0 2 119 [.ref 0, .int (nI a1k)] (ww im lf s d k ls rf rz ra rn rq lt m1 m2 m3 m4 bd fc hd sz el s g fm hm so si sh ce ca td wa kp la bf oo bo pw ow tr) (some (.int (nI 0)), (ww im lf s d k ls rf rz ra rn rq lt m1 m2 m3 m4 bd fc hd sz el s g fm hm so si sh ce ca td wa kp la bf oo bo pw ow tr)) := by
                      refine Ef.in (md := mX5_whyNoRow) (L := [some (.ref 0), some (.int (nI a1k))]) rfl (Nat.le_of_ble_eq_true rfl) rfl ?_
                      refine E_iload_n rfl rfl ?_
                      refine E_callS (v := some (.int (nI 1))) (As := [.int (nI a1k)]) (r0 := []) (cs2 := (ww im lf s d k ls rf rz ra rn rq lt m1 m2 m3 m4 bd fc hd sz el s g fm hm so si sh ce ca td wa kp la bf oo bo pw ow tr)) rfl rfl rfl (Nat.le_of_ble_eq_true rfl) rfl (L39_X5_isShelf (by omega) (by omega) (by omega)) (by decide) rfl ?_
                      refine E_if (t := 9) (b := true) rfl rfl (by decide) ?_
                      refine E_aload_n rfl rfl ?_
                      refine E_getfield (v := .ref 31) rfl w0 rfl (by decide) rfl ?_
                      refine E_iload_n rfl rfl ?_
                      refine E_aalN (b := 49 + 2 * a1k) rfl w31 (by omega) (w_shs (by omega)) ?_
                      have e1 : Ev ab_Z0 1 33 [.ref (49 + 2 * a1k)] (ww im lf s d k ls rf rz ra rn rq lt m1 m2 m3 m4 bd fc hd sz el s g fm hm so si sh ce ca td wa kp la bf oo bo pw ow tr) (some (.int (nI 0)), (ww im lf s d k ls rf rz ra rn rq lt m1 m2 m3 m4 bd fc hd sz el s g fm hm so si sh ce ca td wa kp la bf oo bo pw ow tr)) := by
                        refine Ef.in (md := mX3_isOtherThanRow) (L := [some (.ref (49 + 2 * a1k))]) rfl (Nat.le_of_ble_eq_true rfl) rfl ?_
                        refine E_aload_n rfl rfl ?_
                        refine E_getfield (v := .int (nI (100 + so.getD a1k 0))) rfl (w_shv (j := a1k) (by omega) u1 u2) rfl (by decide) rfl ?_
                        refine E_if (t := 20) (b := false) rfl rfl ((cn_lt (nI_toInt (by omega)) (by decide : (0 : Int32).toInt = 0)).trans (decide_eq_false (by omega))) ?_
                        refine E_aload_n rfl rfl ?_
                        refine E_getfield (v := .int (nI (100 + so.getD a1k 0))) rfl (w_shv (j := a1k) (by omega) u1 u2) rfl (by decide) rfl ?_
                        refine E_bipush (x := nI 100) rfl (by decide) ?_
                        refine E_ic (t := 20) (b := true) rfl rfl ((cn_ge (nI_toInt (by omega)) (nI_toInt (by omega))).trans (decide_eq_true (by omega))) ?_
                        refine E_iconst (x := nI 0) rfl (by decide) ?_
                        exact E_iret rfl rfl
                      refine E_callV (v := some (.int (nI 0))) (As := [.ref (49 + 2 * a1k)]) (r0 := []) (cs2 := (ww im lf s d k ls rf rz ra rn rq lt m1 m2 m3 m4 bd fc hd sz el s g fm hm so si sh ce ca td wa kp la bf oo bo pw ow tr)) rfl rfl rfl (Nat.le_of_ble_eq_true rfl) rfl (ab_rvOf (w_shv (j := a1k) (by omega) u1 u2) rfl) e1 (by decide) rfl ?_
                      refine E_if (t := 23) (b := true) rfl rfl (by decide) ?_
                      refine E_aload_n rfl rfl ?_
                      refine E_getfield (v := .ref 31) rfl w0 rfl (by decide) rfl ?_
                      refine E_iload_n rfl rfl ?_
                      refine E_aalN (b := 49 + 2 * a1k) rfl w31 (by omega) (w_shs (by omega)) ?_
                      have e2 : Ev ab_Z0 1 32 [.ref (49 + 2 * a1k)] (ww im lf s d k ls rf rz ra rn rq lt m1 m2 m3 m4 bd fc hd sz el s g fm hm so si sh ce ca td wa kp la bf oo bo pw ow tr) (some (.int (nI 0)), (ww im lf s d k ls rf rz ra rn rq lt m1 m2 m3 m4 bd fc hd sz el s g fm hm so si sh ce ca td wa kp la bf oo bo pw ow tr)) := by
                        refine Ef.in (md := mX3_isEmpty) (L := [some (.ref (49 + 2 * a1k))]) rfl (Nat.le_of_ble_eq_true rfl) rfl ?_
                        refine E_aload_n rfl rfl ?_
                        refine E_getfield (v := .int (nI (100 + so.getD a1k 0))) rfl (w_shv (j := a1k) (by omega) u1 u2) rfl (by decide) rfl ?_
                        refine E_iconst (x := (-1)) rfl (by decide) ?_
                        refine E_ic (t := 12) (b := true) rfl rfl ((cn_ne (nI_toInt (by omega)) (by decide : (-1 : Int32).toInt = -1)).trans (decide_eq_true (by omega))) ?_
                        refine E_iconst (x := nI 0) rfl (by decide) ?_
                        exact E_iret rfl rfl
                      refine E_callV (v := some (.int (nI 0))) (As := [.ref (49 + 2 * a1k)]) (r0 := []) (cs2 := (ww im lf s d k ls rf rz ra rn rq lt m1 m2 m3 m4 bd fc hd sz el s g fm hm so si sh ce ca td wa kp la bf oo bo pw ow tr)) rfl rfl rfl (Nat.le_of_ble_eq_true rfl) rfl (ab_rvOf (w_shv (j := a1k) (by omega) u1 u2) rfl) e2 (by decide) rfl ?_
                      refine E_if (t := 39) (b := true) rfl rfl (by decide) ?_
                      refine E_iconst (x := nI 0) rfl (by decide) ?_
                      exact E_iret rfl rfl
                    refine E_callV (v := some (.int (nI 0))) (As := [.ref 0, .int (nI a1k)]) (r0 := []) (cs2 := (ww im lf s d k ls rf rz ra rn rq lt m1 m2 m3 m4 bd fc hd sz el s g fm hm so si sh ce ca td wa kp la bf oo bo pw ow tr)) rfl rfl rfl (Nat.le_of_ble_eq_true rfl) rfl (ab_rvOf w0 rfl) e3 (by decide) rfl ?_
                    refine E_istore (L2 := [some (.ref 0), some (.int (nI a1k)), some (.int (nI a2k)), some (.int (nI 20)), some (.int (nI 0)), some (.int (nI 0))]) rfl rfl ?_
                    refine E_iload rfl rfl ?_
                    refine E_if (t := 15) (b := true) rfl rfl (by decide) ?_
                    refine E_iload_n rfl rfl ?_
                    refine E_if (t := 21) (b := true) rfl rfl ((cn_ge (nI_toInt (by omega)) (by decide : (0 : Int32).toInt = 0)).trans (decide_eq_true (by omega))) ?_
                    refine E_iload rfl rfl ?_
                    refine E_if (t := 41) (b := false) rfl rfl (by decide) ?_
                    refine E_iload_n rfl rfl ?_
                    refine E_aload_n rfl rfl ?_
                    refine E_getfield (v := .ref 31) rfl w0 rfl (by decide) rfl ?_
                    refine E_iload_n rfl rfl ?_
                    refine E_aalN (b := 49 + 2 * a1k) rfl w31 (by omega) (w_shs (by omega)) ?_
                    refine E_getfield (v := .int (nI (si.getD a1k 0))) rfl (w_shv (j := a1k) (by omega) u1 u2) rfl (by decide) rfl ?_
                    refine E_iconst (x := nI 2) rfl (by decide) ?_
                    refine E_idiv (z := nI ((si.getD a1k 0) / 2)) rfl (by decide) (pk_div (by omega) (by omega) (by omega)) ?_
                    refine E_ic (t := 43) (b := true) rfl rfl ((cn_le (nI_toInt (by omega)) (nI_toInt (by omega))).trans (decide_eq_true (by omega))) ?_
                    refine E_iload_n rfl rfl ?_
                    refine E_iload_n rfl rfl ?_
                    refine E_ic (t := 53) (b := true) rfl rfl ((cn_le (nI_toInt (by omega)) (nI_toInt (by omega))).trans (decide_eq_true (by omega))) ?_
                    refine E_iconst (x := nI 0) rfl (by decide) ?_
                    exact E_iret rfl rfl
                  refine E_callV (v := some (.int (nI 0))) (As := [.ref 0, .int (nI a1k), .int (nI a2k), .int (nI 20), .int (nI 0)]) (r0 := []) (cs2 := (ww im lf s d k ls rf rz ra rn rq lt m1 m2 m3 m4 bd fc hd sz el s g fm hm so si sh ce ca td wa kp la bf oo bo pw ow tr)) rfl rfl rfl (Nat.le_of_ble_eq_true rfl) rfl (ab_rvOf w0 rfl) e4 (by decide) rfl ?_
                  refine E_istore_n (L2 := [some (.ref 0), some (.int (nI a1k)), some (.int (nI a2k)), some (.int (nI 0))]) rfl rfl ?_
                  refine E_iload_n rfl rfl ?_
                  refine E_if (t := 32) (b := false) rfl rfl (by decide) ?_
                  refine E_aload_n rfl rfl ?_
                  refine E_aload_n rfl rfl ?_
                  refine E_getfield (v := .ref 31) rfl w0 rfl (by decide) rfl ?_
                  refine E_iload_n rfl rfl ?_
                  refine E_aalN (b := 49 + 2 * a1k) rfl w31 (by omega) (w_shs (by omega)) ?_
                  refine E_iload_n rfl rfl ?_
                  refine E_callV (v := some (.int (-1))) (As := [.ref 0, .ref (49 + 2 * a1k), .int (nI a2k)]) (r0 := []) (cs2 := (ww im lf s (dyS (el a1k) s a2k) k ls2 rf rz ra rn rq lt m1 m2 m3 m4 bd fc hd sz el s g fm hm so si sh ce ca td wa kp la bf oo bo pw ow tr)) rfl rfl rfl (Nat.le_of_ble_eq_true rfl) rfl (ab_rvOf w0 rfl) ed (by decide) w_lens ?_
                  refine E_iconst (x := (-1)) rfl (by decide) ?_
                  refine E_ic (t := 32) (b := true) rfl rfl (by decide) ?_
                  refine E_iload_n rfl rfl ?_
                  refine E_if (t := 42) (b := true) rfl rfl (by decide) ?_
                  refine E_aload_n rfl rfl ?_
                  refine E_getfield (v := .ref 1) rfl w0 rfl (by decide) rfl ?_
                  refine E_aload_n rfl rfl ?_
                  refine E_getfield (v := .ref 11) rfl w0 rfl (by decide) rfl ?_
                  refine E_callV (v := none) (As := [.ref 1, .ref 11]) (r0 := []) (cs2 := (ww im lf (dyS (el a1k) s a2k) (dyS (el a1k) s a2k) k ls2 rf rz ra rn rq lt m1 m2 m3 m4 bd fc hd sz el s g fm hm so si sh ce ca td wa kp la bf oo bo pw ow tr)) rfl rfl rfl (Nat.le_of_ble_eq_true rfl) rfl (ab_rvOf w1 rfl) (tk_1_11 I.ln (dyS_I I a2k).ln) (by decide) w_lens ?_
                  refine E_aload_n rfl rfl ?_
                  refine E_getfield (v := .ref 1) rfl w0 rfl (by decide) rfl ?_
                  refine E_getfield (v := .int (qY (dyS (el a1k) s a2k))) rfl w1 rfl (by decide) rfl ?_
                  exact E_iret rfl rfl
                · show Ev ab_Z0 6 196 [.ref 65, .int (nI a1k), .int (nI a2k)] (ww im lf (dyS (el a1k) s a2k) (dyS (el a1k) s a2k) k ls2 rf rz ra rn rq lt m1 m2 m3 m4 bd fc hd sz el s g fm hm so si sh ce ca td wa kp la bf oo bo pw ow tr) (some (.int (qY (dyS (el a1k) s a2k))), (ww im lf (dyS (el a1k) s a2k) (dyS (el a1k) s a2k) k ls2 rf rz ra rn rq lt m1 m2 m3 m4 bd fc hd sz el (dyS (el a1k) s a2k) (fUp (fUp (fUp g 43 (nI a2k)) 44 (nI (dyH (el a1k) s a2k))) 45 (nI (dyM (el a1k) s a2k))) fm hm so si sh ce ca td wa kp (qFn s la) bf2 oo bo pw ow tr))
                  refine Ef.in (md := mX6_done) (L := [some (.ref 65), some (.int (nI a1k)), some (.int (nI a2k)), none]) rfl (Nat.le_of_ble_eq_true rfl) rfl ?_
                  refine E_aload_n rfl rfl ?_
                  refine E_iload_n rfl rfl ?_
                  refine E_iload_n rfl rfl ?_
                  refine E_bipush (x := nI 20) rfl (by decide) ?_
                  refine E_iconst (x := nI 1) rfl (by decide) ?_
                  have e6 : Ev ab_Z0 3 186 [.ref 65, .int (nI a1k), .int (nI a2k), .int (nI 20), .int (nI 1)] (ww im lf (dyS (el a1k) s a2k) (dyS (el a1k) s a2k) k ls2 rf rz ra rn rq lt m1 m2 m3 m4 bd fc hd sz el s g fm hm so si sh ce ca td wa kp la bf oo bo pw ow tr) (some (.int (nI 0)), (ww im lf (dyS (el a1k) s a2k) (dyS (el a1k) s a2k) k ls2 rf rz ra rn rq lt m1 m2 m3 m4 bd fc hd sz el s g fm hm so si sh ce ca td wa kp la bf oo bo pw ow tr)) := by
                    refine Ef.in (md := mX6_barsOf) (L := [some (.ref 65), some (.int (nI a1k)), some (.int (nI a2k)), some (.int (nI 20)), some (.int (nI 1)), none]) rfl (Nat.le_of_ble_eq_true rfl) rfl ?_
                    refine E_aload_n rfl rfl ?_
                    refine E_iload_n rfl rfl ?_
                    have e5 : Ev ab_Z0 2 142 [.ref 65, .int (nI a1k)] (ww im lf (dyS (el a1k) s a2k) (dyS (el a1k) s a2k) k ls2 rf rz ra rn rq lt m1 m2 m3 m4 bd fc hd sz el s g fm hm so si sh ce ca td wa kp la bf oo bo pw ow tr) (some (.int (nI 0)), (ww im lf (dyS (el a1k) s a2k) (dyS (el a1k) s a2k) k ls2 rf rz ra rn rq lt m1 m2 m3 m4 bd fc hd sz el s g fm hm so si sh ce ca td wa kp la bf oo bo pw ow tr)) := by
                      refine Ef.in (md := mX6_wanted) (L := [some (.ref 65), some (.int (nI a1k))]) rfl (Nat.le_of_ble_eq_true rfl) rfl ?_
                      refine E_aload_n rfl rfl ?_
                      refine E_iload_n rfl rfl ?_
                      refine E_callV (v := some (.int (nI 1))) (As := [.ref 65, .int (nI a1k)]) (r0 := []) (cs2 := (ww im lf (dyS (el a1k) s a2k) (dyS (el a1k) s a2k) k ls2 rf rz ra rn rq lt m1 m2 m3 m4 bd fc hd sz el s g fm hm so si sh ce ca td wa kp la bf oo bo pw ow tr)) rfl rfl rfl (Nat.le_of_ble_eq_true rfl) rfl (ab_rvOf w65 rfl) (L40_X6_isShelf (by omega) (by omega) (by omega)) (by decide) rfl ?_
                      refine E_if (t := 12) (b := true) rfl rfl (by decide) ?_
                      refine E_aload_n rfl rfl ?_
                      refine E_getfield (v := .ref 76) rfl w65 rfl (by decide) rfl ?_
                      refine E_iload_n rfl rfl ?_
                      refine E_ialN (l := hm) (v := hm.getD a1k 0) rfl w76 (by omega) (by omega) rfl ?_
                      refine E_iconst (x := nI 2) rfl (by decide) ?_
                      refine E_ic (t := 27) (b := true) rfl rfl ((cn_ne (nI_toInt (by omega)) (nI_toInt (by omega))).trans (decide_eq_true (by omega))) ?_
                      refine E_aload_n rfl rfl ?_
                      refine E_getfield (v := .ref 76) rfl w65 rfl (by decide) rfl ?_
                      refine E_iload_n rfl rfl ?_
                      refine E_ialN (l := hm) (v := hm.getD a1k 0) rfl w76 (by omega) (by omega) rfl ?_
                      refine E_if (t := 41) (b := true) rfl rfl ((cn_ne (nI_toInt (by omega)) (by decide : (0 : Int32).toInt = 0)).trans (decide_eq_true (by omega))) ?_
                      refine E_iconst (x := nI 0) rfl (by decide) ?_
                      exact E_iret rfl rfl
                    refine E_callV (v := some (.int (nI 0))) (As := [.ref 65, .int (nI a1k)]) (r0 := []) (cs2 := (ww im lf (dyS (el a1k) s a2k) (dyS (el a1k) s a2k) k ls2 rf rz ra rn rq lt m1 m2 m3 m4 bd fc hd sz el s g fm hm so si sh ce ca td wa kp la bf oo bo pw ow tr)) rfl rfl rfl (Nat.le_of_ble_eq_true rfl) rfl (ab_rvOf w65 rfl) e5 (by decide) rfl ?_
                    refine E_istore (L2 := [some (.ref 65), some (.int (nI a1k)), some (.int (nI a2k)), some (.int (nI 20)), some (.int (nI 1)), some (.int (nI 0))]) rfl rfl ?_
                    refine E_iload rfl rfl ?_
                    refine E_if (t := 17) (b := true) rfl rfl (by decide) ?_
                    refine E_iload_n rfl rfl ?_
                    refine E_if (t := 26) (b := true) rfl rfl ((cn_ge (nI_toInt (by omega)) (by decide : (0 : Int32).toInt = 0)).trans (decide_eq_true (by omega))) ?_
                    refine E_iload_n rfl rfl ?_
                    refine E_aload_n rfl rfl ?_
                    refine E_getfield (v := .ref 78) rfl w65 rfl (by decide) rfl ?_
                    refine E_iload_n rfl rfl ?_
                    refine E_ialN (l := si) (v := si.getD a1k 0) rfl w78 (by omega) (by omega) rfl ?_
                    refine E_iconst (x := nI 2) rfl (by decide) ?_
                    refine E_idiv (z := nI ((si.getD a1k 0) / 2)) rfl (by decide) (pk_div (by omega) (by omega) (by omega)) ?_
                    refine E_ic (t := 43) (b := false) rfl rfl ((cn_gt (nI_toInt (by omega)) (nI_toInt (by omega))).trans (decide_eq_false (by omega))) ?_
                    refine E_iload rfl rfl ?_
                    refine E_if (t := 48) (b := true) rfl rfl (by decide) ?_
                    refine E_iload_n rfl rfl ?_
                    refine E_iload_n rfl rfl ?_
                    refine E_ic (t := 58) (b := true) rfl rfl ((cn_le (nI_toInt (by omega)) (nI_toInt (by omega))).trans (decide_eq_true (by omega))) ?_
                    refine E_iconst (x := nI 0) rfl (by decide) ?_
                    exact E_iret rfl rfl
                  refine E_callV (v := some (.int (nI 0))) (As := [.ref 65, .int (nI a1k), .int (nI a2k), .int (nI 20), .int (nI 1)]) (r0 := []) (cs2 := (ww im lf (dyS (el a1k) s a2k) (dyS (el a1k) s a2k) k ls2 rf rz ra rn rq lt m1 m2 m3 m4 bd fc hd sz el s g fm hm so si sh ce ca td wa kp la bf oo bo pw ow tr)) rfl rfl rfl (Nat.le_of_ble_eq_true rfl) rfl (ab_rvOf w65 rfl) e6 (by decide) rfl ?_
                  refine E_istore_n (L2 := [some (.ref 65), some (.int (nI a1k)), some (.int (nI a2k)), some (.int (nI 0))]) rfl rfl ?_
                  refine E_iload_n rfl rfl ?_
                  refine E_if (t := 20) (b := true) rfl rfl (by decide) ?_
                  refine E_aload_n rfl rfl ?_
                  refine E_aload_n rfl rfl ?_
                  refine E_getfield (v := .ref 88) rfl w65 rfl (by decide) rfl ?_
                  refine E_iconst (x := nI 0) rfl (by decide) ?_
                  refine E_callV (v := none) (As := [.ref 65, .ref 88, .int (nI 0)]) (r0 := []) (cs2 := (ww im lf (dyS (el a1k) s a2k) (dyS (el a1k) s a2k) k ls2 rf rz ra rn rq lt m1 m2 m3 m4 bd fc hd sz el s g fm hm so si sh ce ca td wa kp (qFn s la) bf oo bo pw ow tr)) rfl rfl rfl (Nat.le_of_ble_eq_true rfl) rfl (ab_rvOf w65 rfl) (m_allO_88 I.ln (lr.2.2.2.2.2.2.2.2.2.2.2.2.2.2.1)) (by decide) w_lens ?_
                  refine E_aload_n rfl rfl ?_
                  refine E_iload_n rfl rfl ?_
                  refine E_iload_n rfl rfl ?_
                  refine E_callV (v := some (.int (-1))) (As := [.ref 65, .int (nI a1k), .int (nI a2k)]) (r0 := []) (cs2 := (ww im lf (dyS (el a1k) s a2k) (dyS (el a1k) s a2k) k ls2 rf rz ra rn rq lt m1 m2 m3 m4 bd fc hd sz el (dyS (el a1k) s a2k) (fUp (fUp (fUp g 43 (nI a2k)) 44 (nI (dyH (el a1k) s a2k))) 45 (nI (dyM (el a1k) s a2k))) fm hm so si sh ce ca td wa kp (qFn s la) bf2 oo bo pw ow tr)) rfl rfl rfl (Nat.le_of_ble_eq_true rfl) rfl (ab_rvOf w65 rfl) eg (by decide) w_lens ?_
                  refine E_iconst (x := (-1)) rfl (by decide) ?_
                  refine E_ic (t := 44) (b := false) rfl rfl (by decide) ?_
                  refine E_aload_n rfl rfl ?_
                  refine E_getfield (v := .int (qY (dyS (el a1k) s a2k))) rfl w65 rfl (by decide) rfl ?_
                  exact E_iret rfl rfl
                · exact ⟨(dyS_I I a2k), rfl, hf, ⟨(dyS_I I a2k).ln, ⟨k0, k1, k2, k3, k4, k5, k6, k7, k8⟩, ⟨r0, r1, r2, r3, r4, r5, r6, r7, r8⟩⟩, iM, iT, (iS.n (s2 := (dyS (el a1k) s a2k)) (Nat.le_of_eq (dyS_N _).symm)), l_el, hl2, (lr.2.1), (lr.2.2.1), (lr.2.2.2.1), (lr.2.2.2.2.1), (lr.2.2.2.2.2.1), (lr.2.2.2.2.2.2.1), (lr.2.2.2.2.2.2.2.1), (lr.2.2.2.2.2.2.2.2.1), (lr.2.2.2.2.2.2.2.2.2.1), (lr.2.2.2.2.2.2.2.2.2.2.1), (lr.2.2.2.2.2.2.2.2.2.2.2.1), (lr.2.2.2.2.2.2.2.2.2.2.2.2.1), (lr.2.2.2.2.2.2.2.2.2.2.2.2.2.1), (qFn_len I.ln (lr.2.2.2.2.2.2.2.2.2.2.2.2.2.2.1)), hb2, (lr.2.2.2.2.2.2.2.2.2.2.2.2.2.2.2.2.1), (lr.2.2.2.2.2.2.2.2.2.2.2.2.2.2.2.2.2.1), (lr.2.2.2.2.2.2.2.2.2.2.2.2.2.2.2.2.2.2.1), (lr.2.2.2.2.2.2.2.2.2.2.2.2.2.2.2.2.2.2.2.1), (lr.2.2.2.2.2.2.2.2.2.2.2.2.2.2.2.2.2.2.2.2)⟩
              · have hN9 : qN (dyS (el a1k) s v0) ≤ 9 := (dyS_I I v0).2.2.1.1
                obtain ⟨ls2, hl2, ed⟩ : ∃ ls2 : List Int32, ls2.length = 100 ∧ Ev ab_Z0 6 123 [.ref 0, .ref (49 + 2 * a1k), .int (nI a2k)] (ww im lf s d k ls rf rz ra rn rq lt m1 m2 m3 m4 bd fc hd sz el s g fm hm so si sh ce ca td wa kp la bf oo bo pw ow tr) (some (.int (nI v0)), (ww im lf s (dyS (el a1k) s v0) k ls2 rf rz ra rn rq lt m1 m2 m3 m4 bd fc hd sz el s g fm hm so si sh ce ca td wa kp la bf oo bo pw ow tr)) := w_draft1 (by omega) u2 (by omega) (l_el _ (by omega)) (by omega) (by omega) hv0 I hok hno (lr.1) ⟨d0, d1, d2, d3, d4, d5, d6, d7, d8⟩
                obtain ⟨bf2, hb2, eg⟩ : ∃ bf2 : List Int32, bf2.length = 100 ∧ Ev ab_Z0 5 193 [.ref 65, .int (nI a1k), .int (nI a2k)] (ww im lf s (dyS (el a1k) s v0) k ls2 rf rz ra rn rq lt m1 m2 m3 m4 bd (fc.set 6 ((fc.getD 6 0) + (nI 1))) hd sz el s g fm hm so si sh ce ca td wa kp (qFn s la) bf oo bo pw ow tr) (some (.int (nI v0)), (ww im lf s (dyS (el a1k) s v0) k ls2 rf rz ra rn rq lt m1 m2 m3 m4 bd (fc.set 6 ((fc.getD 6 0) + (nI 1))) hd sz el (dyS (el a1k) s v0) (fUp (fUp (fUp g 43 (nI v0)) 44 (nI (dyH (el a1k) s v0))) 45 (nI (dyM (el a1k) s v0))) fm hm so si sh ce ca td wa kp (qFn s la) bf2 oo bo pw ow tr)) := w_goes1 (by omega) u2 (by omega) (l_el _ (by omega)) (lr.2.2.2.2.2.2.2.2.2.1) u6 (by omega) (by omega) hv0 I hok hno (lr.2.2.2.2.2.2.2.2.2.2.2.2.2.2.2.1)
                refine ⟨(-6), (im, lf, s, (dyS (el a1k) s v0), k, ls2, rf, rz, ra, rn, rq, lt, m1, m2, m3, m4, bd, (fc.set 6 ((fc.getD 6 0) + (nI 1))), hd, sz, el, s, g, fm, hm, so, si, sh, ce, ca, td, wa, kp, la, bf, oo, bo, pw, ow, tr), (im, lf, s, (dyS (el a1k) s v0), k, ls2, rf, rz, ra, rn, rq, lt, m1, m2, m3, m4, bd, (fc.set 6 ((fc.getD 6 0) + (nI 1))), hd, sz, el, s, (fUp (fUp (fUp g 43 (nI v0)) 44 (nI (dyH (el a1k) s v0))) 45 (nI (dyM (el a1k) s v0))), (fm.set 6 ((fm.getD 6 0) + (nI 1))), hm, so, si, sh, ce, ca, td, wa, kp, (qFn s la), bf2, oo, bo, pw, ow, tr), ?_, ?_, ?_⟩
                · show Ev ab_Z0 7 105 [.ref 0, .int (nI a1k), .int (nI a2k)] (ww im lf s d k ls rf rz ra rn rq lt m1 m2 m3 m4 bd fc hd sz el s g fm hm so si sh ce ca td wa kp la bf oo bo pw ow tr) (some (.int (-6)), (ww im lf s (dyS (el a1k) s v0) k ls2 rf rz ra rn rq lt m1 m2 m3 m4 bd (fc.set 6 ((fc.getD 6 0) + (nI 1))) hd sz el s g fm hm so si sh ce ca td wa kp la bf oo bo pw ow tr))
                  refine Ef.in (md := mX5_done) (L := [some (.ref 0), some (.int (nI a1k)), some (.int (nI a2k)), none]) rfl (Nat.le_of_ble_eq_true rfl) rfl ?_
                  refine E_aload_n rfl rfl ?_
                  refine E_iload_n rfl rfl ?_
                  refine E_iload_n rfl rfl ?_
                  refine E_bipush (x := nI 20) rfl (by decide) ?_
                  refine E_iconst (x := nI 0) rfl (by decide) ?_
                  have e4 : Ev ab_Z0 3 120 [.ref 0, .int (nI a1k), .int (nI a2k), .int (nI 20), .int (nI 0)] (ww im lf s d k ls rf rz ra rn rq lt m1 m2 m3 m4 bd fc hd sz el s g fm hm so si sh ce ca td wa kp la bf oo bo pw ow tr) (some (.int (nI 0)), (ww im lf s d k ls rf rz ra rn rq lt m1 m2 m3 m4 bd fc hd sz el s g fm hm so si sh ce ca td wa kp la bf oo bo pw ow tr)) := by
                    refine Ef.in (md := mX5_whyNoTwos) (L := [some (.ref 0), some (.int (nI a1k)), some (.int (nI a2k)), some (.int (nI 20)), some (.int (nI 0)), none]) rfl (Nat.le_of_ble_eq_true rfl) rfl ?_
                    refine E_aload_n rfl rfl ?_
                    refine E_iload_n rfl rfl ?_
                    have e3 : Ev ab_Z0 2 119 [.ref 0, .int (nI a1k)] (ww im lf s d k ls rf rz ra rn rq lt m1 m2 m3 m4 bd fc hd sz el s g fm hm so si sh ce ca td wa kp la bf oo bo pw ow tr) (some (.int (nI 0)), (ww im lf s d k ls rf rz ra rn rq lt m1 m2 m3 m4 bd fc hd sz el s g fm hm so si sh ce ca td wa kp la bf oo bo pw ow tr)) := by
                      refine Ef.in (md := mX5_whyNoRow) (L := [some (.ref 0), some (.int (nI a1k))]) rfl (Nat.le_of_ble_eq_true rfl) rfl ?_
                      refine E_iload_n rfl rfl ?_
                      refine E_callS (v := some (.int (nI 1))) (As := [.int (nI a1k)]) (r0 := []) (cs2 := (ww im lf s d k ls rf rz ra rn rq lt m1 m2 m3 m4 bd fc hd sz el s g fm hm so si sh ce ca td wa kp la bf oo bo pw ow tr)) rfl rfl rfl (Nat.le_of_ble_eq_true rfl) rfl (L39_X5_isShelf (by omega) (by omega) (by omega)) (by decide) rfl ?_
                      refine E_if (t := 9) (b := true) rfl rfl (by decide) ?_
                      refine E_aload_n rfl rfl ?_
                      refine E_getfield (v := .ref 31) rfl w0 rfl (by decide) rfl ?_
                      refine E_iload_n rfl rfl ?_
                      refine E_aalN (b := 49 + 2 * a1k) rfl w31 (by omega) (w_shs (by omega)) ?_
                      have e1 : Ev ab_Z0 1 33 [.ref (49 + 2 * a1k)] (ww im lf s d k ls rf rz ra rn rq lt m1 m2 m3 m4 bd fc hd sz el s g fm hm so si sh ce ca td wa kp la bf oo bo pw ow tr) (some (.int (nI 0)), (ww im lf s d k ls rf rz ra rn rq lt m1 m2 m3 m4 bd fc hd sz el s g fm hm so si sh ce ca td wa kp la bf oo bo pw ow tr)) := by
                        refine Ef.in (md := mX3_isOtherThanRow) (L := [some (.ref (49 + 2 * a1k))]) rfl (Nat.le_of_ble_eq_true rfl) rfl ?_
                        refine E_aload_n rfl rfl ?_
                        refine E_getfield (v := .int (nI (100 + so.getD a1k 0))) rfl (w_shv (j := a1k) (by omega) u1 u2) rfl (by decide) rfl ?_
                        refine E_if (t := 20) (b := false) rfl rfl ((cn_lt (nI_toInt (by omega)) (by decide : (0 : Int32).toInt = 0)).trans (decide_eq_false (by omega))) ?_
                        refine E_aload_n rfl rfl ?_
                        refine E_getfield (v := .int (nI (100 + so.getD a1k 0))) rfl (w_shv (j := a1k) (by omega) u1 u2) rfl (by decide) rfl ?_
                        refine E_bipush (x := nI 100) rfl (by decide) ?_
                        refine E_ic (t := 20) (b := true) rfl rfl ((cn_ge (nI_toInt (by omega)) (nI_toInt (by omega))).trans (decide_eq_true (by omega))) ?_
                        refine E_iconst (x := nI 0) rfl (by decide) ?_
                        exact E_iret rfl rfl
                      refine E_callV (v := some (.int (nI 0))) (As := [.ref (49 + 2 * a1k)]) (r0 := []) (cs2 := (ww im lf s d k ls rf rz ra rn rq lt m1 m2 m3 m4 bd fc hd sz el s g fm hm so si sh ce ca td wa kp la bf oo bo pw ow tr)) rfl rfl rfl (Nat.le_of_ble_eq_true rfl) rfl (ab_rvOf (w_shv (j := a1k) (by omega) u1 u2) rfl) e1 (by decide) rfl ?_
                      refine E_if (t := 23) (b := true) rfl rfl (by decide) ?_
                      refine E_aload_n rfl rfl ?_
                      refine E_getfield (v := .ref 31) rfl w0 rfl (by decide) rfl ?_
                      refine E_iload_n rfl rfl ?_
                      refine E_aalN (b := 49 + 2 * a1k) rfl w31 (by omega) (w_shs (by omega)) ?_
                      have e2 : Ev ab_Z0 1 32 [.ref (49 + 2 * a1k)] (ww im lf s d k ls rf rz ra rn rq lt m1 m2 m3 m4 bd fc hd sz el s g fm hm so si sh ce ca td wa kp la bf oo bo pw ow tr) (some (.int (nI 0)), (ww im lf s d k ls rf rz ra rn rq lt m1 m2 m3 m4 bd fc hd sz el s g fm hm so si sh ce ca td wa kp la bf oo bo pw ow tr)) := by
                        refine Ef.in (md := mX3_isEmpty) (L := [some (.ref (49 + 2 * a1k))]) rfl (Nat.le_of_ble_eq_true rfl) rfl ?_
                        refine E_aload_n rfl rfl ?_
                        refine E_getfield (v := .int (nI (100 + so.getD a1k 0))) rfl (w_shv (j := a1k) (by omega) u1 u2) rfl (by decide) rfl ?_
                        refine E_iconst (x := (-1)) rfl (by decide) ?_
                        refine E_ic (t := 12) (b := true) rfl rfl ((cn_ne (nI_toInt (by omega)) (by decide : (-1 : Int32).toInt = -1)).trans (decide_eq_true (by omega))) ?_
                        refine E_iconst (x := nI 0) rfl (by decide) ?_
                        exact E_iret rfl rfl
                      refine E_callV (v := some (.int (nI 0))) (As := [.ref (49 + 2 * a1k)]) (r0 := []) (cs2 := (ww im lf s d k ls rf rz ra rn rq lt m1 m2 m3 m4 bd fc hd sz el s g fm hm so si sh ce ca td wa kp la bf oo bo pw ow tr)) rfl rfl rfl (Nat.le_of_ble_eq_true rfl) rfl (ab_rvOf (w_shv (j := a1k) (by omega) u1 u2) rfl) e2 (by decide) rfl ?_
                      refine E_if (t := 39) (b := true) rfl rfl (by decide) ?_
                      refine E_iconst (x := nI 0) rfl (by decide) ?_
                      exact E_iret rfl rfl
                    refine E_callV (v := some (.int (nI 0))) (As := [.ref 0, .int (nI a1k)]) (r0 := []) (cs2 := (ww im lf s d k ls rf rz ra rn rq lt m1 m2 m3 m4 bd fc hd sz el s g fm hm so si sh ce ca td wa kp la bf oo bo pw ow tr)) rfl rfl rfl (Nat.le_of_ble_eq_true rfl) rfl (ab_rvOf w0 rfl) e3 (by decide) rfl ?_
                    refine E_istore (L2 := [some (.ref 0), some (.int (nI a1k)), some (.int (nI a2k)), some (.int (nI 20)), some (.int (nI 0)), some (.int (nI 0))]) rfl rfl ?_
                    refine E_iload rfl rfl ?_
                    refine E_if (t := 15) (b := true) rfl rfl (by decide) ?_
                    refine E_iload_n rfl rfl ?_
                    refine E_if (t := 21) (b := true) rfl rfl ((cn_ge (nI_toInt (by omega)) (by decide : (0 : Int32).toInt = 0)).trans (decide_eq_true (by omega))) ?_
                    refine E_iload rfl rfl ?_
                    refine E_if (t := 41) (b := false) rfl rfl (by decide) ?_
                    refine E_iload_n rfl rfl ?_
                    refine E_aload_n rfl rfl ?_
                    refine E_getfield (v := .ref 31) rfl w0 rfl (by decide) rfl ?_
                    refine E_iload_n rfl rfl ?_
                    refine E_aalN (b := 49 + 2 * a1k) rfl w31 (by omega) (w_shs (by omega)) ?_
                    refine E_getfield (v := .int (nI (si.getD a1k 0))) rfl (w_shv (j := a1k) (by omega) u1 u2) rfl (by decide) rfl ?_
                    refine E_iconst (x := nI 2) rfl (by decide) ?_
                    refine E_idiv (z := nI ((si.getD a1k 0) / 2)) rfl (by decide) (pk_div (by omega) (by omega) (by omega)) ?_
                    refine E_ic (t := 43) (b := true) rfl rfl ((cn_le (nI_toInt (by omega)) (nI_toInt (by omega))).trans (decide_eq_true (by omega))) ?_
                    refine E_iload_n rfl rfl ?_
                    refine E_iload_n rfl rfl ?_
                    refine E_ic (t := 53) (b := true) rfl rfl ((cn_le (nI_toInt (by omega)) (nI_toInt (by omega))).trans (decide_eq_true (by omega))) ?_
                    refine E_iconst (x := nI 0) rfl (by decide) ?_
                    exact E_iret rfl rfl
                  refine E_callV (v := some (.int (nI 0))) (As := [.ref 0, .int (nI a1k), .int (nI a2k), .int (nI 20), .int (nI 0)]) (r0 := []) (cs2 := (ww im lf s d k ls rf rz ra rn rq lt m1 m2 m3 m4 bd fc hd sz el s g fm hm so si sh ce ca td wa kp la bf oo bo pw ow tr)) rfl rfl rfl (Nat.le_of_ble_eq_true rfl) rfl (ab_rvOf w0 rfl) e4 (by decide) rfl ?_
                  refine E_istore_n (L2 := [some (.ref 0), some (.int (nI a1k)), some (.int (nI a2k)), some (.int (nI 0))]) rfl rfl ?_
                  refine E_iload_n rfl rfl ?_
                  refine E_if (t := 32) (b := false) rfl rfl (by decide) ?_
                  refine E_aload_n rfl rfl ?_
                  refine E_aload_n rfl rfl ?_
                  refine E_getfield (v := .ref 31) rfl w0 rfl (by decide) rfl ?_
                  refine E_iload_n rfl rfl ?_
                  refine E_aalN (b := 49 + 2 * a1k) rfl w31 (by omega) (w_shs (by omega)) ?_
                  refine E_iload_n rfl rfl ?_
                  refine E_callV (v := some (.int (nI v0))) (As := [.ref 0, .ref (49 + 2 * a1k), .int (nI a2k)]) (r0 := []) (cs2 := (ww im lf s (dyS (el a1k) s v0) k ls2 rf rz ra rn rq lt m1 m2 m3 m4 bd fc hd sz el s g fm hm so si sh ce ca td wa kp la bf oo bo pw ow tr)) rfl rfl rfl (Nat.le_of_ble_eq_true rfl) rfl (ab_rvOf w0 rfl) ed (by decide) w_lens ?_
                  refine E_iconst (x := (-1)) rfl (by decide) ?_
                  refine E_ic (t := 32) (b := false) rfl rfl ((cn_eq (nI_toInt (by omega)) (by decide : (-1 : Int32).toInt = -1)).trans (decide_eq_false (by omega))) ?_
                  refine E_bipush (x := nI 6) rfl (by decide) ?_
                  refine E_istore_n (L2 := [some (.ref 0), some (.int (nI a1k)), some (.int (nI a2k)), some (.int (nI 6))]) rfl rfl ?_
                  refine E_iload_n rfl rfl ?_
                  refine E_if (t := 42) (b := false) rfl rfl (by decide) ?_
                  refine E_aload_n rfl rfl ?_
                  refine E_iload_n rfl rfl ?_
                  refine E_callV (v := some (.int (-6))) (As := [.ref 0, .int (nI 6)]) (r0 := []) (cs2 := (ww im lf s (dyS (el a1k) s v0) k ls2 rf rz ra rn rq lt m1 m2 m3 m4 bd (fc.set 6 ((fc.getD 6 0) + (nI 1))) hd sz el s g fm hm so si sh ce ca td wa kp la bf oo bo pw ow tr)) rfl rfl rfl (Nat.le_of_ble_eq_true rfl) rfl (ab_rvOf w0 rfl) (L26_X5_refuse (by omega)) (by decide) w_lens ?_
                  exact E_iret rfl rfl
                · show Ev ab_Z0 6 196 [.ref 65, .int (nI a1k), .int (nI a2k)] (ww im lf s (dyS (el a1k) s v0) k ls2 rf rz ra rn rq lt m1 m2 m3 m4 bd (fc.set 6 ((fc.getD 6 0) + (nI 1))) hd sz el s g fm hm so si sh ce ca td wa kp la bf oo bo pw ow tr) (some (.int (-6)), (ww im lf s (dyS (el a1k) s v0) k ls2 rf rz ra rn rq lt m1 m2 m3 m4 bd (fc.set 6 ((fc.getD 6 0) + (nI 1))) hd sz el s (fUp (fUp (fUp g 43 (nI v0)) 44 (nI (dyH (el a1k) s v0))) 45 (nI (dyM (el a1k) s v0))) (fm.set 6 ((fm.getD 6 0) + (nI 1))) hm so si sh ce ca td wa kp (qFn s la) bf2 oo bo pw ow tr))
                  refine Ef.in (md := mX6_done) (L := [some (.ref 65), some (.int (nI a1k)), some (.int (nI a2k)), none]) rfl (Nat.le_of_ble_eq_true rfl) rfl ?_
                  refine E_aload_n rfl rfl ?_
                  refine E_iload_n rfl rfl ?_
                  refine E_iload_n rfl rfl ?_
                  refine E_bipush (x := nI 20) rfl (by decide) ?_
                  refine E_iconst (x := nI 1) rfl (by decide) ?_
                  have e6 : Ev ab_Z0 3 186 [.ref 65, .int (nI a1k), .int (nI a2k), .int (nI 20), .int (nI 1)] (ww im lf s (dyS (el a1k) s v0) k ls2 rf rz ra rn rq lt m1 m2 m3 m4 bd (fc.set 6 ((fc.getD 6 0) + (nI 1))) hd sz el s g fm hm so si sh ce ca td wa kp la bf oo bo pw ow tr) (some (.int (nI 0)), (ww im lf s (dyS (el a1k) s v0) k ls2 rf rz ra rn rq lt m1 m2 m3 m4 bd (fc.set 6 ((fc.getD 6 0) + (nI 1))) hd sz el s g fm hm so si sh ce ca td wa kp la bf oo bo pw ow tr)) := by
                    refine Ef.in (md := mX6_barsOf) (L := [some (.ref 65), some (.int (nI a1k)), some (.int (nI a2k)), some (.int (nI 20)), some (.int (nI 1)), none]) rfl (Nat.le_of_ble_eq_true rfl) rfl ?_
                    refine E_aload_n rfl rfl ?_
                    refine E_iload_n rfl rfl ?_
                    have e5 : Ev ab_Z0 2 142 [.ref 65, .int (nI a1k)] (ww im lf s (dyS (el a1k) s v0) k ls2 rf rz ra rn rq lt m1 m2 m3 m4 bd (fc.set 6 ((fc.getD 6 0) + (nI 1))) hd sz el s g fm hm so si sh ce ca td wa kp la bf oo bo pw ow tr) (some (.int (nI 0)), (ww im lf s (dyS (el a1k) s v0) k ls2 rf rz ra rn rq lt m1 m2 m3 m4 bd (fc.set 6 ((fc.getD 6 0) + (nI 1))) hd sz el s g fm hm so si sh ce ca td wa kp la bf oo bo pw ow tr)) := by
                      refine Ef.in (md := mX6_wanted) (L := [some (.ref 65), some (.int (nI a1k))]) rfl (Nat.le_of_ble_eq_true rfl) rfl ?_
                      refine E_aload_n rfl rfl ?_
                      refine E_iload_n rfl rfl ?_
                      refine E_callV (v := some (.int (nI 1))) (As := [.ref 65, .int (nI a1k)]) (r0 := []) (cs2 := (ww im lf s (dyS (el a1k) s v0) k ls2 rf rz ra rn rq lt m1 m2 m3 m4 bd (fc.set 6 ((fc.getD 6 0) + (nI 1))) hd sz el s g fm hm so si sh ce ca td wa kp la bf oo bo pw ow tr)) rfl rfl rfl (Nat.le_of_ble_eq_true rfl) rfl (ab_rvOf w65 rfl) (L40_X6_isShelf (by omega) (by omega) (by omega)) (by decide) rfl ?_
                      refine E_if (t := 12) (b := true) rfl rfl (by decide) ?_
                      refine E_aload_n rfl rfl ?_
                      refine E_getfield (v := .ref 76) rfl w65 rfl (by decide) rfl ?_
                      refine E_iload_n rfl rfl ?_
                      refine E_ialN (l := hm) (v := hm.getD a1k 0) rfl w76 (by omega) (by omega) rfl ?_
                      refine E_iconst (x := nI 2) rfl (by decide) ?_
                      refine E_ic (t := 27) (b := true) rfl rfl ((cn_ne (nI_toInt (by omega)) (nI_toInt (by omega))).trans (decide_eq_true (by omega))) ?_
                      refine E_aload_n rfl rfl ?_
                      refine E_getfield (v := .ref 76) rfl w65 rfl (by decide) rfl ?_
                      refine E_iload_n rfl rfl ?_
                      refine E_ialN (l := hm) (v := hm.getD a1k 0) rfl w76 (by omega) (by omega) rfl ?_
                      refine E_if (t := 41) (b := true) rfl rfl ((cn_ne (nI_toInt (by omega)) (by decide : (0 : Int32).toInt = 0)).trans (decide_eq_true (by omega))) ?_
                      refine E_iconst (x := nI 0) rfl (by decide) ?_
                      exact E_iret rfl rfl
                    refine E_callV (v := some (.int (nI 0))) (As := [.ref 65, .int (nI a1k)]) (r0 := []) (cs2 := (ww im lf s (dyS (el a1k) s v0) k ls2 rf rz ra rn rq lt m1 m2 m3 m4 bd (fc.set 6 ((fc.getD 6 0) + (nI 1))) hd sz el s g fm hm so si sh ce ca td wa kp la bf oo bo pw ow tr)) rfl rfl rfl (Nat.le_of_ble_eq_true rfl) rfl (ab_rvOf w65 rfl) e5 (by decide) rfl ?_
                    refine E_istore (L2 := [some (.ref 65), some (.int (nI a1k)), some (.int (nI a2k)), some (.int (nI 20)), some (.int (nI 1)), some (.int (nI 0))]) rfl rfl ?_
                    refine E_iload rfl rfl ?_
                    refine E_if (t := 17) (b := true) rfl rfl (by decide) ?_
                    refine E_iload_n rfl rfl ?_
                    refine E_if (t := 26) (b := true) rfl rfl ((cn_ge (nI_toInt (by omega)) (by decide : (0 : Int32).toInt = 0)).trans (decide_eq_true (by omega))) ?_
                    refine E_iload_n rfl rfl ?_
                    refine E_aload_n rfl rfl ?_
                    refine E_getfield (v := .ref 78) rfl w65 rfl (by decide) rfl ?_
                    refine E_iload_n rfl rfl ?_
                    refine E_ialN (l := si) (v := si.getD a1k 0) rfl w78 (by omega) (by omega) rfl ?_
                    refine E_iconst (x := nI 2) rfl (by decide) ?_
                    refine E_idiv (z := nI ((si.getD a1k 0) / 2)) rfl (by decide) (pk_div (by omega) (by omega) (by omega)) ?_
                    refine E_ic (t := 43) (b := false) rfl rfl ((cn_gt (nI_toInt (by omega)) (nI_toInt (by omega))).trans (decide_eq_false (by omega))) ?_
                    refine E_iload rfl rfl ?_
                    refine E_if (t := 48) (b := true) rfl rfl (by decide) ?_
                    refine E_iload_n rfl rfl ?_
                    refine E_iload_n rfl rfl ?_
                    refine E_ic (t := 58) (b := true) rfl rfl ((cn_le (nI_toInt (by omega)) (nI_toInt (by omega))).trans (decide_eq_true (by omega))) ?_
                    refine E_iconst (x := nI 0) rfl (by decide) ?_
                    exact E_iret rfl rfl
                  refine E_callV (v := some (.int (nI 0))) (As := [.ref 65, .int (nI a1k), .int (nI a2k), .int (nI 20), .int (nI 1)]) (r0 := []) (cs2 := (ww im lf s (dyS (el a1k) s v0) k ls2 rf rz ra rn rq lt m1 m2 m3 m4 bd (fc.set 6 ((fc.getD 6 0) + (nI 1))) hd sz el s g fm hm so si sh ce ca td wa kp la bf oo bo pw ow tr)) rfl rfl rfl (Nat.le_of_ble_eq_true rfl) rfl (ab_rvOf w65 rfl) e6 (by decide) rfl ?_
                  refine E_istore_n (L2 := [some (.ref 65), some (.int (nI a1k)), some (.int (nI a2k)), some (.int (nI 0))]) rfl rfl ?_
                  refine E_iload_n rfl rfl ?_
                  refine E_if (t := 20) (b := true) rfl rfl (by decide) ?_
                  refine E_aload_n rfl rfl ?_
                  refine E_aload_n rfl rfl ?_
                  refine E_getfield (v := .ref 88) rfl w65 rfl (by decide) rfl ?_
                  refine E_iconst (x := nI 0) rfl (by decide) ?_
                  refine E_callV (v := none) (As := [.ref 65, .ref 88, .int (nI 0)]) (r0 := []) (cs2 := (ww im lf s (dyS (el a1k) s v0) k ls2 rf rz ra rn rq lt m1 m2 m3 m4 bd (fc.set 6 ((fc.getD 6 0) + (nI 1))) hd sz el s g fm hm so si sh ce ca td wa kp (qFn s la) bf oo bo pw ow tr)) rfl rfl rfl (Nat.le_of_ble_eq_true rfl) rfl (ab_rvOf w65 rfl) (m_allO_88 I.ln (lr.2.2.2.2.2.2.2.2.2.2.2.2.2.2.1)) (by decide) w_lens ?_
                  refine E_aload_n rfl rfl ?_
                  refine E_iload_n rfl rfl ?_
                  refine E_iload_n rfl rfl ?_
                  refine E_callV (v := some (.int (nI v0))) (As := [.ref 65, .int (nI a1k), .int (nI a2k)]) (r0 := []) (cs2 := (ww im lf s (dyS (el a1k) s v0) k ls2 rf rz ra rn rq lt m1 m2 m3 m4 bd (fc.set 6 ((fc.getD 6 0) + (nI 1))) hd sz el (dyS (el a1k) s v0) (fUp (fUp (fUp g 43 (nI v0)) 44 (nI (dyH (el a1k) s v0))) 45 (nI (dyM (el a1k) s v0))) fm hm so si sh ce ca td wa kp (qFn s la) bf2 oo bo pw ow tr)) rfl rfl rfl (Nat.le_of_ble_eq_true rfl) rfl (ab_rvOf w65 rfl) eg (by decide) w_lens ?_
                  refine E_iconst (x := (-1)) rfl (by decide) ?_
                  refine E_ic (t := 44) (b := true) rfl rfl ((cn_ne (nI_toInt (by omega)) (by decide : (-1 : Int32).toInt = -1)).trans (decide_eq_true (by omega))) ?_
                  refine E_aload_n rfl rfl ?_
                  refine E_aload_n rfl rfl ?_
                  refine E_getfield (v := .ref 88) rfl w65 rfl (by decide) rfl ?_
                  refine E_iconst (x := nI 1) rfl (by decide) ?_
                  refine E_callV (v := none) (As := [.ref 65, .ref 88, .int (nI 1)]) (r0 := []) (cs2 := (ww im lf s (dyS (el a1k) s v0) k ls2 rf rz ra rn rq lt m1 m2 m3 m4 bd (fc.set 6 ((fc.getD 6 0) + (nI 1))) hd sz el s (fUp (fUp (fUp g 43 (nI v0)) 44 (nI (dyH (el a1k) s v0))) 45 (nI (dyM (el a1k) s v0))) fm hm so si sh ce ca td wa kp (qFn s la) bf2 oo bo pw ow tr)) rfl rfl rfl (Nat.le_of_ble_eq_true rfl) rfl (ab_rvOf w65 rfl) (m_allB_88 (dyS_I I v0).ln I.ln (lr.2.2.2.2.2.2.2.2.2.2.2.2.2.2.1) rfl) (by decide) w_lens ?_
                  refine E_aload_n rfl rfl ?_
                  refine E_bipush (x := (-6)) rfl (by decide) ?_
                  refine E_callV (v := some (.int (-6))) (As := [.ref 65, .int (-6)]) (r0 := []) (cs2 := (ww im lf s (dyS (el a1k) s v0) k ls2 rf rz ra rn rq lt m1 m2 m3 m4 bd (fc.set 6 ((fc.getD 6 0) + (nI 1))) hd sz el s (fUp (fUp (fUp g 43 (nI v0)) 44 (nI (dyH (el a1k) s v0))) 45 (nI (dyM (el a1k) s v0))) (fm.set 6 ((fm.getD 6 0) + (nI 1))) hm so si sh ce ca td wa kp (qFn s la) bf2 oo bo pw ow tr)) rfl rfl rfl (Nat.le_of_ble_eq_true rfl) rfl (ab_rvOf w65 rfl) (L28_X6_no (by omega)) (by decide) w_lens ?_
                  exact E_iret rfl rfl
                · exact ⟨I, rfl, hf, ⟨(dyS_I I v0).ln, ⟨k0, k1, k2, k3, k4, k5, k6, k7, k8⟩, ⟨r0, r1, r2, r3, r4, r5, r6, r7, r8⟩⟩, iM, iT, iS, l_el, hl2, (lr.2.1), (lr.2.2.1), (by simp only [List.length_set]; exact (lr.2.2.2.1)), (by simp only [List.length_set]; exact (lr.2.2.2.2.1)), (lr.2.2.2.2.2.1), (lr.2.2.2.2.2.2.1), (lr.2.2.2.2.2.2.2.1), (lr.2.2.2.2.2.2.2.2.1), (lr.2.2.2.2.2.2.2.2.2.1), (lr.2.2.2.2.2.2.2.2.2.2.1), (lr.2.2.2.2.2.2.2.2.2.2.2.1), (lr.2.2.2.2.2.2.2.2.2.2.2.2.1), (lr.2.2.2.2.2.2.2.2.2.2.2.2.2.1), (qFn_len I.ln (lr.2.2.2.2.2.2.2.2.2.2.2.2.2.2.1)), hb2, (lr.2.2.2.2.2.2.2.2.2.2.2.2.2.2.2.2.1), (lr.2.2.2.2.2.2.2.2.2.2.2.2.2.2.2.2.2.1), (lr.2.2.2.2.2.2.2.2.2.2.2.2.2.2.2.2.2.2.1), (lr.2.2.2.2.2.2.2.2.2.2.2.2.2.2.2.2.2.2.2.1), (lr.2.2.2.2.2.2.2.2.2.2.2.2.2.2.2.2.2.2.2.2)⟩
        · refine ⟨(-4), (im, lf, s, d, k, ls, rf, rz, ra, rn, rq, lt, m1, m2, m3, m4, bd, (fc.set 4 ((fc.getD 4 0) + (nI 1))), hd, sz, el, s, g, fm, hm, so, si, sh, ce, ca, td, wa, kp, la, bf, oo, bo, pw, ow, tr), (im, lf, s, d, k, ls, rf, rz, ra, rn, rq, lt, m1, m2, m3, m4, bd, (fc.set 4 ((fc.getD 4 0) + (nI 1))), hd, sz, el, s, g, (fm.set 4 ((fm.getD 4 0) + (nI 1))), hm, so, si, sh, ce, ca, td, wa, kp, la, bf, oo, bo, pw, ow, tr), ?_, ?_, ?_⟩
          · show Ev ab_Z0 7 105 [.ref 0, .int (nI a1k), .int a2] (ww im lf s d k ls rf rz ra rn rq lt m1 m2 m3 m4 bd fc hd sz el s g fm hm so si sh ce ca td wa kp la bf oo bo pw ow tr) (some (.int (-4)), (ww im lf s d k ls rf rz ra rn rq lt m1 m2 m3 m4 bd (fc.set 4 ((fc.getD 4 0) + (nI 1))) hd sz el s g fm hm so si sh ce ca td wa kp la bf oo bo pw ow tr))
            refine Ef.in (md := mX5_done) (L := [some (.ref 0), some (.int (nI a1k)), some (.int a2), none]) rfl (Nat.le_of_ble_eq_true rfl) rfl ?_
            refine E_aload_n rfl rfl ?_
            refine E_iload_n rfl rfl ?_
            refine E_iload_n rfl rfl ?_
            refine E_bipush (x := nI 20) rfl (by decide) ?_
            refine E_iconst (x := nI 0) rfl (by decide) ?_
            have e4 : Ev ab_Z0 3 120 [.ref 0, .int (nI a1k), .int a2, .int (nI 20), .int (nI 0)] (ww im lf s d k ls rf rz ra rn rq lt m1 m2 m3 m4 bd fc hd sz el s g fm hm so si sh ce ca td wa kp la bf oo bo pw ow tr) (some (.int (nI 4)), (ww im lf s d k ls rf rz ra rn rq lt m1 m2 m3 m4 bd fc hd sz el s g fm hm so si sh ce ca td wa kp la bf oo bo pw ow tr)) := by
              refine Ef.in (md := mX5_whyNoTwos) (L := [some (.ref 0), some (.int (nI a1k)), some (.int a2), some (.int (nI 20)), some (.int (nI 0)), none]) rfl (Nat.le_of_ble_eq_true rfl) rfl ?_
              refine E_aload_n rfl rfl ?_
              refine E_iload_n rfl rfl ?_
              have e3 : Ev ab_Z0 2 119 [.ref 0, .int (nI a1k)] (ww im lf s d k ls rf rz ra rn rq lt m1 m2 m3 m4 bd fc hd sz el s g fm hm so si sh ce ca td wa kp la bf oo bo pw ow tr) (some (.int (nI 0)), (ww im lf s d k ls rf rz ra rn rq lt m1 m2 m3 m4 bd fc hd sz el s g fm hm so si sh ce ca td wa kp la bf oo bo pw ow tr)) := by
                refine Ef.in (md := mX5_whyNoRow) (L := [some (.ref 0), some (.int (nI a1k))]) rfl (Nat.le_of_ble_eq_true rfl) rfl ?_
                refine E_iload_n rfl rfl ?_
                refine E_callS (v := some (.int (nI 1))) (As := [.int (nI a1k)]) (r0 := []) (cs2 := (ww im lf s d k ls rf rz ra rn rq lt m1 m2 m3 m4 bd fc hd sz el s g fm hm so si sh ce ca td wa kp la bf oo bo pw ow tr)) rfl rfl rfl (Nat.le_of_ble_eq_true rfl) rfl (L39_X5_isShelf (by omega) (by omega) (by omega)) (by decide) rfl ?_
                refine E_if (t := 9) (b := true) rfl rfl (by decide) ?_
                refine E_aload_n rfl rfl ?_
                refine E_getfield (v := .ref 31) rfl w0 rfl (by decide) rfl ?_
                refine E_iload_n rfl rfl ?_
                refine E_aalN (b := 49 + 2 * a1k) rfl w31 (by omega) (w_shs (by omega)) ?_
                have e1 : Ev ab_Z0 1 33 [.ref (49 + 2 * a1k)] (ww im lf s d k ls rf rz ra rn rq lt m1 m2 m3 m4 bd fc hd sz el s g fm hm so si sh ce ca td wa kp la bf oo bo pw ow tr) (some (.int (nI 0)), (ww im lf s d k ls rf rz ra rn rq lt m1 m2 m3 m4 bd fc hd sz el s g fm hm so si sh ce ca td wa kp la bf oo bo pw ow tr)) := by
                  refine Ef.in (md := mX3_isOtherThanRow) (L := [some (.ref (49 + 2 * a1k))]) rfl (Nat.le_of_ble_eq_true rfl) rfl ?_
                  refine E_aload_n rfl rfl ?_
                  refine E_getfield (v := .int (nI (100 + so.getD a1k 0))) rfl (w_shv (j := a1k) (by omega) u1 u2) rfl (by decide) rfl ?_
                  refine E_if (t := 20) (b := false) rfl rfl ((cn_lt (nI_toInt (by omega)) (by decide : (0 : Int32).toInt = 0)).trans (decide_eq_false (by omega))) ?_
                  refine E_aload_n rfl rfl ?_
                  refine E_getfield (v := .int (nI (100 + so.getD a1k 0))) rfl (w_shv (j := a1k) (by omega) u1 u2) rfl (by decide) rfl ?_
                  refine E_bipush (x := nI 100) rfl (by decide) ?_
                  refine E_ic (t := 20) (b := true) rfl rfl ((cn_ge (nI_toInt (by omega)) (nI_toInt (by omega))).trans (decide_eq_true (by omega))) ?_
                  refine E_iconst (x := nI 0) rfl (by decide) ?_
                  exact E_iret rfl rfl
                refine E_callV (v := some (.int (nI 0))) (As := [.ref (49 + 2 * a1k)]) (r0 := []) (cs2 := (ww im lf s d k ls rf rz ra rn rq lt m1 m2 m3 m4 bd fc hd sz el s g fm hm so si sh ce ca td wa kp la bf oo bo pw ow tr)) rfl rfl rfl (Nat.le_of_ble_eq_true rfl) rfl (ab_rvOf (w_shv (j := a1k) (by omega) u1 u2) rfl) e1 (by decide) rfl ?_
                refine E_if (t := 23) (b := true) rfl rfl (by decide) ?_
                refine E_aload_n rfl rfl ?_
                refine E_getfield (v := .ref 31) rfl w0 rfl (by decide) rfl ?_
                refine E_iload_n rfl rfl ?_
                refine E_aalN (b := 49 + 2 * a1k) rfl w31 (by omega) (w_shs (by omega)) ?_
                have e2 : Ev ab_Z0 1 32 [.ref (49 + 2 * a1k)] (ww im lf s d k ls rf rz ra rn rq lt m1 m2 m3 m4 bd fc hd sz el s g fm hm so si sh ce ca td wa kp la bf oo bo pw ow tr) (some (.int (nI 0)), (ww im lf s d k ls rf rz ra rn rq lt m1 m2 m3 m4 bd fc hd sz el s g fm hm so si sh ce ca td wa kp la bf oo bo pw ow tr)) := by
                  refine Ef.in (md := mX3_isEmpty) (L := [some (.ref (49 + 2 * a1k))]) rfl (Nat.le_of_ble_eq_true rfl) rfl ?_
                  refine E_aload_n rfl rfl ?_
                  refine E_getfield (v := .int (nI (100 + so.getD a1k 0))) rfl (w_shv (j := a1k) (by omega) u1 u2) rfl (by decide) rfl ?_
                  refine E_iconst (x := (-1)) rfl (by decide) ?_
                  refine E_ic (t := 12) (b := true) rfl rfl ((cn_ne (nI_toInt (by omega)) (by decide : (-1 : Int32).toInt = -1)).trans (decide_eq_true (by omega))) ?_
                  refine E_iconst (x := nI 0) rfl (by decide) ?_
                  exact E_iret rfl rfl
                refine E_callV (v := some (.int (nI 0))) (As := [.ref (49 + 2 * a1k)]) (r0 := []) (cs2 := (ww im lf s d k ls rf rz ra rn rq lt m1 m2 m3 m4 bd fc hd sz el s g fm hm so si sh ce ca td wa kp la bf oo bo pw ow tr)) rfl rfl rfl (Nat.le_of_ble_eq_true rfl) rfl (ab_rvOf (w_shv (j := a1k) (by omega) u1 u2) rfl) e2 (by decide) rfl ?_
                refine E_if (t := 39) (b := true) rfl rfl (by decide) ?_
                refine E_iconst (x := nI 0) rfl (by decide) ?_
                exact E_iret rfl rfl
              refine E_callV (v := some (.int (nI 0))) (As := [.ref 0, .int (nI a1k)]) (r0 := []) (cs2 := (ww im lf s d k ls rf rz ra rn rq lt m1 m2 m3 m4 bd fc hd sz el s g fm hm so si sh ce ca td wa kp la bf oo bo pw ow tr)) rfl rfl rfl (Nat.le_of_ble_eq_true rfl) rfl (ab_rvOf w0 rfl) e3 (by decide) rfl ?_
              refine E_istore (L2 := [some (.ref 0), some (.int (nI a1k)), some (.int a2), some (.int (nI 20)), some (.int (nI 0)), some (.int (nI 0))]) rfl rfl ?_
              refine E_iload rfl rfl ?_
              refine E_if (t := 15) (b := true) rfl rfl (by decide) ?_
              refine E_iload_n rfl rfl ?_
              refine E_if (t := 21) (b := false) rfl rfl ((cn_ge rfl (by decide : (0 : Int32).toInt = 0)).trans (decide_eq_false (by omega))) ?_
              refine E_iconst (x := nI 4) rfl (by decide) ?_
              exact E_iret rfl rfl
            refine E_callV (v := some (.int (nI 4))) (As := [.ref 0, .int (nI a1k), .int a2, .int (nI 20), .int (nI 0)]) (r0 := []) (cs2 := (ww im lf s d k ls rf rz ra rn rq lt m1 m2 m3 m4 bd fc hd sz el s g fm hm so si sh ce ca td wa kp la bf oo bo pw ow tr)) rfl rfl rfl (Nat.le_of_ble_eq_true rfl) rfl (ab_rvOf w0 rfl) e4 (by decide) rfl ?_
            refine E_istore_n (L2 := [some (.ref 0), some (.int (nI a1k)), some (.int a2), some (.int (nI 4))]) rfl rfl ?_
            refine E_iload_n rfl rfl ?_
            refine E_if (t := 32) (b := true) rfl rfl (by decide) ?_
            refine E_iload_n rfl rfl ?_
            refine E_if (t := 42) (b := false) rfl rfl (by decide) ?_
            refine E_aload_n rfl rfl ?_
            refine E_iload_n rfl rfl ?_
            refine E_callV (v := some (.int (-4))) (As := [.ref 0, .int (nI 4)]) (r0 := []) (cs2 := (ww im lf s d k ls rf rz ra rn rq lt m1 m2 m3 m4 bd (fc.set 4 ((fc.getD 4 0) + (nI 1))) hd sz el s g fm hm so si sh ce ca td wa kp la bf oo bo pw ow tr)) rfl rfl rfl (Nat.le_of_ble_eq_true rfl) rfl (ab_rvOf w0 rfl) (L45_X5_refuse (by omega)) (by decide) w_lens ?_
            exact E_iret rfl rfl
          · show Ev ab_Z0 6 196 [.ref 65, .int (nI a1k), .int a2] (ww im lf s d k ls rf rz ra rn rq lt m1 m2 m3 m4 bd (fc.set 4 ((fc.getD 4 0) + (nI 1))) hd sz el s g fm hm so si sh ce ca td wa kp la bf oo bo pw ow tr) (some (.int (-4)), (ww im lf s d k ls rf rz ra rn rq lt m1 m2 m3 m4 bd (fc.set 4 ((fc.getD 4 0) + (nI 1))) hd sz el s g (fm.set 4 ((fm.getD 4 0) + (nI 1))) hm so si sh ce ca td wa kp la bf oo bo pw ow tr))
            refine Ef.in (md := mX6_done) (L := [some (.ref 65), some (.int (nI a1k)), some (.int a2), none]) rfl (Nat.le_of_ble_eq_true rfl) rfl ?_
            refine E_aload_n rfl rfl ?_
            refine E_iload_n rfl rfl ?_
            refine E_iload_n rfl rfl ?_
            refine E_bipush (x := nI 20) rfl (by decide) ?_
            refine E_iconst (x := nI 1) rfl (by decide) ?_
            have e6 : Ev ab_Z0 3 186 [.ref 65, .int (nI a1k), .int a2, .int (nI 20), .int (nI 1)] (ww im lf s d k ls rf rz ra rn rq lt m1 m2 m3 m4 bd (fc.set 4 ((fc.getD 4 0) + (nI 1))) hd sz el s g fm hm so si sh ce ca td wa kp la bf oo bo pw ow tr) (some (.int (-4)), (ww im lf s d k ls rf rz ra rn rq lt m1 m2 m3 m4 bd (fc.set 4 ((fc.getD 4 0) + (nI 1))) hd sz el s g fm hm so si sh ce ca td wa kp la bf oo bo pw ow tr)) := by
              refine Ef.in (md := mX6_barsOf) (L := [some (.ref 65), some (.int (nI a1k)), some (.int a2), some (.int (nI 20)), some (.int (nI 1)), none]) rfl (Nat.le_of_ble_eq_true rfl) rfl ?_
              refine E_aload_n rfl rfl ?_
              refine E_iload_n rfl rfl ?_
              have e5 : Ev ab_Z0 2 142 [.ref 65, .int (nI a1k)] (ww im lf s d k ls rf rz ra rn rq lt m1 m2 m3 m4 bd (fc.set 4 ((fc.getD 4 0) + (nI 1))) hd sz el s g fm hm so si sh ce ca td wa kp la bf oo bo pw ow tr) (some (.int (nI 0)), (ww im lf s d k ls rf rz ra rn rq lt m1 m2 m3 m4 bd (fc.set 4 ((fc.getD 4 0) + (nI 1))) hd sz el s g fm hm so si sh ce ca td wa kp la bf oo bo pw ow tr)) := by
                refine Ef.in (md := mX6_wanted) (L := [some (.ref 65), some (.int (nI a1k))]) rfl (Nat.le_of_ble_eq_true rfl) rfl ?_
                refine E_aload_n rfl rfl ?_
                refine E_iload_n rfl rfl ?_
                refine E_callV (v := some (.int (nI 1))) (As := [.ref 65, .int (nI a1k)]) (r0 := []) (cs2 := (ww im lf s d k ls rf rz ra rn rq lt m1 m2 m3 m4 bd (fc.set 4 ((fc.getD 4 0) + (nI 1))) hd sz el s g fm hm so si sh ce ca td wa kp la bf oo bo pw ow tr)) rfl rfl rfl (Nat.le_of_ble_eq_true rfl) rfl (ab_rvOf w65 rfl) (L40_X6_isShelf (by omega) (by omega) (by omega)) (by decide) rfl ?_
                refine E_if (t := 12) (b := true) rfl rfl (by decide) ?_
                refine E_aload_n rfl rfl ?_
                refine E_getfield (v := .ref 76) rfl w65 rfl (by decide) rfl ?_
                refine E_iload_n rfl rfl ?_
                refine E_ialN (l := hm) (v := hm.getD a1k 0) rfl w76 (by omega) (by omega) rfl ?_
                refine E_iconst (x := nI 2) rfl (by decide) ?_
                refine E_ic (t := 27) (b := true) rfl rfl ((cn_ne (nI_toInt (by omega)) (nI_toInt (by omega))).trans (decide_eq_true (by omega))) ?_
                refine E_aload_n rfl rfl ?_
                refine E_getfield (v := .ref 76) rfl w65 rfl (by decide) rfl ?_
                refine E_iload_n rfl rfl ?_
                refine E_ialN (l := hm) (v := hm.getD a1k 0) rfl w76 (by omega) (by omega) rfl ?_
                refine E_if (t := 41) (b := true) rfl rfl ((cn_ne (nI_toInt (by omega)) (by decide : (0 : Int32).toInt = 0)).trans (decide_eq_true (by omega))) ?_
                refine E_iconst (x := nI 0) rfl (by decide) ?_
                exact E_iret rfl rfl
              refine E_callV (v := some (.int (nI 0))) (As := [.ref 65, .int (nI a1k)]) (r0 := []) (cs2 := (ww im lf s d k ls rf rz ra rn rq lt m1 m2 m3 m4 bd (fc.set 4 ((fc.getD 4 0) + (nI 1))) hd sz el s g fm hm so si sh ce ca td wa kp la bf oo bo pw ow tr)) rfl rfl rfl (Nat.le_of_ble_eq_true rfl) rfl (ab_rvOf w65 rfl) e5 (by decide) rfl ?_
              refine E_istore (L2 := [some (.ref 65), some (.int (nI a1k)), some (.int a2), some (.int (nI 20)), some (.int (nI 1)), some (.int (nI 0))]) rfl rfl ?_
              refine E_iload rfl rfl ?_
              refine E_if (t := 17) (b := true) rfl rfl (by decide) ?_
              refine E_iload_n rfl rfl ?_
              refine E_if (t := 26) (b := false) rfl rfl ((cn_ge rfl (by decide : (0 : Int32).toInt = 0)).trans (decide_eq_false (by omega))) ?_
              refine E_bipush (x := (-4)) rfl (by decide) ?_
              refine E_goto (t := 59) rfl rfl ?_
              exact E_iret rfl rfl
            refine E_callV (v := some (.int (-4))) (As := [.ref 65, .int (nI a1k), .int a2, .int (nI 20), .int (nI 1)]) (r0 := []) (cs2 := (ww im lf s d k ls rf rz ra rn rq lt m1 m2 m3 m4 bd (fc.set 4 ((fc.getD 4 0) + (nI 1))) hd sz el s g fm hm so si sh ce ca td wa kp la bf oo bo pw ow tr)) rfl rfl rfl (Nat.le_of_ble_eq_true rfl) rfl (ab_rvOf w65 rfl) e6 (by decide) rfl ?_
            refine E_istore_n (L2 := [some (.ref 65), some (.int (nI a1k)), some (.int a2), some (.int (-4))]) rfl rfl ?_
            refine E_iload_n rfl rfl ?_
            refine E_if (t := 20) (b := false) rfl rfl (by decide) ?_
            refine E_aload_n rfl rfl ?_
            refine E_iload_n rfl rfl ?_
            refine E_callV (v := some (.int (-4))) (As := [.ref 65, .int (-4)]) (r0 := []) (cs2 := (ww im lf s d k ls rf rz ra rn rq lt m1 m2 m3 m4 bd (fc.set 4 ((fc.getD 4 0) + (nI 1))) hd sz el s g (fm.set 4 ((fm.getD 4 0) + (nI 1))) hm so si sh ce ca td wa kp la bf oo bo pw ow tr)) rfl rfl rfl (Nat.le_of_ble_eq_true rfl) rfl (ab_rvOf w65 rfl) (L46_X6_no (by omega)) (by decide) w_lens ?_
            exact E_iret rfl rfl
          · exact ⟨I, rfl, hf, ⟨⟨d0, d1, d2, d3, d4, d5, d6, d7, d8⟩, ⟨k0, k1, k2, k3, k4, k5, k6, k7, k8⟩, ⟨r0, r1, r2, r3, r4, r5, r6, r7, r8⟩⟩, iM, iT, iS, l_el, (lr.1), (lr.2.1), (lr.2.2.1), (by simp only [List.length_set]; exact (lr.2.2.2.1)), (by simp only [List.length_set]; exact (lr.2.2.2.2.1)), (lr.2.2.2.2.2.1), (lr.2.2.2.2.2.2.1), (lr.2.2.2.2.2.2.2.1), (lr.2.2.2.2.2.2.2.2.1), (lr.2.2.2.2.2.2.2.2.2.1), (lr.2.2.2.2.2.2.2.2.2.2.1), (lr.2.2.2.2.2.2.2.2.2.2.2.1), (lr.2.2.2.2.2.2.2.2.2.2.2.2.1), (lr.2.2.2.2.2.2.2.2.2.2.2.2.2.1), (lr.2.2.2.2.2.2.2.2.2.2.2.2.2.2.1), (lr.2.2.2.2.2.2.2.2.2.2.2.2.2.2.2.1), (lr.2.2.2.2.2.2.2.2.2.2.2.2.2.2.2.2.1), (lr.2.2.2.2.2.2.2.2.2.2.2.2.2.2.2.2.2.1), (lr.2.2.2.2.2.2.2.2.2.2.2.2.2.2.2.2.2.2.1), (lr.2.2.2.2.2.2.2.2.2.2.2.2.2.2.2.2.2.2.2.1), (lr.2.2.2.2.2.2.2.2.2.2.2.2.2.2.2.2.2.2.2.2)⟩
    · refine ⟨(-1), (im, lf, s, d, k, ls, rf, rz, ra, rn, rq, lt, m1, m2, m3, m4, bd, (fc.set 1 ((fc.getD 1 0) + (nI 1))), hd, sz, el, s, g, fm, hm, so, si, sh, ce, ca, td, wa, kp, la, bf, oo, bo, pw, ow, tr), (im, lf, s, d, k, ls, rf, rz, ra, rn, rq, lt, m1, m2, m3, m4, bd, (fc.set 1 ((fc.getD 1 0) + (nI 1))), hd, sz, el, s, g, (fm.set 1 ((fm.getD 1 0) + (nI 1))), hm, so, si, sh, ce, ca, td, wa, kp, la, bf, oo, bo, pw, ow, tr), ?_, ?_, ?_⟩
      · show Ev ab_Z0 7 105 [.ref 0, .int (nI a1k), .int a2] (ww im lf s d k ls rf rz ra rn rq lt m1 m2 m3 m4 bd fc hd sz el s g fm hm so si sh ce ca td wa kp la bf oo bo pw ow tr) (some (.int (-1)), (ww im lf s d k ls rf rz ra rn rq lt m1 m2 m3 m4 bd (fc.set 1 ((fc.getD 1 0) + (nI 1))) hd sz el s g fm hm so si sh ce ca td wa kp la bf oo bo pw ow tr))
        refine Ef.in (md := mX5_done) (L := [some (.ref 0), some (.int (nI a1k)), some (.int a2), none]) rfl (Nat.le_of_ble_eq_true rfl) rfl ?_
        refine E_aload_n rfl rfl ?_
        refine E_iload_n rfl rfl ?_
        refine E_iload_n rfl rfl ?_
        refine E_bipush (x := nI 20) rfl (by decide) ?_
        refine E_iconst (x := nI 0) rfl (by decide) ?_
        have e2 : Ev ab_Z0 3 120 [.ref 0, .int (nI a1k), .int a2, .int (nI 20), .int (nI 0)] (ww im lf s d k ls rf rz ra rn rq lt m1 m2 m3 m4 bd fc hd sz el s g fm hm so si sh ce ca td wa kp la bf oo bo pw ow tr) (some (.int (nI 1)), (ww im lf s d k ls rf rz ra rn rq lt m1 m2 m3 m4 bd fc hd sz el s g fm hm so si sh ce ca td wa kp la bf oo bo pw ow tr)) := by
          refine Ef.in (md := mX5_whyNoTwos) (L := [some (.ref 0), some (.int (nI a1k)), some (.int a2), some (.int (nI 20)), some (.int (nI 0)), none]) rfl (Nat.le_of_ble_eq_true rfl) rfl ?_
          refine E_aload_n rfl rfl ?_
          refine E_iload_n rfl rfl ?_
          have e1 : Ev ab_Z0 2 119 [.ref 0, .int (nI a1k)] (ww im lf s d k ls rf rz ra rn rq lt m1 m2 m3 m4 bd fc hd sz el s g fm hm so si sh ce ca td wa kp la bf oo bo pw ow tr) (some (.int (nI 1)), (ww im lf s d k ls rf rz ra rn rq lt m1 m2 m3 m4 bd fc hd sz el s g fm hm so si sh ce ca td wa kp la bf oo bo pw ow tr)) := by
            refine Ef.in (md := mX5_whyNoRow) (L := [some (.ref 0), some (.int (nI a1k))]) rfl (Nat.le_of_ble_eq_true rfl) rfl ?_
            refine E_iload_n rfl rfl ?_
            refine E_callS (v := some (.int (nI 0))) (As := [.int (nI a1k)]) (r0 := []) (cs2 := (ww im lf s d k ls rf rz ra rn rq lt m1 m2 m3 m4 bd fc hd sz el s g fm hm so si sh ce ca td wa kp la bf oo bo pw ow tr)) rfl rfl rfl (Nat.le_of_ble_eq_true rfl) rfl (L47_X5_isShelf (by omega) (by omega) (by omega)) (by decide) rfl ?_
            refine E_if (t := 9) (b := false) rfl rfl (by decide) ?_
            refine E_iconst (x := nI 1) rfl (by decide) ?_
            exact E_iret rfl rfl
          refine E_callV (v := some (.int (nI 1))) (As := [.ref 0, .int (nI a1k)]) (r0 := []) (cs2 := (ww im lf s d k ls rf rz ra rn rq lt m1 m2 m3 m4 bd fc hd sz el s g fm hm so si sh ce ca td wa kp la bf oo bo pw ow tr)) rfl rfl rfl (Nat.le_of_ble_eq_true rfl) rfl (ab_rvOf w0 rfl) e1 (by decide) rfl ?_
          refine E_istore (L2 := [some (.ref 0), some (.int (nI a1k)), some (.int a2), some (.int (nI 20)), some (.int (nI 0)), some (.int (nI 1))]) rfl rfl ?_
          refine E_iload rfl rfl ?_
          refine E_if (t := 15) (b := false) rfl rfl (by decide) ?_
          refine E_iload rfl rfl ?_
          exact E_iret rfl rfl
        refine E_callV (v := some (.int (nI 1))) (As := [.ref 0, .int (nI a1k), .int a2, .int (nI 20), .int (nI 0)]) (r0 := []) (cs2 := (ww im lf s d k ls rf rz ra rn rq lt m1 m2 m3 m4 bd fc hd sz el s g fm hm so si sh ce ca td wa kp la bf oo bo pw ow tr)) rfl rfl rfl (Nat.le_of_ble_eq_true rfl) rfl (ab_rvOf w0 rfl) e2 (by decide) rfl ?_
        refine E_istore_n (L2 := [some (.ref 0), some (.int (nI a1k)), some (.int a2), some (.int (nI 1))]) rfl rfl ?_
        refine E_iload_n rfl rfl ?_
        refine E_if (t := 32) (b := true) rfl rfl (by decide) ?_
        refine E_iload_n rfl rfl ?_
        refine E_if (t := 42) (b := false) rfl rfl (by decide) ?_
        refine E_aload_n rfl rfl ?_
        refine E_iload_n rfl rfl ?_
        refine E_callV (v := some (.int (-1))) (As := [.ref 0, .int (nI 1)]) (r0 := []) (cs2 := (ww im lf s d k ls rf rz ra rn rq lt m1 m2 m3 m4 bd (fc.set 1 ((fc.getD 1 0) + (nI 1))) hd sz el s g fm hm so si sh ce ca td wa kp la bf oo bo pw ow tr)) rfl rfl rfl (Nat.le_of_ble_eq_true rfl) rfl (ab_rvOf w0 rfl) (L6_X5_refuse (by omega)) (by decide) w_lens ?_
        exact E_iret rfl rfl
      · show Ev ab_Z0 6 196 [.ref 65, .int (nI a1k), .int a2] (ww im lf s d k ls rf rz ra rn rq lt m1 m2 m3 m4 bd (fc.set 1 ((fc.getD 1 0) + (nI 1))) hd sz el s g fm hm so si sh ce ca td wa kp la bf oo bo pw ow tr) (some (.int (-1)), (ww im lf s d k ls rf rz ra rn rq lt m1 m2 m3 m4 bd (fc.set 1 ((fc.getD 1 0) + (nI 1))) hd sz el s g (fm.set 1 ((fm.getD 1 0) + (nI 1))) hm so si sh ce ca td wa kp la bf oo bo pw ow tr))
        refine Ef.in (md := mX6_done) (L := [some (.ref 65), some (.int (nI a1k)), some (.int a2), none]) rfl (Nat.le_of_ble_eq_true rfl) rfl ?_
        refine E_aload_n rfl rfl ?_
        refine E_iload_n rfl rfl ?_
        refine E_iload_n rfl rfl ?_
        refine E_bipush (x := nI 20) rfl (by decide) ?_
        refine E_iconst (x := nI 1) rfl (by decide) ?_
        have e4 : Ev ab_Z0 3 186 [.ref 65, .int (nI a1k), .int a2, .int (nI 20), .int (nI 1)] (ww im lf s d k ls rf rz ra rn rq lt m1 m2 m3 m4 bd (fc.set 1 ((fc.getD 1 0) + (nI 1))) hd sz el s g fm hm so si sh ce ca td wa kp la bf oo bo pw ow tr) (some (.int (-1)), (ww im lf s d k ls rf rz ra rn rq lt m1 m2 m3 m4 bd (fc.set 1 ((fc.getD 1 0) + (nI 1))) hd sz el s g fm hm so si sh ce ca td wa kp la bf oo bo pw ow tr)) := by
          refine Ef.in (md := mX6_barsOf) (L := [some (.ref 65), some (.int (nI a1k)), some (.int a2), some (.int (nI 20)), some (.int (nI 1)), none]) rfl (Nat.le_of_ble_eq_true rfl) rfl ?_
          refine E_aload_n rfl rfl ?_
          refine E_iload_n rfl rfl ?_
          have e3 : Ev ab_Z0 2 142 [.ref 65, .int (nI a1k)] (ww im lf s d k ls rf rz ra rn rq lt m1 m2 m3 m4 bd (fc.set 1 ((fc.getD 1 0) + (nI 1))) hd sz el s g fm hm so si sh ce ca td wa kp la bf oo bo pw ow tr) (some (.int (-1)), (ww im lf s d k ls rf rz ra rn rq lt m1 m2 m3 m4 bd (fc.set 1 ((fc.getD 1 0) + (nI 1))) hd sz el s g fm hm so si sh ce ca td wa kp la bf oo bo pw ow tr)) := by
            refine Ef.in (md := mX6_wanted) (L := [some (.ref 65), some (.int (nI a1k))]) rfl (Nat.le_of_ble_eq_true rfl) rfl ?_
            refine E_aload_n rfl rfl ?_
            refine E_iload_n rfl rfl ?_
            refine E_callV (v := some (.int (nI 0))) (As := [.ref 65, .int (nI a1k)]) (r0 := []) (cs2 := (ww im lf s d k ls rf rz ra rn rq lt m1 m2 m3 m4 bd (fc.set 1 ((fc.getD 1 0) + (nI 1))) hd sz el s g fm hm so si sh ce ca td wa kp la bf oo bo pw ow tr)) rfl rfl rfl (Nat.le_of_ble_eq_true rfl) rfl (ab_rvOf w65 rfl) (L48_X6_isShelf (by omega) (by omega) (by omega)) (by decide) rfl ?_
            refine E_if (t := 12) (b := false) rfl rfl (by decide) ?_
            refine E_iconst (x := (-1)) rfl (by decide) ?_
            refine E_goto (t := 42) rfl rfl ?_
            exact E_iret rfl rfl
          refine E_callV (v := some (.int (-1))) (As := [.ref 65, .int (nI a1k)]) (r0 := []) (cs2 := (ww im lf s d k ls rf rz ra rn rq lt m1 m2 m3 m4 bd (fc.set 1 ((fc.getD 1 0) + (nI 1))) hd sz el s g fm hm so si sh ce ca td wa kp la bf oo bo pw ow tr)) rfl rfl rfl (Nat.le_of_ble_eq_true rfl) rfl (ab_rvOf w65 rfl) e3 (by decide) rfl ?_
          refine E_istore (L2 := [some (.ref 65), some (.int (nI a1k)), some (.int a2), some (.int (nI 20)), some (.int (nI 1)), some (.int (-1))]) rfl rfl ?_
          refine E_iload rfl rfl ?_
          refine E_if (t := 17) (b := false) rfl rfl (by decide) ?_
          refine E_iload rfl rfl ?_
          refine E_goto (t := 59) rfl rfl ?_
          exact E_iret rfl rfl
        refine E_callV (v := some (.int (-1))) (As := [.ref 65, .int (nI a1k), .int a2, .int (nI 20), .int (nI 1)]) (r0 := []) (cs2 := (ww im lf s d k ls rf rz ra rn rq lt m1 m2 m3 m4 bd (fc.set 1 ((fc.getD 1 0) + (nI 1))) hd sz el s g fm hm so si sh ce ca td wa kp la bf oo bo pw ow tr)) rfl rfl rfl (Nat.le_of_ble_eq_true rfl) rfl (ab_rvOf w65 rfl) e4 (by decide) rfl ?_
        refine E_istore_n (L2 := [some (.ref 65), some (.int (nI a1k)), some (.int a2), some (.int (-1))]) rfl rfl ?_
        refine E_iload_n rfl rfl ?_
        refine E_if (t := 20) (b := false) rfl rfl (by decide) ?_
        refine E_aload_n rfl rfl ?_
        refine E_iload_n rfl rfl ?_
        refine E_callV (v := some (.int (-1))) (As := [.ref 65, .int (-1)]) (r0 := []) (cs2 := (ww im lf s d k ls rf rz ra rn rq lt m1 m2 m3 m4 bd (fc.set 1 ((fc.getD 1 0) + (nI 1))) hd sz el s g (fm.set 1 ((fm.getD 1 0) + (nI 1))) hm so si sh ce ca td wa kp la bf oo bo pw ow tr)) rfl rfl rfl (Nat.le_of_ble_eq_true rfl) rfl (ab_rvOf w65 rfl) (L8_X6_no (by omega)) (by decide) w_lens ?_
        exact E_iret rfl rfl
      · exact ⟨I, rfl, hf, ⟨⟨d0, d1, d2, d3, d4, d5, d6, d7, d8⟩, ⟨k0, k1, k2, k3, k4, k5, k6, k7, k8⟩, ⟨r0, r1, r2, r3, r4, r5, r6, r7, r8⟩⟩, iM, iT, iS, l_el, (lr.1), (lr.2.1), (lr.2.2.1), (by simp only [List.length_set]; exact (lr.2.2.2.1)), (by simp only [List.length_set]; exact (lr.2.2.2.2.1)), (lr.2.2.2.2.2.1), (lr.2.2.2.2.2.2.1), (lr.2.2.2.2.2.2.2.1), (lr.2.2.2.2.2.2.2.2.1), (lr.2.2.2.2.2.2.2.2.2.1), (lr.2.2.2.2.2.2.2.2.2.2.1), (lr.2.2.2.2.2.2.2.2.2.2.2.1), (lr.2.2.2.2.2.2.2.2.2.2.2.2.1), (lr.2.2.2.2.2.2.2.2.2.2.2.2.2.1), (lr.2.2.2.2.2.2.2.2.2.2.2.2.2.2.1), (lr.2.2.2.2.2.2.2.2.2.2.2.2.2.2.2.1), (lr.2.2.2.2.2.2.2.2.2.2.2.2.2.2.2.2.1), (lr.2.2.2.2.2.2.2.2.2.2.2.2.2.2.2.2.2.1), (lr.2.2.2.2.2.2.2.2.2.2.2.2.2.2.2.2.2.2.1), (lr.2.2.2.2.2.2.2.2.2.2.2.2.2.2.2.2.2.2.2.1), (lr.2.2.2.2.2.2.2.2.2.2.2.2.2.2.2.2.2.2.2.2)⟩
  · refine ⟨(-1), (im, lf, s, d, k, ls, rf, rz, ra, rn, rq, lt, m1, m2, m3, m4, bd, (fc.set 1 ((fc.getD 1 0) + (nI 1))), hd, sz, el, s, g, fm, hm, so, si, sh, ce, ca, td, wa, kp, la, bf, oo, bo, pw, ow, tr), (im, lf, s, d, k, ls, rf, rz, ra, rn, rq, lt, m1, m2, m3, m4, bd, (fc.set 1 ((fc.getD 1 0) + (nI 1))), hd, sz, el, s, g, (fm.set 1 ((fm.getD 1 0) + (nI 1))), hm, so, si, sh, ce, ca, td, wa, kp, la, bf, oo, bo, pw, ow, tr), ?_, ?_, ?_⟩
    · show Ev ab_Z0 7 105 [.ref 0, .int a1, .int a2] (ww im lf s d k ls rf rz ra rn rq lt m1 m2 m3 m4 bd fc hd sz el s g fm hm so si sh ce ca td wa kp la bf oo bo pw ow tr) (some (.int (-1)), (ww im lf s d k ls rf rz ra rn rq lt m1 m2 m3 m4 bd (fc.set 1 ((fc.getD 1 0) + (nI 1))) hd sz el s g fm hm so si sh ce ca td wa kp la bf oo bo pw ow tr))
      refine Ef.in (md := mX5_done) (L := [some (.ref 0), some (.int a1), some (.int a2), none]) rfl (Nat.le_of_ble_eq_true rfl) rfl ?_
      refine E_aload_n rfl rfl ?_
      refine E_iload_n rfl rfl ?_
      refine E_iload_n rfl rfl ?_
      refine E_bipush (x := nI 20) rfl (by decide) ?_
      refine E_iconst (x := nI 0) rfl (by decide) ?_
      have e2 : Ev ab_Z0 3 120 [.ref 0, .int a1, .int a2, .int (nI 20), .int (nI 0)] (ww im lf s d k ls rf rz ra rn rq lt m1 m2 m3 m4 bd fc hd sz el s g fm hm so si sh ce ca td wa kp la bf oo bo pw ow tr) (some (.int (nI 1)), (ww im lf s d k ls rf rz ra rn rq lt m1 m2 m3 m4 bd fc hd sz el s g fm hm so si sh ce ca td wa kp la bf oo bo pw ow tr)) := by
        refine Ef.in (md := mX5_whyNoTwos) (L := [some (.ref 0), some (.int a1), some (.int a2), some (.int (nI 20)), some (.int (nI 0)), none]) rfl (Nat.le_of_ble_eq_true rfl) rfl ?_
        refine E_aload_n rfl rfl ?_
        refine E_iload_n rfl rfl ?_
        have e1 : Ev ab_Z0 2 119 [.ref 0, .int a1] (ww im lf s d k ls rf rz ra rn rq lt m1 m2 m3 m4 bd fc hd sz el s g fm hm so si sh ce ca td wa kp la bf oo bo pw ow tr) (some (.int (nI 1)), (ww im lf s d k ls rf rz ra rn rq lt m1 m2 m3 m4 bd fc hd sz el s g fm hm so si sh ce ca td wa kp la bf oo bo pw ow tr)) := by
          refine Ef.in (md := mX5_whyNoRow) (L := [some (.ref 0), some (.int a1)]) rfl (Nat.le_of_ble_eq_true rfl) rfl ?_
          refine E_iload_n rfl rfl ?_
          refine E_callS (v := some (.int (nI 0))) (As := [.int a1]) (r0 := []) (cs2 := (ww im lf s d k ls rf rz ra rn rq lt m1 m2 m3 m4 bd fc hd sz el s g fm hm so si sh ce ca td wa kp la bf oo bo pw ow tr)) rfl rfl rfl (Nat.le_of_ble_eq_true rfl) rfl (L49_X5_isShelf (by omega) (by omega)) (by decide) rfl ?_
          refine E_if (t := 9) (b := false) rfl rfl (by decide) ?_
          refine E_iconst (x := nI 1) rfl (by decide) ?_
          exact E_iret rfl rfl
        refine E_callV (v := some (.int (nI 1))) (As := [.ref 0, .int a1]) (r0 := []) (cs2 := (ww im lf s d k ls rf rz ra rn rq lt m1 m2 m3 m4 bd fc hd sz el s g fm hm so si sh ce ca td wa kp la bf oo bo pw ow tr)) rfl rfl rfl (Nat.le_of_ble_eq_true rfl) rfl (ab_rvOf w0 rfl) e1 (by decide) rfl ?_
        refine E_istore (L2 := [some (.ref 0), some (.int a1), some (.int a2), some (.int (nI 20)), some (.int (nI 0)), some (.int (nI 1))]) rfl rfl ?_
        refine E_iload rfl rfl ?_
        refine E_if (t := 15) (b := false) rfl rfl (by decide) ?_
        refine E_iload rfl rfl ?_
        exact E_iret rfl rfl
      refine E_callV (v := some (.int (nI 1))) (As := [.ref 0, .int a1, .int a2, .int (nI 20), .int (nI 0)]) (r0 := []) (cs2 := (ww im lf s d k ls rf rz ra rn rq lt m1 m2 m3 m4 bd fc hd sz el s g fm hm so si sh ce ca td wa kp la bf oo bo pw ow tr)) rfl rfl rfl (Nat.le_of_ble_eq_true rfl) rfl (ab_rvOf w0 rfl) e2 (by decide) rfl ?_
      refine E_istore_n (L2 := [some (.ref 0), some (.int a1), some (.int a2), some (.int (nI 1))]) rfl rfl ?_
      refine E_iload_n rfl rfl ?_
      refine E_if (t := 32) (b := true) rfl rfl (by decide) ?_
      refine E_iload_n rfl rfl ?_
      refine E_if (t := 42) (b := false) rfl rfl (by decide) ?_
      refine E_aload_n rfl rfl ?_
      refine E_iload_n rfl rfl ?_
      refine E_callV (v := some (.int (-1))) (As := [.ref 0, .int (nI 1)]) (r0 := []) (cs2 := (ww im lf s d k ls rf rz ra rn rq lt m1 m2 m3 m4 bd (fc.set 1 ((fc.getD 1 0) + (nI 1))) hd sz el s g fm hm so si sh ce ca td wa kp la bf oo bo pw ow tr)) rfl rfl rfl (Nat.le_of_ble_eq_true rfl) rfl (ab_rvOf w0 rfl) (L6_X5_refuse (by omega)) (by decide) w_lens ?_
      exact E_iret rfl rfl
    · show Ev ab_Z0 6 196 [.ref 65, .int a1, .int a2] (ww im lf s d k ls rf rz ra rn rq lt m1 m2 m3 m4 bd (fc.set 1 ((fc.getD 1 0) + (nI 1))) hd sz el s g fm hm so si sh ce ca td wa kp la bf oo bo pw ow tr) (some (.int (-1)), (ww im lf s d k ls rf rz ra rn rq lt m1 m2 m3 m4 bd (fc.set 1 ((fc.getD 1 0) + (nI 1))) hd sz el s g (fm.set 1 ((fm.getD 1 0) + (nI 1))) hm so si sh ce ca td wa kp la bf oo bo pw ow tr))
      refine Ef.in (md := mX6_done) (L := [some (.ref 65), some (.int a1), some (.int a2), none]) rfl (Nat.le_of_ble_eq_true rfl) rfl ?_
      refine E_aload_n rfl rfl ?_
      refine E_iload_n rfl rfl ?_
      refine E_iload_n rfl rfl ?_
      refine E_bipush (x := nI 20) rfl (by decide) ?_
      refine E_iconst (x := nI 1) rfl (by decide) ?_
      have e4 : Ev ab_Z0 3 186 [.ref 65, .int a1, .int a2, .int (nI 20), .int (nI 1)] (ww im lf s d k ls rf rz ra rn rq lt m1 m2 m3 m4 bd (fc.set 1 ((fc.getD 1 0) + (nI 1))) hd sz el s g fm hm so si sh ce ca td wa kp la bf oo bo pw ow tr) (some (.int (-1)), (ww im lf s d k ls rf rz ra rn rq lt m1 m2 m3 m4 bd (fc.set 1 ((fc.getD 1 0) + (nI 1))) hd sz el s g fm hm so si sh ce ca td wa kp la bf oo bo pw ow tr)) := by
        refine Ef.in (md := mX6_barsOf) (L := [some (.ref 65), some (.int a1), some (.int a2), some (.int (nI 20)), some (.int (nI 1)), none]) rfl (Nat.le_of_ble_eq_true rfl) rfl ?_
        refine E_aload_n rfl rfl ?_
        refine E_iload_n rfl rfl ?_
        have e3 : Ev ab_Z0 2 142 [.ref 65, .int a1] (ww im lf s d k ls rf rz ra rn rq lt m1 m2 m3 m4 bd (fc.set 1 ((fc.getD 1 0) + (nI 1))) hd sz el s g fm hm so si sh ce ca td wa kp la bf oo bo pw ow tr) (some (.int (-1)), (ww im lf s d k ls rf rz ra rn rq lt m1 m2 m3 m4 bd (fc.set 1 ((fc.getD 1 0) + (nI 1))) hd sz el s g fm hm so si sh ce ca td wa kp la bf oo bo pw ow tr)) := by
          refine Ef.in (md := mX6_wanted) (L := [some (.ref 65), some (.int a1)]) rfl (Nat.le_of_ble_eq_true rfl) rfl ?_
          refine E_aload_n rfl rfl ?_
          refine E_iload_n rfl rfl ?_
          refine E_callV (v := some (.int (nI 0))) (As := [.ref 65, .int a1]) (r0 := []) (cs2 := (ww im lf s d k ls rf rz ra rn rq lt m1 m2 m3 m4 bd (fc.set 1 ((fc.getD 1 0) + (nI 1))) hd sz el s g fm hm so si sh ce ca td wa kp la bf oo bo pw ow tr)) rfl rfl rfl (Nat.le_of_ble_eq_true rfl) rfl (ab_rvOf w65 rfl) (L50_X6_isShelf (by omega) (by omega)) (by decide) rfl ?_
          refine E_if (t := 12) (b := false) rfl rfl (by decide) ?_
          refine E_iconst (x := (-1)) rfl (by decide) ?_
          refine E_goto (t := 42) rfl rfl ?_
          exact E_iret rfl rfl
        refine E_callV (v := some (.int (-1))) (As := [.ref 65, .int a1]) (r0 := []) (cs2 := (ww im lf s d k ls rf rz ra rn rq lt m1 m2 m3 m4 bd (fc.set 1 ((fc.getD 1 0) + (nI 1))) hd sz el s g fm hm so si sh ce ca td wa kp la bf oo bo pw ow tr)) rfl rfl rfl (Nat.le_of_ble_eq_true rfl) rfl (ab_rvOf w65 rfl) e3 (by decide) rfl ?_
        refine E_istore (L2 := [some (.ref 65), some (.int a1), some (.int a2), some (.int (nI 20)), some (.int (nI 1)), some (.int (-1))]) rfl rfl ?_
        refine E_iload rfl rfl ?_
        refine E_if (t := 17) (b := false) rfl rfl (by decide) ?_
        refine E_iload rfl rfl ?_
        refine E_goto (t := 59) rfl rfl ?_
        exact E_iret rfl rfl
      refine E_callV (v := some (.int (-1))) (As := [.ref 65, .int a1, .int a2, .int (nI 20), .int (nI 1)]) (r0 := []) (cs2 := (ww im lf s d k ls rf rz ra rn rq lt m1 m2 m3 m4 bd (fc.set 1 ((fc.getD 1 0) + (nI 1))) hd sz el s g fm hm so si sh ce ca td wa kp la bf oo bo pw ow tr)) rfl rfl rfl (Nat.le_of_ble_eq_true rfl) rfl (ab_rvOf w65 rfl) e4 (by decide) rfl ?_
      refine E_istore_n (L2 := [some (.ref 65), some (.int a1), some (.int a2), some (.int (-1))]) rfl rfl ?_
      refine E_iload_n rfl rfl ?_
      refine E_if (t := 20) (b := false) rfl rfl (by decide) ?_
      refine E_aload_n rfl rfl ?_
      refine E_iload_n rfl rfl ?_
      refine E_callV (v := some (.int (-1))) (As := [.ref 65, .int (-1)]) (r0 := []) (cs2 := (ww im lf s d k ls rf rz ra rn rq lt m1 m2 m3 m4 bd (fc.set 1 ((fc.getD 1 0) + (nI 1))) hd sz el s g (fm.set 1 ((fm.getD 1 0) + (nI 1))) hm so si sh ce ca td wa kp la bf oo bo pw ow tr)) rfl rfl rfl (Nat.le_of_ble_eq_true rfl) rfl (ab_rvOf w65 rfl) (L8_X6_no (by omega)) (by decide) w_lens ?_
      exact E_iret rfl rfl
    · exact ⟨I, rfl, hf, ⟨⟨d0, d1, d2, d3, d4, d5, d6, d7, d8⟩, ⟨k0, k1, k2, k3, k4, k5, k6, k7, k8⟩, ⟨r0, r1, r2, r3, r4, r5, r6, r7, r8⟩⟩, iM, iT, iS, l_el, (lr.1), (lr.2.1), (lr.2.2.1), (by simp only [List.length_set]; exact (lr.2.2.2.1)), (by simp only [List.length_set]; exact (lr.2.2.2.2.1)), (lr.2.2.2.2.2.1), (lr.2.2.2.2.2.2.1), (lr.2.2.2.2.2.2.2.1), (lr.2.2.2.2.2.2.2.2.1), (lr.2.2.2.2.2.2.2.2.2.1), (lr.2.2.2.2.2.2.2.2.2.2.1), (lr.2.2.2.2.2.2.2.2.2.2.2.1), (lr.2.2.2.2.2.2.2.2.2.2.2.2.1), (lr.2.2.2.2.2.2.2.2.2.2.2.2.2.1), (lr.2.2.2.2.2.2.2.2.2.2.2.2.2.2.1), (lr.2.2.2.2.2.2.2.2.2.2.2.2.2.2.2.1), (lr.2.2.2.2.2.2.2.2.2.2.2.2.2.2.2.2.1), (lr.2.2.2.2.2.2.2.2.2.2.2.2.2.2.2.2.2.1), (lr.2.2.2.2.2.2.2.2.2.2.2.2.2.2.2.2.2.2.1), (lr.2.2.2.2.2.2.2.2.2.2.2.2.2.2.2.2.2.2.2.1), (lr.2.2.2.2.2.2.2.2.2.2.2.2.2.2.2.2.2.2.2.2)⟩
