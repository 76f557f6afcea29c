/-! cast; by program (wip/tools/op.py) -/
set_option maxHeartbeats 4000000 in
theorem op_cast (x : St) (hx : wI x) (a1 : Int32) (a2 : Int32) : ∃ (r : Int32) (x1 x2 : St), Ev ab_Z0 6 106 [.ref 0, .int a1, .int a2] (wt x) (some (.int r), wt x1) ∧ Ev ab_Z0 5 197 [.ref 65, .int a1, .int a2] (wt x1) (some (.int r), wt x2) ∧ wI x2 := by
  obtain ⟨im, lf, s, d, k, ls, rf, rz, ra, rn, rq, lt, m1, m2, m3, m4, bd, fc, hd, sz, el, t, g, fm, hm, so, si, sh, ce, ca, td, wa, kp, la, bf, oo, bo, pw, ow, tr⟩ := x
  obtain ⟨I, ts, hf, iQ, iM, iT, iS, l_el, lr⟩ := hx
  replace lr : Hd _ := lr
  have l_fc := lr.2.2.2.1
  have l_fm := lr.2.2.2.2.1
  subst ts
  obtain ⟨⟨i0, i1, i2, i3⟩, ⟨i4, i5, i6, i7, i8⟩, ⟨i9, i10⟩, I1, I2, I3, I4⟩ := id I
  rcases I4 with er | er
  · rcases ab_int a1 with ⟨a1k, f1, rfl⟩ | f1
    · by_cases f2 : a1k < (qM s)
      · rcases ab_int a2 with ⟨a2k, f3, rfl⟩ | f3
        · by_cases f4 : ((qU s).getD a1k 0) < a2k
          · by_cases f5 : 99 < a2k
            · have er2 : (qR s).toInt = 0 := by rw [er]; rfl
              have := I2 a1k (by omega)
              have := qPs_in s 99 (i := qN s) (by omega)
              refine ⟨(-6), (im, lf, s, d, k, ls, rf, rz, ra, rn, rq, lt, m1, m2, m3, m4, bd, (fc.set 6 ((fc.getD 6 0) + (nI 1))), hd, sz, el, s, g, fm, hm, so, si, sh, ce, ca, td, wa, kp, la, bf, oo, bo, pw, ow, tr), (im, lf, s, d, k, ls, rf, rz, ra, rn, rq, lt, m1, m2, m3, m4, bd, (fc.set 6 ((fc.getD 6 0) + (nI 1))), hd, sz, el, s, g, (fm.set 6 ((fm.getD 6 0) + (nI 1))), hm, so, si, sh, ce, ca, td, wa, kp, la, (lsF (bst s (qPs s 99 (qN s)) (qN s) (2 ^ qN s))), oo, bo, pw, ow, tr), ?_, ?_, ?_⟩
              · show Ev ab_Z0 6 106 [.ref 0, .int (nI a1k), .int (nI a2k)] (ww im lf s d k ls rf rz ra rn rq lt m1 m2 m3 m4 bd fc hd sz el s g fm hm so si sh ce ca td wa kp la bf oo bo pw ow tr) (some (.int (-6)), (ww im lf s d k ls rf rz ra rn rq lt m1 m2 m3 m4 bd (fc.set 6 ((fc.getD 6 0) + (nI 1))) hd sz el s g fm hm so si sh ce ca td wa kp la bf oo bo pw ow tr))
                refine Ef.in (md := mX5_cast) (L := [some (.ref 0), some (.int (nI a1k)), some (.int (nI a2k)), none]) rfl (Nat.le_of_ble_eq_true rfl) rfl ?_
                refine E_aload_n at_X5_cast_0 rfl ?_
                refine E_getfield (v := .ref 1) at_X5_cast_1 w0 rfl (by decide) rfl ?_
                refine E_iload_n at_X5_cast_4 rfl ?_
                refine E_callV (v := some (.int (nI 1))) (As := [.ref 1, .int (nI a1k)]) (r0 := []) (cs2 := (ww im lf s d k ls rf rz ra rn rq lt m1 m2 m3 m4 bd fc hd sz el s g fm hm so si sh ce ca td wa kp la bf oo bo pw ow tr)) at_X5_cast_5 rfl rfl (Nat.le_of_ble_eq_true rfl) rfl (ab_rvOf w1 rfl) (L0_X4_isPerson (by omega) (by omega) (by omega) (by omega)) (by decide) rfl ?_
                refine E_if (t := 17) (b := true) at_X5_cast_8 rfl (by decide) ?_
                refine E_aload_n at_X5_cast_17 rfl ?_
                refine E_aload_n at_X5_cast_18 rfl ?_
                refine E_getfield (v := .ref 1) at_X5_cast_19 w0 rfl (by decide) rfl ?_
                refine E_iload_n at_X5_cast_22 rfl ?_
                refine E_iload_n at_X5_cast_23 rfl ?_
                have e1 : Ev ab_Z0 2 122 [.ref 0, .ref 1, .int (nI a1k), .int (nI a2k)] (ww im lf s d k ls rf rz ra rn rq lt m1 m2 m3 m4 bd fc hd sz el s g fm hm so si sh ce ca td wa kp la bf oo bo pw ow tr) (some (.int (-1)), (ww im lf s d k ls rf rz ra rn rq lt m1 m2 m3 m4 bd fc hd sz el s g fm hm so si sh ce ca td wa kp la bf oo bo pw ow tr)) := by
                  refine Ef.in (md := mX5_throwBy) (L := [some (.ref 0), some (.ref 1), some (.int (nI a1k)), some (.int (nI a2k)), none]) rfl (Nat.le_of_ble_eq_true rfl) rfl ?_
                  refine E_aload_n at_X5_throwBy_0 rfl ?_
                  refine E_iload_n at_X5_throwBy_1 rfl ?_
                  refine E_callV (v := some (.int (nI 1))) (As := [.ref 1, .int (nI a1k)]) (r0 := []) (cs2 := (ww im lf s d k ls rf rz ra rn rq lt m1 m2 m3 m4 bd fc hd sz el s g fm hm so si sh ce ca td wa kp la bf oo bo pw ow tr)) at_X5_throwBy_2 rfl rfl (Nat.le_of_ble_eq_true rfl) rfl (ab_rvOf w1 rfl) (L0_X4_isPerson (by omega) (by omega) (by omega) (by omega)) (by decide) rfl ?_
                  refine E_if (t := 18) (b := false) at_X5_throwBy_5 rfl (by decide) ?_
                  refine E_iload_n at_X5_throwBy_8 rfl ?_
                  refine E_aload_n at_X5_throwBy_9 rfl ?_
                  refine E_getfield (v := .ref 6) at_X5_throwBy_10 w1 rfl (by decide) rfl ?_
                  refine E_iload_n at_X5_throwBy_13 rfl ?_
                  refine E_ialN (l := qU s) (v := (qU s).getD a1k 0) at_X5_throwBy_14 w6 (by omega) (by omega) rfl ?_
                  refine E_ic (t := 20) (b := false) at_X5_throwBy_15 rfl ((cn_le (nI_toInt (by omega)) (nI_toInt (by omega))).trans (decide_eq_false (by omega))) ?_
                  refine E_iconst (x := (-1)) at_X5_throwBy_18 (by decide) ?_
                  exact E_iret at_X5_throwBy_19 rfl
                refine E_callV (v := some (.int (-1))) (As := [.ref 0, .ref 1, .int (nI a1k), .int (nI a2k)]) (r0 := []) (cs2 := (ww im lf s d k ls rf rz ra rn rq lt m1 m2 m3 m4 bd fc hd sz el s g fm hm so si sh ce ca td wa kp la bf oo bo pw ow tr)) at_X5_cast_24 rfl rfl (Nat.le_of_ble_eq_true rfl) rfl (ab_rvOf w0 rfl) e1 (by decide) rfl ?_
                refine E_istore_n (L2 := [some (.ref 0), some (.int (nI a1k)), some (.int (nI a2k)), some (.int (-1))]) at_X5_cast_27 rfl ?_
                refine E_iload_n at_X5_cast_28 rfl ?_
                refine E_iconst (x := (-1)) at_X5_cast_29 (by decide) ?_
                refine E_ic (t := 40) (b := false) at_X5_cast_30 rfl (by decide) ?_
                refine E_aload_n at_X5_cast_33 rfl ?_
                refine E_bipush (x := nI 6) at_X5_cast_34 (by decide) ?_
                refine E_callV (v := some (.int (-6))) (As := [.ref 0, .int (nI 6)]) (r0 := []) (cs2 := (ww im lf s d k ls rf rz ra rn rq lt m1 m2 m3 m4 bd (fc.set 6 ((fc.getD 6 0) + (nI 1))) hd sz el s g fm hm so si sh ce ca td wa kp la bf oo bo pw ow tr)) at_X5_cast_36 rfl rfl (Nat.le_of_ble_eq_true rfl) rfl (ab_rvOf w0 rfl) (L26_X5_refuse (by omega)) (by decide) w_lens ?_
                exact E_iret at_X5_cast_39 rfl
              · show Ev ab_Z0 5 197 [.ref 65, .int (nI a1k), .int (nI a2k)] (ww im lf s d k ls rf rz ra rn rq lt m1 m2 m3 m4 bd (fc.set 6 ((fc.getD 6 0) + (nI 1))) hd sz el s g fm hm so si sh ce ca td wa kp la bf oo bo pw ow tr) (some (.int (-6)), (ww im lf s d k ls rf rz ra rn rq lt m1 m2 m3 m4 bd (fc.set 6 ((fc.getD 6 0) + (nI 1))) hd sz el s g (fm.set 6 ((fm.getD 6 0) + (nI 1))) hm so si sh ce ca td wa kp la (lsF (bst s (qPs s 99 (qN s)) (qN s) (2 ^ qN s))) oo bo pw ow tr))
                refine Ef.in (md := mX6_cast) (L := [some (.ref 65), some (.int (nI a1k)), some (.int (nI a2k)), none]) rfl (Nat.le_of_ble_eq_true rfl) rfl ?_
                refine E_aload_n at_X6_cast_0 rfl ?_
                refine E_iload_n at_X6_cast_1 rfl ?_
                refine E_callV (v := some (.int (nI 1))) (As := [.ref 65, .int (nI a1k)]) (r0 := []) (cs2 := (ww im lf s d k ls rf rz ra rn rq lt m1 m2 m3 m4 bd (fc.set 6 ((fc.getD 6 0) + (nI 1))) hd sz el s g fm hm so si sh ce ca td wa kp la bf oo bo pw ow tr)) at_X6_cast_2 rfl rfl (Nat.le_of_ble_eq_true rfl) rfl (ab_rvOf w65 rfl) (L2_X6_isOne (by omega) (by omega) (by omega) (by omega)) (by decide) rfl ?_
                refine E_if (t := 14) (b := true) at_X6_cast_5 rfl (by decide) ?_
                refine E_aload_n at_X6_cast_14 rfl ?_
                refine E_aload_n at_X6_cast_15 rfl ?_
                refine E_bipush (x := nI 99) at_X6_cast_16 (by decide) ?_
                refine E_callV (v := some (.int (nI (qPs s 99 (qN s))))) (As := [.ref 65, .int (nI 99)]) (r0 := [.ref 65]) (cs2 := (ww im lf s d k ls rf rz ra rn rq lt m1 m2 m3 m4 bd (fc.set 6 ((fc.getD 6 0) + (nI 1))) hd sz el s g fm hm so si sh ce ca td wa kp la bf oo bo pw ow tr)) at_X6_cast_18 rfl rfl (Nat.le_of_ble_eq_true rfl) rfl (ab_rvOf w65 rfl) (mo_piecesOf w_m I (by omega)) (by decide) rfl ?_
                refine E_callV (v := none) (As := [.ref 65, .int (nI (qPs s 99 (qN s)))]) (r0 := []) (cs2 := (ww im lf s d k ls rf rz ra rn rq lt m1 m2 m3 m4 bd (fc.set 6 ((fc.getD 6 0) + (nI 1))) hd sz el s g fm hm so si sh ce ca td wa kp la (lsF (bst s (qPs s 99 (qN s)) (qN s) (2 ^ qN s))) oo bo pw ow tr)) at_X6_cast_21 rfl rfl (Nat.le_of_ble_eq_true rfl) rfl (ab_rvOf w65 rfl) (w_best (m := qPs s 99 (qN s)) I (by omega) (lr.2.2.2.2.2.2.2.2.2.2.2.2.2.2.2.1)) (by decide) w_lens ?_
                refine E_aload_n at_X6_cast_24 rfl ?_
                refine E_iload_n at_X6_cast_25 rfl ?_
                refine E_iconst (x := nI 0) at_X6_cast_26 (by decide) ?_
                refine E_bipush (x := nI 99) at_X6_cast_27 (by decide) ?_
                refine E_callV (v := some (.int (nI 0))) (As := [.ref 65, .int (nI a2k), .int (nI 0), .int (nI 99)]) (r0 := []) (cs2 := (ww im lf s d k ls rf rz ra rn rq lt m1 m2 m3 m4 bd (fc.set 6 ((fc.getD 6 0) + (nI 1))) hd sz el s g fm hm so si sh ce ca td wa kp la (lsF (bst s (qPs s 99 (qN s)) (qN s) (2 ^ qN s))) oo bo pw ow tr)) at_X6_cast_29 rfl rfl (Nat.le_of_ble_eq_true rfl) rfl (ab_rvOf w65 rfl) (L83_X6_isFrom (by omega) (by omega) (by omega)) (by decide) rfl ?_
                refine E_if (t := 44) (b := true) at_X6_cast_32 rfl (by decide) ?_
                refine E_iconst (x := (-1)) at_X6_cast_44 (by decide) ?_
                refine E_istore_n (L2 := [some (.ref 65), some (.int (nI a1k)), some (.int (nI a2k)), some (.int (-1))]) at_X6_cast_45 rfl ?_
                refine E_iload_n at_X6_cast_46 rfl ?_
                refine E_iconst (x := (-1)) at_X6_cast_47 (by decide) ?_
                refine E_ic (t := 58) (b := false) at_X6_cast_48 rfl (by decide) ?_
                refine E_aload_n at_X6_cast_51 rfl ?_
                refine E_bipush (x := (-6)) at_X6_cast_52 (by decide) ?_
                refine E_callV (v := some (.int (-6))) (As := [.ref 65, .int (-6)]) (r0 := []) (cs2 := (ww im lf s d k ls rf rz ra rn rq lt m1 m2 m3 m4 bd (fc.set 6 ((fc.getD 6 0) + (nI 1))) hd sz el s g (fm.set 6 ((fm.getD 6 0) + (nI 1))) hm so si sh ce ca td wa kp la (lsF (bst s (qPs s 99 (qN s)) (qN s) (2 ^ qN s))) oo bo pw ow tr)) at_X6_cast_54 rfl rfl (Nat.le_of_ble_eq_true rfl) rfl (ab_rvOf w65 rfl) (L28_X6_no (by omega)) (by decide) w_lens ?_
                exact E_iret at_X6_cast_57 rfl
              · exact ⟨I, rfl, hf, iQ, iM, iT, iS, l_el, (lr.1), (lr.2.1), (lr.2.2.1), (by simp only [List.length_set]; exact (lr.2.2.2.1)), (by simp only [List.length_set]; exact (lr.2.2.2.2.1)), (lr.2.2.2.2.2.1), (lr.2.2.2.2.2.2.1), (lr.2.2.2.2.2.2.2.1), (lr.2.2.2.2.2.2.2.2.1), (lr.2.2.2.2.2.2.2.2.2.1), (lr.2.2.2.2.2.2.2.2.2.2.1), (lr.2.2.2.2.2.2.2.2.2.2.2.1), (lr.2.2.2.2.2.2.2.2.2.2.2.2.1), (lr.2.2.2.2.2.2.2.2.2.2.2.2.2.1), (lr.2.2.2.2.2.2.2.2.2.2.2.2.2.2.1), (lsF_len _), (lr.2.2.2.2.2.2.2.2.2.2.2.2.2.2.2.2.1), (lr.2.2.2.2.2.2.2.2.2.2.2.2.2.2.2.2.2.1), (lr.2.2.2.2.2.2.2.2.2.2.2.2.2.2.2.2.2.2.1), (lr.2.2.2.2.2.2.2.2.2.2.2.2.2.2.2.2.2.2.2.1), (lr.2.2.2.2.2.2.2.2.2.2.2.2.2.2.2.2.2.2.2.2)⟩
            · have er2 : (qR s).toInt = 0 := by rw [er]; rfl
              have := I2 a1k (by omega)
              have := qPs_in s 99 (i := qN s) (by omega)
              have := qPr_in I a1k (w := ((qW s).getD a1k 0)) (by omega)
              refine ⟨(-6), (im, lf, s, d, k, ls, rf, rz, ra, rn, rq, lt, m1, m2, m3, m4, bd, (fc.set 6 ((fc.getD 6 0) + (nI 1))), hd, sz, el, s, g, fm, hm, so, si, sh, ce, ca, td, wa, kp, la, bf, oo, bo, pw, ow, tr), (im, lf, s, d, k, ls, rf, rz, ra, rn, rq, lt, m1, m2, m3, m4, bd, (fc.set 6 ((fc.getD 6 0) + (nI 1))), hd, sz, el, s, g, (fm.set 6 ((fm.getD 6 0) + (nI 1))), hm, so, si, sh, ce, ca, td, wa, kp, la, (lsF (bst s (qPs s 99 (qN s)) (qN s) (2 ^ qN s))), oo, bo, pw, ow, tr), ?_, ?_, ?_⟩
              · show Ev ab_Z0 6 106 [.ref 0, .int (nI a1k), .int (nI a2k)] (ww im lf s d k ls rf rz ra rn rq lt m1 m2 m3 m4 bd fc hd sz el s g fm hm so si sh ce ca td wa kp la bf oo bo pw ow tr) (some (.int (-6)), (ww im lf s d k ls rf rz ra rn rq lt m1 m2 m3 m4 bd (fc.set 6 ((fc.getD 6 0) + (nI 1))) hd sz el s g fm hm so si sh ce ca td wa kp la bf oo bo pw ow tr))
                refine Ef.in (md := mX5_cast) (L := [some (.ref 0), some (.int (nI a1k)), some (.int (nI a2k)), none]) rfl (Nat.le_of_ble_eq_true rfl) rfl ?_
                refine E_aload_n at_X5_cast_0 rfl ?_
                refine E_getfield (v := .ref 1) at_X5_cast_1 w0 rfl (by decide) rfl ?_
                refine E_iload_n at_X5_cast_4 rfl ?_
                refine E_callV (v := some (.int (nI 1))) (As := [.ref 1, .int (nI a1k)]) (r0 := []) (cs2 := (ww im lf s d k ls rf rz ra rn rq lt m1 m2 m3 m4 bd fc hd sz el s g fm hm so si sh ce ca td wa kp la bf oo bo pw ow tr)) at_X5_cast_5 rfl rfl (Nat.le_of_ble_eq_true rfl) rfl (ab_rvOf w1 rfl) (L0_X4_isPerson (by omega) (by omega) (by omega) (by omega)) (by decide) rfl ?_
                refine E_if (t := 17) (b := true) at_X5_cast_8 rfl (by decide) ?_
                refine E_aload_n at_X5_cast_17 rfl ?_
                refine E_aload_n at_X5_cast_18 rfl ?_
                refine E_getfield (v := .ref 1) at_X5_cast_19 w0 rfl (by decide) rfl ?_
                refine E_iload_n at_X5_cast_22 rfl ?_
                refine E_iload_n at_X5_cast_23 rfl ?_
                have e1 : Ev ab_Z0 2 122 [.ref 0, .ref 1, .int (nI a1k), .int (nI a2k)] (ww im lf s d k ls rf rz ra rn rq lt m1 m2 m3 m4 bd fc hd sz el s g fm hm so si sh ce ca td wa kp la bf oo bo pw ow tr) (some (.int (-1)), (ww im lf s d k ls rf rz ra rn rq lt m1 m2 m3 m4 bd fc hd sz el s g fm hm so si sh ce ca td wa kp la bf oo bo pw ow tr)) := by
                  refine Ef.in (md := mX5_throwBy) (L := [some (.ref 0), some (.ref 1), some (.int (nI a1k)), some (.int (nI a2k)), none]) rfl (Nat.le_of_ble_eq_true rfl) rfl ?_
                  refine E_aload_n at_X5_throwBy_0 rfl ?_
                  refine E_iload_n at_X5_throwBy_1 rfl ?_
                  refine E_callV (v := some (.int (nI 1))) (As := [.ref 1, .int (nI a1k)]) (r0 := []) (cs2 := (ww im lf s d k ls rf rz ra rn rq lt m1 m2 m3 m4 bd fc hd sz el s g fm hm so si sh ce ca td wa kp la bf oo bo pw ow tr)) at_X5_throwBy_2 rfl rfl (Nat.le_of_ble_eq_true rfl) rfl (ab_rvOf w1 rfl) (L0_X4_isPerson (by omega) (by omega) (by omega) (by omega)) (by decide) rfl ?_
                  refine E_if (t := 18) (b := false) at_X5_throwBy_5 rfl (by decide) ?_
                  refine E_iload_n at_X5_throwBy_8 rfl ?_
                  refine E_aload_n at_X5_throwBy_9 rfl ?_
                  refine E_getfield (v := .ref 6) at_X5_throwBy_10 w1 rfl (by decide) rfl ?_
                  refine E_iload_n at_X5_throwBy_13 rfl ?_
                  refine E_ialN (l := qU s) (v := (qU s).getD a1k 0) at_X5_throwBy_14 w6 (by omega) (by omega) rfl ?_
                  refine E_ic (t := 20) (b := false) at_X5_throwBy_15 rfl ((cn_le (nI_toInt (by omega)) (nI_toInt (by omega))).trans (decide_eq_false (by omega))) ?_
                  refine E_iconst (x := (-1)) at_X5_throwBy_18 (by decide) ?_
                  exact E_iret at_X5_throwBy_19 rfl
                refine E_callV (v := some (.int (-1))) (As := [.ref 0, .ref 1, .int (nI a1k), .int (nI a2k)]) (r0 := []) (cs2 := (ww im lf s d k ls rf rz ra rn rq lt m1 m2 m3 m4 bd fc hd sz el s g fm hm so si sh ce ca td wa kp la bf oo bo pw ow tr)) at_X5_cast_24 rfl rfl (Nat.le_of_ble_eq_true rfl) rfl (ab_rvOf w0 rfl) e1 (by decide) rfl ?_
                refine E_istore_n (L2 := [some (.ref 0), some (.int (nI a1k)), some (.int (nI a2k)), some (.int (-1))]) at_X5_cast_27 rfl ?_
                refine E_iload_n at_X5_cast_28 rfl ?_
                refine E_iconst (x := (-1)) at_X5_cast_29 (by decide) ?_
                refine E_ic (t := 40) (b := false) at_X5_cast_30 rfl (by decide) ?_
                refine E_aload_n at_X5_cast_33 rfl ?_
                refine E_bipush (x := nI 6) at_X5_cast_34 (by decide) ?_
                refine E_callV (v := some (.int (-6))) (As := [.ref 0, .int (nI 6)]) (r0 := []) (cs2 := (ww im lf s d k ls rf rz ra rn rq lt m1 m2 m3 m4 bd (fc.set 6 ((fc.getD 6 0) + (nI 1))) hd sz el s g fm hm so si sh ce ca td wa kp la bf oo bo pw ow tr)) at_X5_cast_36 rfl rfl (Nat.le_of_ble_eq_true rfl) rfl (ab_rvOf w0 rfl) (L26_X5_refuse (by omega)) (by decide) w_lens ?_
                exact E_iret at_X5_cast_39 rfl
              · show Ev ab_Z0 5 197 [.ref 65, .int (nI a1k), .int (nI a2k)] (ww im lf s d k ls rf rz ra rn rq lt m1 m2 m3 m4 bd (fc.set 6 ((fc.getD 6 0) + (nI 1))) hd sz el s g fm hm so si sh ce ca td wa kp la bf oo bo pw ow tr) (some (.int (-6)), (ww im lf s d k ls rf rz ra rn rq lt m1 m2 m3 m4 bd (fc.set 6 ((fc.getD 6 0) + (nI 1))) hd sz el s g (fm.set 6 ((fm.getD 6 0) + (nI 1))) hm so si sh ce ca td wa kp la (lsF (bst s (qPs s 99 (qN s)) (qN s) (2 ^ qN s))) oo bo pw ow tr))
                refine Ef.in (md := mX6_cast) (L := [some (.ref 65), some (.int (nI a1k)), some (.int (nI a2k)), none]) rfl (Nat.le_of_ble_eq_true rfl) rfl ?_
                refine E_aload_n at_X6_cast_0 rfl ?_
                refine E_iload_n at_X6_cast_1 rfl ?_
                refine E_callV (v := some (.int (nI 1))) (As := [.ref 65, .int (nI a1k)]) (r0 := []) (cs2 := (ww im lf s d k ls rf rz ra rn rq lt m1 m2 m3 m4 bd (fc.set 6 ((fc.getD 6 0) + (nI 1))) hd sz el s g fm hm so si sh ce ca td wa kp la bf oo bo pw ow tr)) at_X6_cast_2 rfl rfl (Nat.le_of_ble_eq_true rfl) rfl (ab_rvOf w65 rfl) (L2_X6_isOne (by omega) (by omega) (by omega) (by omega)) (by decide) rfl ?_
                refine E_if (t := 14) (b := true) at_X6_cast_5 rfl (by decide) ?_
                refine E_aload_n at_X6_cast_14 rfl ?_
                refine E_aload_n at_X6_cast_15 rfl ?_
                refine E_bipush (x := nI 99) at_X6_cast_16 (by decide) ?_
                refine E_callV (v := some (.int (nI (qPs s 99 (qN s))))) (As := [.ref 65, .int (nI 99)]) (r0 := [.ref 65]) (cs2 := (ww im lf s d k ls rf rz ra rn rq lt m1 m2 m3 m4 bd (fc.set 6 ((fc.getD 6 0) + (nI 1))) hd sz el s g fm hm so si sh ce ca td wa kp la bf oo bo pw ow tr)) at_X6_cast_18 rfl rfl (Nat.le_of_ble_eq_true rfl) rfl (ab_rvOf w65 rfl) (mo_piecesOf w_m I (by omega)) (by decide) rfl ?_
                refine E_callV (v := none) (As := [.ref 65, .int (nI (qPs s 99 (qN s)))]) (r0 := []) (cs2 := (ww im lf s d k ls rf rz ra rn rq lt m1 m2 m3 m4 bd (fc.set 6 ((fc.getD 6 0) + (nI 1))) hd sz el s g fm hm so si sh ce ca td wa kp la (lsF (bst s (qPs s 99 (qN s)) (qN s) (2 ^ qN s))) oo bo pw ow tr)) at_X6_cast_21 rfl rfl (Nat.le_of_ble_eq_true rfl) rfl (ab_rvOf w65 rfl) (w_best (m := qPs s 99 (qN s)) I (by omega) (lr.2.2.2.2.2.2.2.2.2.2.2.2.2.2.2.1)) (by decide) w_lens ?_
                refine E_aload_n at_X6_cast_24 rfl ?_
                refine E_iload_n at_X6_cast_25 rfl ?_
                refine E_iconst (x := nI 0) at_X6_cast_26 (by decide) ?_
                refine E_bipush (x := nI 99) at_X6_cast_27 (by decide) ?_
                refine E_callV (v := some (.int (nI 1))) (As := [.ref 65, .int (nI a2k), .int (nI 0), .int (nI 99)]) (r0 := []) (cs2 := (ww im lf s d k ls rf rz ra rn rq lt m1 m2 m3 m4 bd (fc.set 6 ((fc.getD 6 0) + (nI 1))) hd sz el s g fm hm so si sh ce ca td wa kp la (lsF (bst s (qPs s 99 (qN s)) (qN s) (2 ^ qN s))) oo bo pw ow tr)) at_X6_cast_29 rfl rfl (Nat.le_of_ble_eq_true rfl) rfl (ab_rvOf w65 rfl) (L85_X6_isFrom (by omega) (by omega) (by omega)) (by decide) rfl ?_
                refine E_if (t := 44) (b := false) at_X6_cast_32 rfl (by decide) ?_
                refine E_aload_n at_X6_cast_35 rfl ?_
                refine E_iload_n at_X6_cast_36 rfl ?_
                refine E_iload_n at_X6_cast_37 rfl ?_
                have e2 : Ev ab_Z0 2 176 [.ref 65, .int (nI a1k), .int (nI a2k)] (ww im lf s d k ls rf rz ra rn rq lt m1 m2 m3 m4 bd (fc.set 6 ((fc.getD 6 0) + (nI 1))) hd sz el s g fm hm so si sh ce ca td wa kp la (lsF (bst s (qPs s 99 (qN s)) (qN s) (2 ^ qN s))) oo bo pw ow tr) (some (.int (-1)), (ww im lf s d k ls rf rz ra rn rq lt m1 m2 m3 m4 bd (fc.set 6 ((fc.getD 6 0) + (nI 1))) hd sz el s g fm hm so si sh ce ca td wa kp la (lsF (bst s (qPs s 99 (qN s)) (qN s) (2 ^ qN s))) oo bo pw ow tr)) := by
                  refine Ef.in (md := mX6_thrown) (L := [some (.ref 65), some (.int (nI a1k)), some (.int (nI a2k)), none]) rfl (Nat.le_of_ble_eq_true rfl) rfl ?_
                  refine E_iload_n at_X6_thrown_0 rfl ?_
                  refine E_aload_n at_X6_thrown_1 rfl ?_
                  refine E_iload_n at_X6_thrown_2 rfl ?_
                  refine E_aload_n at_X6_thrown_3 rfl ?_
                  refine E_getfield (v := .ref 73) at_X6_thrown_4 w65 rfl (by decide) rfl ?_
                  refine E_iload_n at_X6_thrown_7 rfl ?_
                  refine E_ialN (l := qW s) (v := (qW s).getD a1k 0) at_X6_thrown_8 w73 (by omega) (by omega) rfl ?_
                  refine E_callV (v := some (.int (nI (qPr s a1k ((qW s).getD a1k 0))))) (As := [.ref 65, .int (nI a1k), .int (nI ((qW s).getD a1k 0))]) (r0 := [.int (nI a2k)]) (cs2 := (ww im lf s d k ls rf rz ra rn rq lt m1 m2 m3 m4 bd (fc.set 6 ((fc.getD 6 0) + (nI 1))) hd sz el s g fm hm so si sh ce ca td wa kp la (lsF (bst s (qPs s 99 (qN s)) (qN s) (2 ^ qN s))) oo bo pw ow tr)) at_X6_thrown_9 rfl rfl (Nat.le_of_ble_eq_true rfl) rfl (ab_rvOf w65 rfl) (mo_priceFor w_m I (by omega) (by omega)) (by decide) rfl ?_
                  refine E_isub (z := nI a2k - nI (qPr s a1k ((qW s).getD a1k 0))) at_X6_thrown_12 rfl ?_
                  refine E_istore_n (L2 := [some (.ref 65), some (.int (nI a1k)), some (.int (nI a2k)), some (.int (nI a2k - nI (qPr s a1k ((qW s).getD a1k 0))))]) at_X6_thrown_13 rfl ?_
                  refine E_aload_n at_X6_thrown_14 rfl ?_
                  refine E_iload_n at_X6_thrown_15 rfl ?_
                  refine E_iconst (x := nI 0) at_X6_thrown_16 (by decide) ?_
                  refine E_bipush (x := nI 99) at_X6_thrown_17 (by decide) ?_
                  refine E_callV (v := some (.int (nI 1))) (As := [.ref 65, .int (nI a2k), .int (nI 0), .int (nI 99)]) (r0 := []) (cs2 := (ww im lf s d k ls rf rz ra rn rq lt m1 m2 m3 m4 bd (fc.set 6 ((fc.getD 6 0) + (nI 1))) hd sz el s g fm hm so si sh ce ca td wa kp la (lsF (bst s (qPs s 99 (qN s)) (qN s) (2 ^ qN s))) oo bo pw ow tr)) at_X6_thrown_19 rfl rfl (Nat.le_of_ble_eq_true rfl) rfl (ab_rvOf w65 rfl) (L85_X6_isFrom (by omega) (by omega) (by omega)) (by decide) rfl ?_
                  refine E_if (t := 39) (b := false) at_X6_thrown_22 rfl (by decide) ?_
                  refine E_iload_n at_X6_thrown_25 rfl ?_
                  refine E_aload_n at_X6_thrown_26 rfl ?_
                  refine E_getfield (v := .ref 71) at_X6_thrown_27 w65 rfl (by decide) rfl ?_
                  refine E_iload_n at_X6_thrown_30 rfl ?_
                  refine E_ialN (l := qU s) (v := (qU s).getD a1k 0) at_X6_thrown_31 w71 (by omega) (by omega) rfl ?_
                  refine E_ic (t := 39) (b := true) at_X6_thrown_32 rfl ((cn_gt (nI_toInt (by omega)) (nI_toInt (by omega))).trans (decide_eq_true (by omega))) ?_
                  refine E_iconst (x := (-1)) at_X6_thrown_39 (by decide) ?_
                  refine E_goto (t := 48) at_X6_thrown_40 rfl ?_
                  exact E_iret at_X6_thrown_48 rfl
                refine E_callV (v := some (.int (-1))) (As := [.ref 65, .int (nI a1k), .int (nI a2k)]) (r0 := []) (cs2 := (ww im lf s d k ls rf rz ra rn rq lt m1 m2 m3 m4 bd (fc.set 6 ((fc.getD 6 0) + (nI 1))) hd sz el s g fm hm so si sh ce ca td wa kp la (lsF (bst s (qPs s 99 (qN s)) (qN s) (2 ^ qN s))) oo bo pw ow tr)) at_X6_cast_38 rfl rfl (Nat.le_of_ble_eq_true rfl) rfl (ab_rvOf w65 rfl) e2 (by decide) rfl ?_
                refine E_goto (t := 45) at_X6_cast_41 rfl ?_
                refine E_istore_n (L2 := [some (.ref 65), some (.int (nI a1k)), some (.int (nI a2k)), some (.int (-1))]) at_X6_cast_45 rfl ?_
                refine E_iload_n at_X6_cast_46 rfl ?_
                refine E_iconst (x := (-1)) at_X6_cast_47 (by decide) ?_
                refine E_ic (t := 58) (b := false) at_X6_cast_48 rfl (by decide) ?_
                refine E_aload_n at_X6_cast_51 rfl ?_
                refine E_bipush (x := (-6)) at_X6_cast_52 (by decide) ?_
                refine E_callV (v := some (.int (-6))) (As := [.ref 65, .int (-6)]) (r0 := []) (cs2 := (ww im lf s d k ls rf rz ra rn rq lt m1 m2 m3 m4 bd (fc.set 6 ((fc.getD 6 0) + (nI 1))) hd sz el s g (fm.set 6 ((fm.getD 6 0) + (nI 1))) hm so si sh ce ca td wa kp la (lsF (bst s (qPs s 99 (qN s)) (qN s) (2 ^ qN s))) oo bo pw ow tr)) at_X6_cast_54 rfl rfl (Nat.le_of_ble_eq_true rfl) rfl (ab_rvOf w65 rfl) (L28_X6_no (by omega)) (by decide) w_lens ?_
                exact E_iret at_X6_cast_57 rfl
              · exact ⟨I, rfl, hf, iQ, iM, iT, iS, l_el, (lr.1), (lr.2.1), (lr.2.2.1), (by simp only [List.length_set]; exact (lr.2.2.2.1)), (by simp only [List.length_set]; exact (lr.2.2.2.2.1)), (lr.2.2.2.2.2.1), (lr.2.2.2.2.2.2.1), (lr.2.2.2.2.2.2.2.1), (lr.2.2.2.2.2.2.2.2.1), (lr.2.2.2.2.2.2.2.2.2.1), (lr.2.2.2.2.2.2.2.2.2.2.1), (lr.2.2.2.2.2.2.2.2.2.2.2.1), (lr.2.2.2.2.2.2.2.2.2.2.2.2.1), (lr.2.2.2.2.2.2.2.2.2.2.2.2.2.1), (lr.2.2.2.2.2.2.2.2.2.2.2.2.2.2.1), (lsF_len _), (lr.2.2.2.2.2.2.2.2.2.2.2.2.2.2.2.2.1), (lr.2.2.2.2.2.2.2.2.2.2.2.2.2.2.2.2.2.1), (lr.2.2.2.2.2.2.2.2.2.2.2.2.2.2.2.2.2.2.1), (lr.2.2.2.2.2.2.2.2.2.2.2.2.2.2.2.2.2.2.2.1), (lr.2.2.2.2.2.2.2.2.2.2.2.2.2.2.2.2.2.2.2.2)⟩
          · by_cases f5 : a2k < (qPr s a1k ((qW s).getD a1k 0))
            · have er2 : (qR s).toInt = 0 := by rw [er]; rfl
              have := I2 a1k (by omega)
              have := qPr_in I a1k (w := ((qW s).getD a1k 0)) (by omega)
              have := qPs_in s 99 (i := qN s) (by omega)
              refine ⟨(-6), (im, lf, s, d, k, ls, rf, rz, ra, rn, rq, lt, m1, m2, m3, m4, bd, (fc.set 6 ((fc.getD 6 0) + (nI 1))), hd, sz, el, s, g, fm, hm, so, si, sh, ce, ca, td, wa, kp, la, bf, oo, bo, pw, ow, tr), (im, lf, s, d, k, ls, rf, rz, ra, rn, rq, lt, m1, m2, m3, m4, bd, (fc.set 6 ((fc.getD 6 0) + (nI 1))), hd, sz, el, s, g, (fm.set 6 ((fm.getD 6 0) + (nI 1))), hm, so, si, sh, ce, ca, td, wa, kp, la, (lsF (bst s (qPs s 99 (qN s)) (qN s) (2 ^ qN s))), oo, bo, pw, ow, tr), ?_, ?_, ?_⟩
              · show Ev ab_Z0 6 106 [.ref 0, .int (nI a1k), .int (nI a2k)] (ww im lf s d k ls rf rz ra rn rq lt m1 m2 m3 m4 bd fc hd sz el s g fm hm so si sh ce ca td wa kp la bf oo bo pw ow tr) (some (.int (-6)), (ww im lf s d k ls rf rz ra rn rq lt m1 m2 m3 m4 bd (fc.set 6 ((fc.getD 6 0) + (nI 1))) hd sz el s g fm hm so si sh ce ca td wa kp la bf oo bo pw ow tr))
                refine Ef.in (md := mX5_cast) (L := [some (.ref 0), some (.int (nI a1k)), some (.int (nI a2k)), none]) rfl (Nat.le_of_ble_eq_true rfl) rfl ?_
                refine E_aload_n at_X5_cast_0 rfl ?_
                refine E_getfield (v := .ref 1) at_X5_cast_1 w0 rfl (by decide) rfl ?_
                refine E_iload_n at_X5_cast_4 rfl ?_
                refine E_callV (v := some (.int (nI 1))) (As := [.ref 1, .int (nI a1k)]) (r0 := []) (cs2 := (ww im lf s d k ls rf rz ra rn rq lt m1 m2 m3 m4 bd fc hd sz el s g fm hm so si sh ce ca td wa kp la bf oo bo pw ow tr)) at_X5_cast_5 rfl rfl (Nat.le_of_ble_eq_true rfl) rfl (ab_rvOf w1 rfl) (L0_X4_isPerson (by omega) (by omega) (by omega) (by omega)) (by decide) rfl ?_
                refine E_if (t := 17) (b := true) at_X5_cast_8 rfl (by decide) ?_
                refine E_aload_n at_X5_cast_17 rfl ?_
                refine E_aload_n at_X5_cast_18 rfl ?_
                refine E_getfield (v := .ref 1) at_X5_cast_19 w0 rfl (by decide) rfl ?_
                refine E_iload_n at_X5_cast_22 rfl ?_
                refine E_iload_n at_X5_cast_23 rfl ?_
                have e1 : Ev ab_Z0 4 122 [.ref 0, .ref 1, .int (nI a1k), .int (nI a2k)] (ww im lf s d k ls rf rz ra rn rq lt m1 m2 m3 m4 bd fc hd sz el s g fm hm so si sh ce ca td wa kp la bf oo bo pw ow tr) (some (.int (-1)), (ww im lf s d k ls rf rz ra rn rq lt m1 m2 m3 m4 bd fc hd sz el s g fm hm so si sh ce ca td wa kp la bf oo bo pw ow tr)) := by
                  refine Ef.in (md := mX5_throwBy) (L := [some (.ref 0), some (.ref 1), some (.int (nI a1k)), some (.int (nI a2k)), none]) rfl (Nat.le_of_ble_eq_true rfl) rfl ?_
                  refine E_aload_n at_X5_throwBy_0 rfl ?_
                  refine E_iload_n at_X5_throwBy_1 rfl ?_
                  refine E_callV (v := some (.int (nI 1))) (As := [.ref 1, .int (nI a1k)]) (r0 := []) (cs2 := (ww im lf s d k ls rf rz ra rn rq lt m1 m2 m3 m4 bd fc hd sz el s g fm hm so si sh ce ca td wa kp la bf oo bo pw ow tr)) at_X5_throwBy_2 rfl rfl (Nat.le_of_ble_eq_true rfl) rfl (ab_rvOf w1 rfl) (L0_X4_isPerson (by omega) (by omega) (by omega) (by omega)) (by decide) rfl ?_
                  refine E_if (t := 18) (b := false) at_X5_throwBy_5 rfl (by decide) ?_
                  refine E_iload_n at_X5_throwBy_8 rfl ?_
                  refine E_aload_n at_X5_throwBy_9 rfl ?_
                  refine E_getfield (v := .ref 6) at_X5_throwBy_10 w1 rfl (by decide) rfl ?_
                  refine E_iload_n at_X5_throwBy_13 rfl ?_
                  refine E_ialN (l := qU s) (v := (qU s).getD a1k 0) at_X5_throwBy_14 w6 (by omega) (by omega) rfl ?_
                  refine E_ic (t := 20) (b := true) at_X5_throwBy_15 rfl ((cn_le (nI_toInt (by omega)) (nI_toInt (by omega))).trans (decide_eq_true (by omega))) ?_
                  refine E_aload_n at_X5_throwBy_20 rfl ?_
                  refine E_iload_n at_X5_throwBy_21 rfl ?_
                  refine E_aload_n at_X5_throwBy_22 rfl ?_
                  refine E_getfield (v := .ref 8) at_X5_throwBy_23 w1 rfl (by decide) rfl ?_
                  refine E_iload_n at_X5_throwBy_26 rfl ?_
                  refine E_ialN (l := qW s) (v := (qW s).getD a1k 0) at_X5_throwBy_27 w8 (by omega) (by omega) rfl ?_
                  refine E_callV (v := some (.int (nI (qPr s a1k ((qW s).getD a1k 0))))) (As := [.ref 1, .int (nI a1k), .int (nI ((qW s).getD a1k 0))]) (r0 := []) (cs2 := (ww im lf s d k ls rf rz ra rn rq lt m1 m2 m3 m4 bd fc hd sz el s g fm hm so si sh ce ca td wa kp la bf oo bo pw ow tr)) at_X5_throwBy_28 rfl rfl (Nat.le_of_ble_eq_true rfl) rfl (ab_rvOf w1 rfl) (sq_priceFor w_q1 I (by omega) (by omega)) (by decide) rfl ?_
                  refine E_istore (L2 := [some (.ref 0), some (.ref 1), some (.int (nI a1k)), some (.int (nI a2k)), some (.int (nI (qPr s a1k ((qW s).getD a1k 0))))]) at_X5_throwBy_31 rfl ?_
                  refine E_iload_n at_X5_throwBy_33 rfl ?_
                  refine E_iload at_X5_throwBy_34 rfl ?_
                  refine E_ic (t := 43) (b := false) at_X5_throwBy_36 rfl ((cn_ge (nI_toInt (by omega)) (nI_toInt (by omega))).trans (decide_eq_false (by omega))) ?_
                  refine E_iconst (x := (-1)) at_X5_throwBy_39 (by decide) ?_
                  refine E_goto (t := 59) at_X5_throwBy_40 rfl ?_
                  exact E_iret at_X5_throwBy_59 rfl
                refine E_callV (v := some (.int (-1))) (As := [.ref 0, .ref 1, .int (nI a1k), .int (nI a2k)]) (r0 := []) (cs2 := (ww im lf s d k ls rf rz ra rn rq lt m1 m2 m3 m4 bd fc hd sz el s g fm hm so si sh ce ca td wa kp la bf oo bo pw ow tr)) at_X5_cast_24 rfl rfl (Nat.le_of_ble_eq_true rfl) rfl (ab_rvOf w0 rfl) e1 (by decide) rfl ?_
                refine E_istore_n (L2 := [some (.ref 0), some (.int (nI a1k)), some (.int (nI a2k)), some (.int (-1))]) at_X5_cast_27 rfl ?_
                refine E_iload_n at_X5_cast_28 rfl ?_
                refine E_iconst (x := (-1)) at_X5_cast_29 (by decide) ?_
                refine E_ic (t := 40) (b := false) at_X5_cast_30 rfl (by decide) ?_
                refine E_aload_n at_X5_cast_33 rfl ?_
                refine E_bipush (x := nI 6) at_X5_cast_34 (by decide) ?_
                refine E_callV (v := some (.int (-6))) (As := [.ref 0, .int (nI 6)]) (r0 := []) (cs2 := (ww im lf s d k ls rf rz ra rn rq lt m1 m2 m3 m4 bd (fc.set 6 ((fc.getD 6 0) + (nI 1))) hd sz el s g fm hm so si sh ce ca td wa kp la bf oo bo pw ow tr)) at_X5_cast_36 rfl rfl (Nat.le_of_ble_eq_true rfl) rfl (ab_rvOf w0 rfl) (L26_X5_refuse (by omega)) (by decide) w_lens ?_
                exact E_iret at_X5_cast_39 rfl
              · show Ev ab_Z0 5 197 [.ref 65, .int (nI a1k), .int (nI a2k)] (ww im lf s d k ls rf rz ra rn rq lt m1 m2 m3 m4 bd (fc.set 6 ((fc.getD 6 0) + (nI 1))) hd sz el s g fm hm so si sh ce ca td wa kp la bf oo bo pw ow tr) (some (.int (-6)), (ww im lf s d k ls rf rz ra rn rq lt m1 m2 m3 m4 bd (fc.set 6 ((fc.getD 6 0) + (nI 1))) hd sz el s g (fm.set 6 ((fm.getD 6 0) + (nI 1))) hm so si sh ce ca td wa kp la (lsF (bst s (qPs s 99 (qN s)) (qN s) (2 ^ qN s))) oo bo pw ow tr))
                refine Ef.in (md := mX6_cast) (L := [some (.ref 65), some (.int (nI a1k)), some (.int (nI a2k)), none]) rfl (Nat.le_of_ble_eq_true rfl) rfl ?_
                refine E_aload_n at_X6_cast_0 rfl ?_
                refine E_iload_n at_X6_cast_1 rfl ?_
                refine E_callV (v := some (.int (nI 1))) (As := [.ref 65, .int (nI a1k)]) (r0 := []) (cs2 := (ww im lf s d k ls rf rz ra rn rq lt m1 m2 m3 m4 bd (fc.set 6 ((fc.getD 6 0) + (nI 1))) hd sz el s g fm hm so si sh ce ca td wa kp la bf oo bo pw ow tr)) at_X6_cast_2 rfl rfl (Nat.le_of_ble_eq_true rfl) rfl (ab_rvOf w65 rfl) (L2_X6_isOne (by omega) (by omega) (by omega) (by omega)) (by decide) rfl ?_
                refine E_if (t := 14) (b := true) at_X6_cast_5 rfl (by decide) ?_
                refine E_aload_n at_X6_cast_14 rfl ?_
                refine E_aload_n at_X6_cast_15 rfl ?_
                refine E_bipush (x := nI 99) at_X6_cast_16 (by decide) ?_
                refine E_callV (v := some (.int (nI (qPs s 99 (qN s))))) (As := [.ref 65, .int (nI 99)]) (r0 := [.ref 65]) (cs2 := (ww im lf s d k ls rf rz ra rn rq lt m1 m2 m3 m4 bd (fc.set 6 ((fc.getD 6 0) + (nI 1))) hd sz el s g fm hm so si sh ce ca td wa kp la bf oo bo pw ow tr)) at_X6_cast_18 rfl rfl (Nat.le_of_ble_eq_true rfl) rfl (ab_rvOf w65 rfl) (mo_piecesOf w_m I (by omega)) (by decide) rfl ?_
                refine E_callV (v := none) (As := [.ref 65, .int (nI (qPs s 99 (qN s)))]) (r0 := []) (cs2 := (ww im lf s d k ls rf rz ra rn rq lt m1 m2 m3 m4 bd (fc.set 6 ((fc.getD 6 0) + (nI 1))) hd sz el s g fm hm so si sh ce ca td wa kp la (lsF (bst s (qPs s 99 (qN s)) (qN s) (2 ^ qN s))) oo bo pw ow tr)) at_X6_cast_21 rfl rfl (Nat.le_of_ble_eq_true rfl) rfl (ab_rvOf w65 rfl) (w_best (m := qPs s 99 (qN s)) I (by omega) (lr.2.2.2.2.2.2.2.2.2.2.2.2.2.2.2.1)) (by decide) w_lens ?_
                refine E_aload_n at_X6_cast_24 rfl ?_
                refine E_iload_n at_X6_cast_25 rfl ?_
                refine E_iconst (x := nI 0) at_X6_cast_26 (by decide) ?_
                refine E_bipush (x := nI 99) at_X6_cast_27 (by decide) ?_
                refine E_callV (v := some (.int (nI 1))) (As := [.ref 65, .int (nI a2k), .int (nI 0), .int (nI 99)]) (r0 := []) (cs2 := (ww im lf s d k ls rf rz ra rn rq lt m1 m2 m3 m4 bd (fc.set 6 ((fc.getD 6 0) + (nI 1))) hd sz el s g fm hm so si sh ce ca td wa kp la (lsF (bst s (qPs s 99 (qN s)) (qN s) (2 ^ qN s))) oo bo pw ow tr)) at_X6_cast_29 rfl rfl (Nat.le_of_ble_eq_true rfl) rfl (ab_rvOf w65 rfl) (L85_X6_isFrom (by omega) (by omega) (by omega)) (by decide) rfl ?_
                refine E_if (t := 44) (b := false) at_X6_cast_32 rfl (by decide) ?_
                refine E_aload_n at_X6_cast_35 rfl ?_
                refine E_iload_n at_X6_cast_36 rfl ?_
                refine E_iload_n at_X6_cast_37 rfl ?_
                have e2 : Ev ab_Z0 2 176 [.ref 65, .int (nI a1k), .int (nI a2k)] (ww im lf s d k ls rf rz ra rn rq lt m1 m2 m3 m4 bd (fc.set 6 ((fc.getD 6 0) + (nI 1))) hd sz el s g fm hm so si sh ce ca td wa kp la (lsF (bst s (qPs s 99 (qN s)) (qN s) (2 ^ qN s))) oo bo pw ow tr) (some (.int (-1)), (ww im lf s d k ls rf rz ra rn rq lt m1 m2 m3 m4 bd (fc.set 6 ((fc.getD 6 0) + (nI 1))) hd sz el s g fm hm so si sh ce ca td wa kp la (lsF (bst s (qPs s 99 (qN s)) (qN s) (2 ^ qN s))) oo bo pw ow tr)) := by
                  refine Ef.in (md := mX6_thrown) (L := [some (.ref 65), some (.int (nI a1k)), some (.int (nI a2k)), none]) rfl (Nat.le_of_ble_eq_true rfl) rfl ?_
                  refine E_iload_n at_X6_thrown_0 rfl ?_
                  refine E_aload_n at_X6_thrown_1 rfl ?_
                  refine E_iload_n at_X6_thrown_2 rfl ?_
                  refine E_aload_n at_X6_thrown_3 rfl ?_
                  refine E_getfield (v := .ref 73) at_X6_thrown_4 w65 rfl (by decide) rfl ?_
                  refine E_iload_n at_X6_thrown_7 rfl ?_
                  refine E_ialN (l := qW s) (v := (qW s).getD a1k 0) at_X6_thrown_8 w73 (by omega) (by omega) rfl ?_
                  refine E_callV (v := some (.int (nI (qPr s a1k ((qW s).getD a1k 0))))) (As := [.ref 65, .int (nI a1k), .int (nI ((qW s).getD a1k 0))]) (r0 := [.int (nI a2k)]) (cs2 := (ww im lf s d k ls rf rz ra rn rq lt m1 m2 m3 m4 bd (fc.set 6 ((fc.getD 6 0) + (nI 1))) hd sz el s g fm hm so si sh ce ca td wa kp la (lsF (bst s (qPs s 99 (qN s)) (qN s) (2 ^ qN s))) oo bo pw ow tr)) at_X6_thrown_9 rfl rfl (Nat.le_of_ble_eq_true rfl) rfl (ab_rvOf w65 rfl) (mo_priceFor w_m I (by omega) (by omega)) (by decide) rfl ?_
                  refine E_isub (z := nI a2k - nI (qPr s a1k ((qW s).getD a1k 0))) at_X6_thrown_12 rfl ?_
                  refine E_istore_n (L2 := [some (.ref 65), some (.int (nI a1k)), some (.int (nI a2k)), some (.int (nI a2k - nI (qPr s a1k ((qW s).getD a1k 0))))]) at_X6_thrown_13 rfl ?_
                  refine E_aload_n at_X6_thrown_14 rfl ?_
                  refine E_iload_n at_X6_thrown_15 rfl ?_
                  refine E_iconst (x := nI 0) at_X6_thrown_16 (by decide) ?_
                  refine E_bipush (x := nI 99) at_X6_thrown_17 (by decide) ?_
                  refine E_callV (v := some (.int (nI 1))) (As := [.ref 65, .int (nI a2k), .int (nI 0), .int (nI 99)]) (r0 := []) (cs2 := (ww im lf s d k ls rf rz ra rn rq lt m1 m2 m3 m4 bd (fc.set 6 ((fc.getD 6 0) + (nI 1))) hd sz el s g fm hm so si sh ce ca td wa kp la (lsF (bst s (qPs s 99 (qN s)) (qN s) (2 ^ qN s))) oo bo pw ow tr)) at_X6_thrown_19 rfl rfl (Nat.le_of_ble_eq_true rfl) rfl (ab_rvOf w65 rfl) (L85_X6_isFrom (by omega) (by omega) (by omega)) (by decide) rfl ?_
                  refine E_if (t := 39) (b := false) at_X6_thrown_22 rfl (by decide) ?_
                  refine E_iload_n at_X6_thrown_25 rfl ?_
                  refine E_aload_n at_X6_thrown_26 rfl ?_
                  refine E_getfield (v := .ref 71) at_X6_thrown_27 w65 rfl (by decide) rfl ?_
                  refine E_iload_n at_X6_thrown_30 rfl ?_
                  refine E_ialN (l := qU s) (v := (qU s).getD a1k 0) at_X6_thrown_31 w71 (by omega) (by omega) rfl ?_
                  refine E_ic (t := 39) (b := false) at_X6_thrown_32 rfl ((cn_gt (nI_toInt (by omega)) (nI_toInt (by omega))).trans (decide_eq_false (by omega))) ?_
                  refine E_iload_n at_X6_thrown_35 rfl ?_
                  refine E_if (t := 43) (b := false) at_X6_thrown_36 rfl ((cn_ge (ab_subI (by omega) (by omega)) (by decide : (0 : Int32).toInt = 0)).trans (decide_eq_false (by omega))) ?_
                  refine E_iconst (x := (-1)) at_X6_thrown_39 (by decide) ?_
                  refine E_goto (t := 48) at_X6_thrown_40 rfl ?_
                  exact E_iret at_X6_thrown_48 rfl
                refine E_callV (v := some (.int (-1))) (As := [.ref 65, .int (nI a1k), .int (nI a2k)]) (r0 := []) (cs2 := (ww im lf s d k ls rf rz ra rn rq lt m1 m2 m3 m4 bd (fc.set 6 ((fc.getD 6 0) + (nI 1))) hd sz el s g fm hm so si sh ce ca td wa kp la (lsF (bst s (qPs s 99 (qN s)) (qN s) (2 ^ qN s))) oo bo pw ow tr)) at_X6_cast_38 rfl rfl (Nat.le_of_ble_eq_true rfl) rfl (ab_rvOf w65 rfl) e2 (by decide) rfl ?_
                refine E_goto (t := 45) at_X6_cast_41 rfl ?_
                refine E_istore_n (L2 := [some (.ref 65), some (.int (nI a1k)), some (.int (nI a2k)), some (.int (-1))]) at_X6_cast_45 rfl ?_
                refine E_iload_n at_X6_cast_46 rfl ?_
                refine E_iconst (x := (-1)) at_X6_cast_47 (by decide) ?_
                refine E_ic (t := 58) (b := false) at_X6_cast_48 rfl (by decide) ?_
                refine E_aload_n at_X6_cast_51 rfl ?_
                refine E_bipush (x := (-6)) at_X6_cast_52 (by decide) ?_
                refine E_callV (v := some (.int (-6))) (As := [.ref 65, .int (-6)]) (r0 := []) (cs2 := (ww im lf s d k ls rf rz ra rn rq lt m1 m2 m3 m4 bd (fc.set 6 ((fc.getD 6 0) + (nI 1))) hd sz el s g (fm.set 6 ((fm.getD 6 0) + (nI 1))) hm so si sh ce ca td wa kp la (lsF (bst s (qPs s 99 (qN s)) (qN s) (2 ^ qN s))) oo bo pw ow tr)) at_X6_cast_54 rfl rfl (Nat.le_of_ble_eq_true rfl) rfl (ab_rvOf w65 rfl) (L28_X6_no (by omega)) (by decide) w_lens ?_
                exact E_iret at_X6_cast_57 rfl
              · exact ⟨I, rfl, hf, iQ, iM, iT, iS, l_el, (lr.1), (lr.2.1), (lr.2.2.1), (by simp only [List.length_set]; exact (lr.2.2.2.1)), (by simp only [List.length_set]; exact (lr.2.2.2.2.1)), (lr.2.2.2.2.2.1), (lr.2.2.2.2.2.2.1), (lr.2.2.2.2.2.2.2.1), (lr.2.2.2.2.2.2.2.2.1), (lr.2.2.2.2.2.2.2.2.2.1), (lr.2.2.2.2.2.2.2.2.2.2.1), (lr.2.2.2.2.2.2.2.2.2.2.2.1), (lr.2.2.2.2.2.2.2.2.2.2.2.2.1), (lr.2.2.2.2.2.2.2.2.2.2.2.2.2.1), (lr.2.2.2.2.2.2.2.2.2.2.2.2.2.2.1), (lsF_len _), (lr.2.2.2.2.2.2.2.2.2.2.2.2.2.2.2.2.1), (lr.2.2.2.2.2.2.2.2.2.2.2.2.2.2.2.2.2.1), (lr.2.2.2.2.2.2.2.2.2.2.2.2.2.2.2.2.2.2.1), (lr.2.2.2.2.2.2.2.2.2.2.2.2.2.2.2.2.2.2.2.1), (lr.2.2.2.2.2.2.2.2.2.2.2.2.2.2.2.2.2.2.2.2)⟩
            · rcases wgh_bst s (qPs s 99 (qN s)) (qN s) (a2k - (qPr s a1k ((qW s).getD a1k 0))) with ⟨eb0, fb0⟩ | ⟨B0, hB0, hs0, hw0, hb0, hk0⟩
              · have er2 : (qR s).toInt = 0 := by rw [er]; rfl
                have := I2 a1k (by omega)
                have := qPr_in I a1k (w := ((qW s).getD a1k 0)) (by omega)
                have := qPs_in s 99 (i := qN s) (by omega)
                have := lsF_len (wgh s (qPs s 99 (qN s)) (qN s))
                have := lsF_len (bst s (qPs s 99 (qN s)) (qN s) (2 ^ qN s))
                refine ⟨(-6), (im, lf, s, d, k, (lsF (wgh s (qPs s 99 (qN s)) (qN s))), rf, rz, ra, rn, rq, lt, m1, m2, m3, m4, bd, (fc.set 6 ((fc.getD 6 0) + (nI 1))), hd, sz, el, s, g, fm, hm, so, si, sh, ce, ca, td, wa, kp, la, bf, oo, bo, pw, ow, tr), (im, lf, s, d, k, (lsF (wgh s (qPs s 99 (qN s)) (qN s))), rf, rz, ra, rn, rq, lt, m1, m2, m3, m4, bd, (fc.set 6 ((fc.getD 6 0) + (nI 1))), hd, sz, el, s, g, (fm.set 6 ((fm.getD 6 0) + (nI 1))), hm, so, si, sh, ce, ca, td, wa, kp, la, (lsF (bst s (qPs s 99 (qN s)) (qN s) (2 ^ qN s))), oo, bo, pw, ow, tr), ?_, ?_, ?_⟩
                · show Ev ab_Z0 6 106 [.ref 0, .int (nI a1k), .int (nI a2k)] (ww im lf s d k ls rf rz ra rn rq lt m1 m2 m3 m4 bd fc hd sz el s g fm hm so si sh ce ca td wa kp la bf oo bo pw ow tr) (some (.int (-6)), (ww im lf s d k (lsF (wgh s (qPs s 99 (qN s)) (qN s))) rf rz ra rn rq lt m1 m2 m3 m4 bd (fc.set 6 ((fc.getD 6 0) + (nI 1))) hd sz el s g fm hm so si sh ce ca td wa kp la bf oo bo pw ow tr))
                  refine Ef.in (md := mX5_cast) (L := [some (.ref 0), some (.int (nI a1k)), some (.int (nI a2k)), none]) rfl (Nat.le_of_ble_eq_true rfl) rfl ?_
                  refine E_aload_n at_X5_cast_0 rfl ?_
                  refine E_getfield (v := .ref 1) at_X5_cast_1 w0 rfl (by decide) rfl ?_
                  refine E_iload_n at_X5_cast_4 rfl ?_
                  refine E_callV (v := some (.int (nI 1))) (As := [.ref 1, .int (nI a1k)]) (r0 := []) (cs2 := (ww im lf s d k ls rf rz ra rn rq lt m1 m2 m3 m4 bd fc hd sz el s g fm hm so si sh ce ca td wa kp la bf oo bo pw ow tr)) at_X5_cast_5 rfl rfl (Nat.le_of_ble_eq_true rfl) rfl (ab_rvOf w1 rfl) (L0_X4_isPerson (by omega) (by omega) (by omega) (by omega)) (by decide) rfl ?_
                  refine E_if (t := 17) (b := true) at_X5_cast_8 rfl (by decide) ?_
                  refine E_aload_n at_X5_cast_17 rfl ?_
                  refine E_aload_n at_X5_cast_18 rfl ?_
                  refine E_getfield (v := .ref 1) at_X5_cast_19 w0 rfl (by decide) rfl ?_
                  refine E_iload_n at_X5_cast_22 rfl ?_
                  refine E_iload_n at_X5_cast_23 rfl ?_
                  have e3 : Ev ab_Z0 4 122 [.ref 0, .ref 1, .int (nI a1k), .int (nI a2k)] (ww im lf s d k ls rf rz ra rn rq lt m1 m2 m3 m4 bd fc hd sz el s g fm hm so si sh ce ca td wa kp la bf oo bo pw ow tr) (some (.int (-1)), (ww im lf s d k (lsF (wgh s (qPs s 99 (qN s)) (qN s))) rf rz ra rn rq lt m1 m2 m3 m4 bd fc hd sz el s g fm hm so si sh ce ca td wa kp la bf oo bo pw ow tr)) := by
                    refine Ef.in (md := mX5_throwBy) (L := [some (.ref 0), some (.ref 1), some (.int (nI a1k)), some (.int (nI a2k)), none]) rfl (Nat.le_of_ble_eq_true rfl) rfl ?_
                    refine E_aload_n at_X5_throwBy_0 rfl ?_
                    refine E_iload_n at_X5_throwBy_1 rfl ?_
                    refine E_callV (v := some (.int (nI 1))) (As := [.ref 1, .int (nI a1k)]) (r0 := []) (cs2 := (ww im lf s d k ls rf rz ra rn rq lt m1 m2 m3 m4 bd fc hd sz el s g fm hm so si sh ce ca td wa kp la bf oo bo pw ow tr)) at_X5_throwBy_2 rfl rfl (Nat.le_of_ble_eq_true rfl) rfl (ab_rvOf w1 rfl) (L0_X4_isPerson (by omega) (by omega) (by omega) (by omega)) (by decide) rfl ?_
                    refine E_if (t := 18) (b := false) at_X5_throwBy_5 rfl (by decide) ?_
                    refine E_iload_n at_X5_throwBy_8 rfl ?_
                    refine E_aload_n at_X5_throwBy_9 rfl ?_
                    refine E_getfield (v := .ref 6) at_X5_throwBy_10 w1 rfl (by decide) rfl ?_
                    refine E_iload_n at_X5_throwBy_13 rfl ?_
                    refine E_ialN (l := qU s) (v := (qU s).getD a1k 0) at_X5_throwBy_14 w6 (by omega) (by omega) rfl ?_
                    refine E_ic (t := 20) (b := true) at_X5_throwBy_15 rfl ((cn_le (nI_toInt (by omega)) (nI_toInt (by omega))).trans (decide_eq_true (by omega))) ?_
                    refine E_aload_n at_X5_throwBy_20 rfl ?_
                    refine E_iload_n at_X5_throwBy_21 rfl ?_
                    refine E_aload_n at_X5_throwBy_22 rfl ?_
                    refine E_getfield (v := .ref 8) at_X5_throwBy_23 w1 rfl (by decide) rfl ?_
                    refine E_iload_n at_X5_throwBy_26 rfl ?_
                    refine E_ialN (l := qW s) (v := (qW s).getD a1k 0) at_X5_throwBy_27 w8 (by omega) (by omega) rfl ?_
                    refine E_callV (v := some (.int (nI (qPr s a1k ((qW s).getD a1k 0))))) (As := [.ref 1, .int (nI a1k), .int (nI ((qW s).getD a1k 0))]) (r0 := []) (cs2 := (ww im lf s d k ls rf rz ra rn rq lt m1 m2 m3 m4 bd fc hd sz el s g fm hm so si sh ce ca td wa kp la bf oo bo pw ow tr)) at_X5_throwBy_28 rfl rfl (Nat.le_of_ble_eq_true rfl) rfl (ab_rvOf w1 rfl) (sq_priceFor w_q1 I (by omega) (by omega)) (by decide) rfl ?_
                    refine E_istore (L2 := [some (.ref 0), some (.ref 1), some (.int (nI a1k)), some (.int (nI a2k)), some (.int (nI (qPr s a1k ((qW s).getD a1k 0))))]) at_X5_throwBy_31 rfl ?_
                    refine E_iload_n at_X5_throwBy_33 rfl ?_
                    refine E_iload at_X5_throwBy_34 rfl ?_
                    refine E_ic (t := 43) (b := true) at_X5_throwBy_36 rfl ((cn_ge (nI_toInt (by omega)) (nI_toInt (by omega))).trans (decide_eq_true (by omega))) ?_
                    refine E_aload_n at_X5_throwBy_43 rfl ?_
                    refine E_getfield (v := .ref 32) at_X5_throwBy_44 w0 rfl (by decide) rfl ?_
                    refine E_aload_n at_X5_throwBy_47 rfl ?_
                    refine E_aload_n at_X5_throwBy_48 rfl ?_
                    refine E_getfield (v := .int (qR s)) at_X5_throwBy_49 w1 rfl (by decide) rfl ?_
                    refine E_iload_n at_X5_throwBy_52 rfl ?_
                    refine E_iload at_X5_throwBy_53 rfl ?_
                    refine E_isub (z := nI (a2k - (qPr s a1k ((qW s).getD a1k 0)))) at_X5_throwBy_55 (pk_sub (by omega)) ?_
                    have e2 : Ev ab_Z0 3 1 [.ref 32, .ref 1, .int (qR s), .int (nI (a2k - (qPr s a1k ((qW s).getD a1k 0))))] (ww im lf s d k ls rf rz ra rn rq lt m1 m2 m3 m4 bd fc hd sz el s g fm hm so si sh ce ca td wa kp la bf oo bo pw ow tr) (some (.int (-1)), (ww im lf s d k (lsF (wgh s (qPs s 99 (qN s)) (qN s))) rf rz ra rn rq lt m1 m2 m3 m4 bd fc hd sz el s g fm hm so si sh ce ca td wa kp la bf oo bo pw ow tr)) := by
                      refine Ef.in (md := mX0_bitsBy) (L := [some (.ref 32), some (.ref 1), some (.int (qR s)), some (.int (nI (a2k - (qPr s a1k ((qW s).getD a1k 0)))))]) rfl (Nat.le_of_ble_eq_true rfl) rfl ?_
                      refine E_iload_n at_X0_bitsBy_0 rfl ?_
                      refine E_iconst (x := nI 1) at_X0_bitsBy_1 (by decide) ?_
                      refine E_ic (t := 11) (b := true) at_X0_bitsBy_2 rfl ((cn_ne rfl (nI_toInt (by omega))).trans (decide_eq_true (by omega))) ?_
                      refine E_aload_n at_X0_bitsBy_11 rfl ?_
                      refine E_aload_n at_X0_bitsBy_12 rfl ?_
                      refine E_aload_n at_X0_bitsBy_13 rfl ?_
                      refine E_callV (v := some (.int (nI (qPs s 99 (qN s))))) (As := [.ref 1]) (r0 := [.ref 1, .ref 32]) (cs2 := (ww im lf s d k ls rf rz ra rn rq lt m1 m2 m3 m4 bd fc hd sz el s g fm hm so si sh ce ca td wa kp la bf oo bo pw ow tr)) at_X0_bitsBy_14 rfl rfl (Nat.le_of_ble_eq_true rfl) rfl (ab_rvOf w1 rfl) (sq_basin w_q1 I) (by decide) rfl ?_
                      refine E_callV (v := none) (As := [.ref 32, .ref 1, .int (nI (qPs s 99 (qN s)))]) (r0 := []) (cs2 := (ww im lf s d k (lsF (wgh s (qPs s 99 (qN s)) (qN s))) rf rz ra rn rq lt m1 m2 m3 m4 bd fc hd sz el s g fm hm so si sh ce ca td wa kp la bf oo bo pw ow tr)) at_X0_bitsBy_17 rfl rfl (Nat.le_of_ble_eq_true rfl) rfl (ab_rvOf w32 rfl) (w_weigh1 (m := qPs s 99 (qN s)) I (by omega) (lr.1)) (by decide) w_lens ?_
                      refine E_aload_n at_X0_bitsBy_20 rfl ?_
                      refine E_iload_n at_X0_bitsBy_21 rfl ?_
                      have e1 : Ev ab_Z0 2 4 [.ref 32, .int (nI (a2k - (qPr s a1k ((qW s).getD a1k 0))))] (ww im lf s d k (lsF (wgh s (qPs s 99 (qN s)) (qN s))) rf rz ra rn rq lt m1 m2 m3 m4 bd fc hd sz el s g fm hm so si sh ce ca td wa kp la bf oo bo pw ow tr) (some (.int (-1)), (ww im lf s d k (lsF (wgh s (qPs s 99 (qN s)) (qN s))) rf rz ra rn rq lt m1 m2 m3 m4 bd fc hd sz el s g fm hm so si sh ce ca td wa kp la bf oo bo pw ow tr)) := by
                        refine Ef.in (md := mX0_fewestFor) (L := [some (.ref 32), some (.int (nI (a2k - (qPr s a1k ((qW s).getD a1k 0)))))]) rfl (Nat.le_of_ble_eq_true rfl) rfl ?_
                        refine E_iload_n at_X0_fewestFor_0 rfl ?_
                        refine E_callS (v := some (.int (nI 1))) (As := [.int (nI (a2k - (qPr s a1k ((qW s).getD a1k 0))))]) (r0 := []) (cs2 := (ww im lf s d k (lsF (wgh s (qPs s 99 (qN s)) (qN s))) rf rz ra rn rq lt m1 m2 m3 m4 bd fc hd sz el s g fm hm so si sh ce ca td wa kp la bf oo bo pw ow tr)) at_X0_fewestFor_1 rfl rfl (Nat.le_of_ble_eq_true rfl) rfl (L97_X4_isAmount (by omega) (by omega) (by omega)) (by decide) rfl ?_
                        refine E_if (t := 17) (b := false) at_X0_fewestFor_4 rfl (by decide) ?_
                        refine E_aload_n at_X0_fewestFor_7 rfl ?_
                        refine E_getfield (v := .ref 33) at_X0_fewestFor_8 w32 rfl (by decide) rfl ?_
                        refine E_iload_n at_X0_fewestFor_11 rfl ?_
                        refine E_ialI (l := (lsF (wgh s (qPs s 99 (qN s)) (qN s)))) (v := (-1)) at_X0_fewestFor_12 w33 (by omega) (by omega) (by rw [lsF_get (by omega), eb0]; rfl) ?_
                        refine E_iconst (x := (-1)) at_X0_fewestFor_13 (by decide) ?_
                        refine E_ic (t := 19) (b := false) at_X0_fewestFor_14 rfl (by decide) ?_
                        refine E_iconst (x := (-1)) at_X0_fewestFor_17 (by decide) ?_
                        exact E_iret at_X0_fewestFor_18 rfl
                      refine E_callV (v := some (.int (-1))) (As := [.ref 32, .int (nI (a2k - (qPr s a1k ((qW s).getD a1k 0))))]) (r0 := []) (cs2 := (ww im lf s d k (lsF (wgh s (qPs s 99 (qN s)) (qN s))) rf rz ra rn rq lt m1 m2 m3 m4 bd fc hd sz el s g fm hm so si sh ce ca td wa kp la bf oo bo pw ow tr)) at_X0_bitsBy_22 rfl rfl (Nat.le_of_ble_eq_true rfl) rfl (ab_rvOf w32 rfl) e1 (by decide) rfl ?_
                      exact E_iret at_X0_bitsBy_25 rfl
                    refine E_callV (v := some (.int (-1))) (As := [.ref 32, .ref 1, .int (qR s), .int (nI (a2k - (qPr s a1k ((qW s).getD a1k 0))))]) (r0 := []) (cs2 := (ww im lf s d k (lsF (wgh s (qPs s 99 (qN s)) (qN s))) rf rz ra rn rq lt m1 m2 m3 m4 bd fc hd sz el s g fm hm so si sh ce ca td wa kp la bf oo bo pw ow tr)) at_X5_throwBy_56 rfl rfl (Nat.le_of_ble_eq_true rfl) rfl (ab_rvOf w32 rfl) e2 (by decide) w_lens ?_
                    exact E_iret at_X5_throwBy_59 rfl
                  refine E_callV (v := some (.int (-1))) (As := [.ref 0, .ref 1, .int (nI a1k), .int (nI a2k)]) (r0 := []) (cs2 := (ww im lf s d k (lsF (wgh s (qPs s 99 (qN s)) (qN s))) rf rz ra rn rq lt m1 m2 m3 m4 bd fc hd sz el s g fm hm so si sh ce ca td wa kp la bf oo bo pw ow tr)) at_X5_cast_24 rfl rfl (Nat.le_of_ble_eq_true rfl) rfl (ab_rvOf w0 rfl) e3 (by decide) w_lens ?_
                  refine E_istore_n (L2 := [some (.ref 0), some (.int (nI a1k)), some (.int (nI a2k)), some (.int (-1))]) at_X5_cast_27 rfl ?_
                  refine E_iload_n at_X5_cast_28 rfl ?_
                  refine E_iconst (x := (-1)) at_X5_cast_29 (by decide) ?_
                  refine E_ic (t := 40) (b := false) at_X5_cast_30 rfl (by decide) ?_
                  refine E_aload_n at_X5_cast_33 rfl ?_
                  refine E_bipush (x := nI 6) at_X5_cast_34 (by decide) ?_
                  refine E_callV (v := some (.int (-6))) (As := [.ref 0, .int (nI 6)]) (r0 := []) (cs2 := (ww im lf s d k (lsF (wgh s (qPs s 99 (qN s)) (qN s))) rf rz ra rn rq lt m1 m2 m3 m4 bd (fc.set 6 ((fc.getD 6 0) + (nI 1))) hd sz el s g fm hm so si sh ce ca td wa kp la bf oo bo pw ow tr)) at_X5_cast_36 rfl rfl (Nat.le_of_ble_eq_true rfl) rfl (ab_rvOf w0 rfl) (L26_X5_refuse (by omega)) (by decide) w_lens ?_
                  exact E_iret at_X5_cast_39 rfl
                · show Ev ab_Z0 5 197 [.ref 65, .int (nI a1k), .int (nI a2k)] (ww im lf s d k (lsF (wgh s (qPs s 99 (qN s)) (qN s))) rf rz ra rn rq lt m1 m2 m3 m4 bd (fc.set 6 ((fc.getD 6 0) + (nI 1))) hd sz el s g fm hm so si sh ce ca td wa kp la bf oo bo pw ow tr) (some (.int (-6)), (ww im lf s d k (lsF (wgh s (qPs s 99 (qN s)) (qN s))) rf rz ra rn rq lt m1 m2 m3 m4 bd (fc.set 6 ((fc.getD 6 0) + (nI 1))) hd sz el s g (fm.set 6 ((fm.getD 6 0) + (nI 1))) hm so si sh ce ca td wa kp la (lsF (bst s (qPs s 99 (qN s)) (qN s) (2 ^ qN s))) oo bo pw ow tr))
                  refine Ef.in (md := mX6_cast) (L := [some (.ref 65), some (.int (nI a1k)), some (.int (nI a2k)), none]) rfl (Nat.le_of_ble_eq_true rfl) rfl ?_
                  refine E_aload_n at_X6_cast_0 rfl ?_
                  refine E_iload_n at_X6_cast_1 rfl ?_
                  refine E_callV (v := some (.int (nI 1))) (As := [.ref 65, .int (nI a1k)]) (r0 := []) (cs2 := (ww im lf s d k (lsF (wgh s (qPs s 99 (qN s)) (qN s))) rf rz ra rn rq lt m1 m2 m3 m4 bd (fc.set 6 ((fc.getD 6 0) + (nI 1))) hd sz el s g fm hm so si sh ce ca td wa kp la bf oo bo pw ow tr)) at_X6_cast_2 rfl rfl (Nat.le_of_ble_eq_true rfl) rfl (ab_rvOf w65 rfl) (L2_X6_isOne (by omega) (by omega) (by omega) (by omega)) (by decide) rfl ?_
                  refine E_if (t := 14) (b := true) at_X6_cast_5 rfl (by decide) ?_
                  refine E_aload_n at_X6_cast_14 rfl ?_
                  refine E_aload_n at_X6_cast_15 rfl ?_
                  refine E_bipush (x := nI 99) at_X6_cast_16 (by decide) ?_
                  refine E_callV (v := some (.int (nI (qPs s 99 (qN s))))) (As := [.ref 65, .int (nI 99)]) (r0 := [.ref 65]) (cs2 := (ww im lf s d k (lsF (wgh s (qPs s 99 (qN s)) (qN s))) rf rz ra rn rq lt m1 m2 m3 m4 bd (fc.set 6 ((fc.getD 6 0) + (nI 1))) hd sz el s g fm hm so si sh ce ca td wa kp la bf oo bo pw ow tr)) at_X6_cast_18 rfl rfl (Nat.le_of_ble_eq_true rfl) rfl (ab_rvOf w65 rfl) (mo_piecesOf w_m I (by omega)) (by decide) rfl ?_
                  refine E_callV (v := none) (As := [.ref 65, .int (nI (qPs s 99 (qN s)))]) (r0 := []) (cs2 := (ww im lf s d k (lsF (wgh s (qPs s 99 (qN s)) (qN s))) rf rz ra rn rq lt m1 m2 m3 m4 bd (fc.set 6 ((fc.getD 6 0) + (nI 1))) hd sz el s g fm hm so si sh ce ca td wa kp la (lsF (bst s (qPs s 99 (qN s)) (qN s) (2 ^ qN s))) oo bo pw ow tr)) at_X6_cast_21 rfl rfl (Nat.le_of_ble_eq_true rfl) rfl (ab_rvOf w65 rfl) (w_best (m := qPs s 99 (qN s)) I (by omega) (lr.2.2.2.2.2.2.2.2.2.2.2.2.2.2.2.1)) (by decide) w_lens ?_
                  refine E_aload_n at_X6_cast_24 rfl ?_
                  refine E_iload_n at_X6_cast_25 rfl ?_
                  refine E_iconst (x := nI 0) at_X6_cast_26 (by decide) ?_
                  refine E_bipush (x := nI 99) at_X6_cast_27 (by decide) ?_
                  refine E_callV (v := some (.int (nI 1))) (As := [.ref 65, .int (nI a2k), .int (nI 0), .int (nI 99)]) (r0 := []) (cs2 := (ww im lf s d k (lsF (wgh s (qPs s 99 (qN s)) (qN s))) rf rz ra rn rq lt m1 m2 m3 m4 bd (fc.set 6 ((fc.getD 6 0) + (nI 1))) hd sz el s g fm hm so si sh ce ca td wa kp la (lsF (bst s (qPs s 99 (qN s)) (qN s) (2 ^ qN s))) oo bo pw ow tr)) at_X6_cast_29 rfl rfl (Nat.le_of_ble_eq_true rfl) rfl (ab_rvOf w65 rfl) (L85_X6_isFrom (by omega) (by omega) (by omega)) (by decide) rfl ?_
                  refine E_if (t := 44) (b := false) at_X6_cast_32 rfl (by decide) ?_
                  refine E_aload_n at_X6_cast_35 rfl ?_
                  refine E_iload_n at_X6_cast_36 rfl ?_
                  refine E_iload_n at_X6_cast_37 rfl ?_
                  have e5 : Ev ab_Z0 2 176 [.ref 65, .int (nI a1k), .int (nI a2k)] (ww im lf s d k (lsF (wgh s (qPs s 99 (qN s)) (qN s))) rf rz ra rn rq lt m1 m2 m3 m4 bd (fc.set 6 ((fc.getD 6 0) + (nI 1))) hd sz el s g fm hm so si sh ce ca td wa kp la (lsF (bst s (qPs s 99 (qN s)) (qN s) (2 ^ qN s))) oo bo pw ow tr) (some (.int (-1)), (ww im lf s d k (lsF (wgh s (qPs s 99 (qN s)) (qN s))) rf rz ra rn rq lt m1 m2 m3 m4 bd (fc.set 6 ((fc.getD 6 0) + (nI 1))) hd sz el s g fm hm so si sh ce ca td wa kp la (lsF (bst s (qPs s 99 (qN s)) (qN s) (2 ^ qN s))) oo bo pw ow tr)) := by
                    refine Ef.in (md := mX6_thrown) (L := [some (.ref 65), some (.int (nI a1k)), some (.int (nI a2k)), none]) rfl (Nat.le_of_ble_eq_true rfl) rfl ?_
                    refine E_iload_n at_X6_thrown_0 rfl ?_
                    refine E_aload_n at_X6_thrown_1 rfl ?_
                    refine E_iload_n at_X6_thrown_2 rfl ?_
                    refine E_aload_n at_X6_thrown_3 rfl ?_
                    refine E_getfield (v := .ref 73) at_X6_thrown_4 w65 rfl (by decide) rfl ?_
                    refine E_iload_n at_X6_thrown_7 rfl ?_
                    refine E_ialN (l := qW s) (v := (qW s).getD a1k 0) at_X6_thrown_8 w73 (by omega) (by omega) rfl ?_
                    refine E_callV (v := some (.int (nI (qPr s a1k ((qW s).getD a1k 0))))) (As := [.ref 65, .int (nI a1k), .int (nI ((qW s).getD a1k 0))]) (r0 := [.int (nI a2k)]) (cs2 := (ww im lf s d k (lsF (wgh s (qPs s 99 (qN s)) (qN s))) rf rz ra rn rq lt m1 m2 m3 m4 bd (fc.set 6 ((fc.getD 6 0) + (nI 1))) hd sz el s g fm hm so si sh ce ca td wa kp la (lsF (bst s (qPs s 99 (qN s)) (qN s) (2 ^ qN s))) oo bo pw ow tr)) at_X6_thrown_9 rfl rfl (Nat.le_of_ble_eq_true rfl) rfl (ab_rvOf w65 rfl) (mo_priceFor w_m I (by omega) (by omega)) (by decide) rfl ?_
                    refine E_isub (z := nI (a2k - (qPr s a1k ((qW s).getD a1k 0)))) at_X6_thrown_12 (pk_sub (by omega)) ?_
                    refine E_istore_n (L2 := [some (.ref 65), some (.int (nI a1k)), some (.int (nI a2k)), some (.int (nI (a2k - (qPr s a1k ((qW s).getD a1k 0)))))]) at_X6_thrown_13 rfl ?_
                    refine E_aload_n at_X6_thrown_14 rfl ?_
                    refine E_iload_n at_X6_thrown_15 rfl ?_
                    refine E_iconst (x := nI 0) at_X6_thrown_16 (by decide) ?_
                    refine E_bipush (x := nI 99) at_X6_thrown_17 (by decide) ?_
                    refine E_callV (v := some (.int (nI 1))) (As := [.ref 65, .int (nI a2k), .int (nI 0), .int (nI 99)]) (r0 := []) (cs2 := (ww im lf s d k (lsF (wgh s (qPs s 99 (qN s)) (qN s))) rf rz ra rn rq lt m1 m2 m3 m4 bd (fc.set 6 ((fc.getD 6 0) + (nI 1))) hd sz el s g fm hm so si sh ce ca td wa kp la (lsF (bst s (qPs s 99 (qN s)) (qN s) (2 ^ qN s))) oo bo pw ow tr)) at_X6_thrown_19 rfl rfl (Nat.le_of_ble_eq_true rfl) rfl (ab_rvOf w65 rfl) (L85_X6_isFrom (by omega) (by omega) (by omega)) (by decide) rfl ?_
                    refine E_if (t := 39) (b := false) at_X6_thrown_22 rfl (by decide) ?_
                    refine E_iload_n at_X6_thrown_25 rfl ?_
                    refine E_aload_n at_X6_thrown_26 rfl ?_
                    refine E_getfield (v := .ref 71) at_X6_thrown_27 w65 rfl (by decide) rfl ?_
                    refine E_iload_n at_X6_thrown_30 rfl ?_
                    refine E_ialN (l := qU s) (v := (qU s).getD a1k 0) at_X6_thrown_31 w71 (by omega) (by omega) rfl ?_
                    refine E_ic (t := 39) (b := false) at_X6_thrown_32 rfl ((cn_gt (nI_toInt (by omega)) (nI_toInt (by omega))).trans (decide_eq_false (by omega))) ?_
                    refine E_iload_n at_X6_thrown_35 rfl ?_
                    refine E_if (t := 43) (b := true) at_X6_thrown_36 rfl ((cn_ge (nI_toInt (by omega)) (by decide : (0 : Int32).toInt = 0)).trans (decide_eq_true (by omega))) ?_
                    refine E_aload_n at_X6_thrown_43 rfl ?_
                    refine E_iload_n at_X6_thrown_44 rfl ?_
                    have e4 : Ev ab_Z0 1 172 [.ref 65, .int (nI (a2k - (qPr s a1k ((qW s).getD a1k 0))))] (ww im lf s d k (lsF (wgh s (qPs s 99 (qN s)) (qN s))) rf rz ra rn rq lt m1 m2 m3 m4 bd (fc.set 6 ((fc.getD 6 0) + (nI 1))) hd sz el s g fm hm so si sh ce ca td wa kp la (lsF (bst s (qPs s 99 (qN s)) (qN s) (2 ^ qN s))) oo bo pw ow tr) (some (.int (-1)), (ww im lf s d k (lsF (wgh s (qPs s 99 (qN s)) (qN s))) rf rz ra rn rq lt m1 m2 m3 m4 bd (fc.set 6 ((fc.getD 6 0) + (nI 1))) hd sz el s g fm hm so si sh ce ca td wa kp la (lsF (bst s (qPs s 99 (qN s)) (qN s) (2 ^ qN s))) oo bo pw ow tr)) := by
                      refine Ef.in (md := mX6_changeFor) (L := [some (.ref 65), some (.int (nI (a2k - (qPr s a1k ((qW s).getD a1k 0)))))]) rfl (Nat.le_of_ble_eq_true rfl) rfl ?_
                      refine E_aload_n at_X6_changeFor_0 rfl ?_
                      refine E_getfield (v := .int (qR s)) at_X6_changeFor_1 w65 rfl (by decide) rfl ?_
                      refine E_if (t := 16) (b := false) at_X6_changeFor_4 rfl ((cn_ne rfl (by decide : (0 : Int32).toInt = 0)).trans (decide_eq_false (by omega))) ?_
                      refine E_aload_n at_X6_changeFor_7 rfl ?_
                      refine E_getfield (v := .ref 89) at_X6_changeFor_8 w65 rfl (by decide) rfl ?_
                      refine E_iload_n at_X6_changeFor_11 rfl ?_
                      refine E_ialI (l := (lsF (bst s (qPs s 99 (qN s)) (qN s) (2 ^ qN s)))) (v := (-1)) at_X6_changeFor_12 w89 (by omega) (by omega) (by rw [lsF_get (by omega), fb0]; rfl) ?_
                      refine E_goto (t := 21) at_X6_changeFor_13 rfl ?_
                      exact E_iret at_X6_changeFor_21 rfl
                    refine E_callV (v := some (.int (-1))) (As := [.ref 65, .int (nI (a2k - (qPr s a1k ((qW s).getD a1k 0))))]) (r0 := []) (cs2 := (ww im lf s d k (lsF (wgh s (qPs s 99 (qN s)) (qN s))) rf rz ra rn rq lt m1 m2 m3 m4 bd (fc.set 6 ((fc.getD 6 0) + (nI 1))) hd sz el s g fm hm so si sh ce ca td wa kp la (lsF (bst s (qPs s 99 (qN s)) (qN s) (2 ^ qN s))) oo bo pw ow tr)) at_X6_thrown_45 rfl rfl (Nat.le_of_ble_eq_true rfl) rfl (ab_rvOf w65 rfl) e4 (by decide) rfl ?_
                    exact E_iret at_X6_thrown_48 rfl
                  refine E_callV (v := some (.int (-1))) (As := [.ref 65, .int (nI a1k), .int (nI a2k)]) (r0 := []) (cs2 := (ww im lf s d k (lsF (wgh s (qPs s 99 (qN s)) (qN s))) rf rz ra rn rq lt m1 m2 m3 m4 bd (fc.set 6 ((fc.getD 6 0) + (nI 1))) hd sz el s g fm hm so si sh ce ca td wa kp la (lsF (bst s (qPs s 99 (qN s)) (qN s) (2 ^ qN s))) oo bo pw ow tr)) at_X6_cast_38 rfl rfl (Nat.le_of_ble_eq_true rfl) rfl (ab_rvOf w65 rfl) e5 (by decide) rfl ?_
                  refine E_goto (t := 45) at_X6_cast_41 rfl ?_
                  refine E_istore_n (L2 := [some (.ref 65), some (.int (nI a1k)), some (.int (nI a2k)), some (.int (-1))]) at_X6_cast_45 rfl ?_
                  refine E_iload_n at_X6_cast_46 rfl ?_
                  refine E_iconst (x := (-1)) at_X6_cast_47 (by decide) ?_
                  refine E_ic (t := 58) (b := false) at_X6_cast_48 rfl (by decide) ?_
                  refine E_aload_n at_X6_cast_51 rfl ?_
                  refine E_bipush (x := (-6)) at_X6_cast_52 (by decide) ?_
                  refine E_callV (v := some (.int (-6))) (As := [.ref 65, .int (-6)]) (r0 := []) (cs2 := (ww im lf s d k (lsF (wgh s (qPs s 99 (qN s)) (qN s))) rf rz ra rn rq lt m1 m2 m3 m4 bd (fc.set 6 ((fc.getD 6 0) + (nI 1))) hd sz el s g (fm.set 6 ((fm.getD 6 0) + (nI 1))) hm so si sh ce ca td wa kp la (lsF (bst s (qPs s 99 (qN s)) (qN s) (2 ^ qN s))) oo bo pw ow tr)) at_X6_cast_54 rfl rfl (Nat.le_of_ble_eq_true rfl) rfl (ab_rvOf w65 rfl) (L28_X6_no (by omega)) (by decide) w_lens ?_
                  exact E_iret at_X6_cast_57 rfl
                · exact ⟨I, rfl, hf, iQ, iM, iT, iS, l_el, (lsF_len _), (lr.2.1), (lr.2.2.1), (by simp only [List.length_set]; exact (lr.2.2.2.1)), (by simp only [List.length_set]; exact (lr.2.2.2.2.1)), (lr.2.2.2.2.2.1), (lr.2.2.2.2.2.2.1), (lr.2.2.2.2.2.2.2.1), (lr.2.2.2.2.2.2.2.2.1), (lr.2.2.2.2.2.2.2.2.2.1), (lr.2.2.2.2.2.2.2.2.2.2.1), (lr.2.2.2.2.2.2.2.2.2.2.2.1), (lr.2.2.2.2.2.2.2.2.2.2.2.2.1), (lr.2.2.2.2.2.2.2.2.2.2.2.2.2.1), (lr.2.2.2.2.2.2.2.2.2.2.2.2.2.2.1), (lsF_len _), (lr.2.2.2.2.2.2.2.2.2.2.2.2.2.2.2.2.1), (lr.2.2.2.2.2.2.2.2.2.2.2.2.2.2.2.2.2.1), (lr.2.2.2.2.2.2.2.2.2.2.2.2.2.2.2.2.2.2.1), (lr.2.2.2.2.2.2.2.2.2.2.2.2.2.2.2.2.2.2.2.1), (lr.2.2.2.2.2.2.2.2.2.2.2.2.2.2.2.2.2.2.2.2)⟩
              · have er2 : (qR s).toInt = 0 := by rw [er]; rfl
                have := I2 a1k (by omega)
                have := qPr_in I a1k (w := ((qW s).getD a1k 0)) (by omega)
                have := qPs_in s 99 (i := qN s) (by omega)
                have := lsF_len (wgh s (qPs s 99 (qN s)) (qN s))
                have w9 : 2 ^ qN s ≤ 2 ^ 9 := Nat.pow_le_pow_right (by decide) (by omega)
                have kb0 := kAt_bits I hB0
                have := lsF_len (bst s (qPs s 99 (qN s)) (qN s) (2 ^ qN s))
                refine ⟨(nI B0), (im, lf, (qs_P (qs_Y (qs_G (qs_U s ((qU s).set a1k (((qU s).getD a1k 0) - a2k))) ((qG s).set a1k (((qG s).getD a1k 0) + (nI 1)))) ((qY s) + (nI a2k))) (qGP (qP s) a1k B0 (qN s))), d, k, (lsF (wgh s (qPs s 99 (qN s)) (qN s))), rf, rz, ra, rn, rq, lt, m1, m2, m3, m4, bd, fc, hd, sz, el, s, g, fm, hm, so, si, sh, ce, ca, td, wa, kp, la, bf, oo, bo, pw, ow, tr), (im, lf, (qs_P (qs_Y (qs_G (qs_U s ((qU s).set a1k (((qU s).getD a1k 0) - a2k))) ((qG s).set a1k (((qG s).getD a1k 0) + (nI 1)))) ((qY s) + (nI a2k))) (qGP (qP s) a1k B0 (qN s))), d, k, (lsF (wgh s (qPs s 99 (qN s)) (qN s))), rf, rz, ra, rn, rq, lt, m1, m2, m3, m4, bd, fc, hd, sz, el, (qs_P (qs_Y (qs_G (qs_U s ((qU s).set a1k (((qU s).getD a1k 0) - a2k))) ((qG s).set a1k (((qG s).getD a1k 0) + (nI 1)))) ((qY s) + (nI a2k))) (qGP (qP s) a1k B0 (qN s))), g, fm, hm, so, si, sh, ce, ca, td, wa, kp, la, (lsF (bst s (qPs s 99 (qN s)) (qN s) (2 ^ qN s))), oo, bo, pw, ow, tr), ?_, ?_, ?_⟩
                · show Ev ab_Z0 6 106 [.ref 0, .int (nI a1k), .int (nI a2k)] (ww im lf s d k ls rf rz ra rn rq lt m1 m2 m3 m4 bd fc hd sz el s g fm hm so si sh ce ca td wa kp la bf oo bo pw ow tr) (some (.int (nI B0)), (ww im lf (qs_P (qs_Y (qs_G (qs_U s ((qU s).set a1k (((qU s).getD a1k 0) - a2k))) ((qG s).set a1k (((qG s).getD a1k 0) + (nI 1)))) ((qY s) + (nI a2k))) (qGP (qP s) a1k B0 (qN s))) d k (lsF (wgh s (qPs s 99 (qN s)) (qN s))) rf rz ra rn rq lt m1 m2 m3 m4 bd fc hd sz el s g fm hm so si sh ce ca td wa kp la bf oo bo pw ow tr))
                  refine Ef.in (md := mX5_cast) (L := [some (.ref 0), some (.int (nI a1k)), some (.int (nI a2k)), none]) rfl (Nat.le_of_ble_eq_true rfl) rfl ?_
                  refine E_aload_n at_X5_cast_0 rfl ?_
                  refine E_getfield (v := .ref 1) at_X5_cast_1 w0 rfl (by decide) rfl ?_
                  refine E_iload_n at_X5_cast_4 rfl ?_
                  refine E_callV (v := some (.int (nI 1))) (As := [.ref 1, .int (nI a1k)]) (r0 := []) (cs2 := (ww im lf s d k ls rf rz ra rn rq lt m1 m2 m3 m4 bd fc hd sz el s g fm hm so si sh ce ca td wa kp la bf oo bo pw ow tr)) at_X5_cast_5 rfl rfl (Nat.le_of_ble_eq_true rfl) rfl (ab_rvOf w1 rfl) (L0_X4_isPerson (by omega) (by omega) (by omega) (by omega)) (by decide) rfl ?_
                  refine E_if (t := 17) (b := true) at_X5_cast_8 rfl (by decide) ?_
                  refine E_aload_n at_X5_cast_17 rfl ?_
                  refine E_aload_n at_X5_cast_18 rfl ?_
                  refine E_getfield (v := .ref 1) at_X5_cast_19 w0 rfl (by decide) rfl ?_
                  refine E_iload_n at_X5_cast_22 rfl ?_
                  refine E_iload_n at_X5_cast_23 rfl ?_
                  have e3 : Ev ab_Z0 4 122 [.ref 0, .ref 1, .int (nI a1k), .int (nI a2k)] (ww im lf s d k ls rf rz ra rn rq lt m1 m2 m3 m4 bd fc hd sz el s g fm hm so si sh ce ca td wa kp la bf oo bo pw ow tr) (some (.int (nI B0)), (ww im lf s d k (lsF (wgh s (qPs s 99 (qN s)) (qN s))) rf rz ra rn rq lt m1 m2 m3 m4 bd fc hd sz el s g fm hm so si sh ce ca td wa kp la bf oo bo pw ow tr)) := by
                    refine Ef.in (md := mX5_throwBy) (L := [some (.ref 0), some (.ref 1), some (.int (nI a1k)), some (.int (nI a2k)), none]) rfl (Nat.le_of_ble_eq_true rfl) rfl ?_
                    refine E_aload_n at_X5_throwBy_0 rfl ?_
                    refine E_iload_n at_X5_throwBy_1 rfl ?_
                    refine E_callV (v := some (.int (nI 1))) (As := [.ref 1, .int (nI a1k)]) (r0 := []) (cs2 := (ww im lf s d k ls rf rz ra rn rq lt m1 m2 m3 m4 bd fc hd sz el s g fm hm so si sh ce ca td wa kp la bf oo bo pw ow tr)) at_X5_throwBy_2 rfl rfl (Nat.le_of_ble_eq_true rfl) rfl (ab_rvOf w1 rfl) (L0_X4_isPerson (by omega) (by omega) (by omega) (by omega)) (by decide) rfl ?_
                    refine E_if (t := 18) (b := false) at_X5_throwBy_5 rfl (by decide) ?_
                    refine E_iload_n at_X5_throwBy_8 rfl ?_
                    refine E_aload_n at_X5_throwBy_9 rfl ?_
                    refine E_getfield (v := .ref 6) at_X5_throwBy_10 w1 rfl (by decide) rfl ?_
                    refine E_iload_n at_X5_throwBy_13 rfl ?_
                    refine E_ialN (l := qU s) (v := (qU s).getD a1k 0) at_X5_throwBy_14 w6 (by omega) (by omega) rfl ?_
                    refine E_ic (t := 20) (b := true) at_X5_throwBy_15 rfl ((cn_le (nI_toInt (by omega)) (nI_toInt (by omega))).trans (decide_eq_true (by omega))) ?_
                    refine E_aload_n at_X5_throwBy_20 rfl ?_
                    refine E_iload_n at_X5_throwBy_21 rfl ?_
                    refine E_aload_n at_X5_throwBy_22 rfl ?_
                    refine E_getfield (v := .ref 8) at_X5_throwBy_23 w1 rfl (by decide) rfl ?_
                    refine E_iload_n at_X5_throwBy_26 rfl ?_
                    refine E_ialN (l := qW s) (v := (qW s).getD a1k 0) at_X5_throwBy_27 w8 (by omega) (by omega) rfl ?_
                    refine E_callV (v := some (.int (nI (qPr s a1k ((qW s).getD a1k 0))))) (As := [.ref 1, .int (nI a1k), .int (nI ((qW s).getD a1k 0))]) (r0 := []) (cs2 := (ww im lf s d k ls rf rz ra rn rq lt m1 m2 m3 m4 bd fc hd sz el s g fm hm so si sh ce ca td wa kp la bf oo bo pw ow tr)) at_X5_throwBy_28 rfl rfl (Nat.le_of_ble_eq_true rfl) rfl (ab_rvOf w1 rfl) (sq_priceFor w_q1 I (by omega) (by omega)) (by decide) rfl ?_
                    refine E_istore (L2 := [some (.ref 0), some (.ref 1), some (.int (nI a1k)), some (.int (nI a2k)), some (.int (nI (qPr s a1k ((qW s).getD a1k 0))))]) at_X5_throwBy_31 rfl ?_
                    refine E_iload_n at_X5_throwBy_33 rfl ?_
                    refine E_iload at_X5_throwBy_34 rfl ?_
                    refine E_ic (t := 43) (b := true) at_X5_throwBy_36 rfl ((cn_ge (nI_toInt (by omega)) (nI_toInt (by omega))).trans (decide_eq_true (by omega))) ?_
                    refine E_aload_n at_X5_throwBy_43 rfl ?_
                    refine E_getfield (v := .ref 32) at_X5_throwBy_44 w0 rfl (by decide) rfl ?_
                    refine E_aload_n at_X5_throwBy_47 rfl ?_
                    refine E_aload_n at_X5_throwBy_48 rfl ?_
                    refine E_getfield (v := .int (qR s)) at_X5_throwBy_49 w1 rfl (by decide) rfl ?_
                    refine E_iload_n at_X5_throwBy_52 rfl ?_
                    refine E_iload at_X5_throwBy_53 rfl ?_
                    refine E_isub (z := nI (a2k - (qPr s a1k ((qW s).getD a1k 0)))) at_X5_throwBy_55 (pk_sub (by omega)) ?_
                    have e2 : Ev ab_Z0 3 1 [.ref 32, .ref 1, .int (qR s), .int (nI (a2k - (qPr s a1k ((qW s).getD a1k 0))))] (ww im lf s d k ls rf rz ra rn rq lt m1 m2 m3 m4 bd fc hd sz el s g fm hm so si sh ce ca td wa kp la bf oo bo pw ow tr) (some (.int (nI B0)), (ww im lf s d k (lsF (wgh s (qPs s 99 (qN s)) (qN s))) rf rz ra rn rq lt m1 m2 m3 m4 bd fc hd sz el s g fm hm so si sh ce ca td wa kp la bf oo bo pw ow tr)) := by
                      refine Ef.in (md := mX0_bitsBy) (L := [some (.ref 32), some (.ref 1), some (.int (qR s)), some (.int (nI (a2k - (qPr s a1k ((qW s).getD a1k 0)))))]) rfl (Nat.le_of_ble_eq_true rfl) rfl ?_
                      refine E_iload_n at_X0_bitsBy_0 rfl ?_
                      refine E_iconst (x := nI 1) at_X0_bitsBy_1 (by decide) ?_
                      refine E_ic (t := 11) (b := true) at_X0_bitsBy_2 rfl ((cn_ne rfl (nI_toInt (by omega))).trans (decide_eq_true (by omega))) ?_
                      refine E_aload_n at_X0_bitsBy_11 rfl ?_
                      refine E_aload_n at_X0_bitsBy_12 rfl ?_
                      refine E_aload_n at_X0_bitsBy_13 rfl ?_
                      refine E_callV (v := some (.int (nI (qPs s 99 (qN s))))) (As := [.ref 1]) (r0 := [.ref 1, .ref 32]) (cs2 := (ww im lf s d k ls rf rz ra rn rq lt m1 m2 m3 m4 bd fc hd sz el s g fm hm so si sh ce ca td wa kp la bf oo bo pw ow tr)) at_X0_bitsBy_14 rfl rfl (Nat.le_of_ble_eq_true rfl) rfl (ab_rvOf w1 rfl) (sq_basin w_q1 I) (by decide) rfl ?_
                      refine E_callV (v := none) (As := [.ref 32, .ref 1, .int (nI (qPs s 99 (qN s)))]) (r0 := []) (cs2 := (ww im lf s d k (lsF (wgh s (qPs s 99 (qN s)) (qN s))) rf rz ra rn rq lt m1 m2 m3 m4 bd fc hd sz el s g fm hm so si sh ce ca td wa kp la bf oo bo pw ow tr)) at_X0_bitsBy_17 rfl rfl (Nat.le_of_ble_eq_true rfl) rfl (ab_rvOf w32 rfl) (w_weigh1 (m := qPs s 99 (qN s)) I (by omega) (lr.1)) (by decide) w_lens ?_
                      refine E_aload_n at_X0_bitsBy_20 rfl ?_
                      refine E_iload_n at_X0_bitsBy_21 rfl ?_
                      have e1 : Ev ab_Z0 2 4 [.ref 32, .int (nI (a2k - (qPr s a1k ((qW s).getD a1k 0))))] (ww im lf s d k (lsF (wgh s (qPs s 99 (qN s)) (qN s))) rf rz ra rn rq lt m1 m2 m3 m4 bd fc hd sz el s g fm hm so si sh ce ca td wa kp la bf oo bo pw ow tr) (some (.int (nI B0)), (ww im lf s d k (lsF (wgh s (qPs s 99 (qN s)) (qN s))) rf rz ra rn rq lt m1 m2 m3 m4 bd fc hd sz el s g fm hm so si sh ce ca td wa kp la bf oo bo pw ow tr)) := by
                        refine Ef.in (md := mX0_fewestFor) (L := [some (.ref 32), some (.int (nI (a2k - (qPr s a1k ((qW s).getD a1k 0)))))]) rfl (Nat.le_of_ble_eq_true rfl) rfl ?_
                        refine E_iload_n at_X0_fewestFor_0 rfl ?_
                        refine E_callS (v := some (.int (nI 1))) (As := [.int (nI (a2k - (qPr s a1k ((qW s).getD a1k 0))))]) (r0 := []) (cs2 := (ww im lf s d k (lsF (wgh s (qPs s 99 (qN s)) (qN s))) rf rz ra rn rq lt m1 m2 m3 m4 bd fc hd sz el s g fm hm so si sh ce ca td wa kp la bf oo bo pw ow tr)) at_X0_fewestFor_1 rfl rfl (Nat.le_of_ble_eq_true rfl) rfl (L97_X4_isAmount (by omega) (by omega) (by omega)) (by decide) rfl ?_
                        refine E_if (t := 17) (b := false) at_X0_fewestFor_4 rfl (by decide) ?_
                        refine E_aload_n at_X0_fewestFor_7 rfl ?_
                        refine E_getfield (v := .ref 33) at_X0_fewestFor_8 w32 rfl (by decide) rfl ?_
                        refine E_iload_n at_X0_fewestFor_11 rfl ?_
                        refine E_ialI (l := (lsF (wgh s (qPs s 99 (qN s)) (qN s)))) (v := nI (kAt s B0 (qN s))) at_X0_fewestFor_12 w33 (by omega) (by omega) (by rw [lsF_get (by omega), hk0]; exact qE_s _) ?_
                        refine E_iconst (x := (-1)) at_X0_fewestFor_13 (by decide) ?_
                        refine E_ic (t := 19) (b := true) at_X0_fewestFor_14 rfl ((cn_ne (nI_toInt (by omega)) (by decide : (-1 : Int32).toInt = -1)).trans (decide_eq_true (by omega))) ?_
                        refine E_aload_n at_X0_fewestFor_19 rfl ?_
                        refine E_getfield (v := .ref 33) at_X0_fewestFor_20 w32 rfl (by decide) rfl ?_
                        refine E_iload_n at_X0_fewestFor_23 rfl ?_
                        refine E_ialI (l := (lsF (wgh s (qPs s 99 (qN s)) (qN s)))) (v := nI (kAt s B0 (qN s))) at_X0_fewestFor_24 w33 (by omega) (by omega) (by rw [lsF_get (by omega), hk0]; exact qE_s _) ?_
                        refine E_sipush (x := nI 1023) at_X0_fewestFor_25 (by decide) ?_
                        refine E_iand (z := nI B0) at_X0_fewestFor_28 (kAt_and I hB0) ?_
                        exact E_iret at_X0_fewestFor_29 rfl
                      refine E_callV (v := some (.int (nI B0))) (As := [.ref 32, .int (nI (a2k - (qPr s a1k ((qW s).getD a1k 0))))]) (r0 := []) (cs2 := (ww im lf s d k (lsF (wgh s (qPs s 99 (qN s)) (qN s))) rf rz ra rn rq lt m1 m2 m3 m4 bd fc hd sz el s g fm hm so si sh ce ca td wa kp la bf oo bo pw ow tr)) at_X0_bitsBy_22 rfl rfl (Nat.le_of_ble_eq_true rfl) rfl (ab_rvOf w32 rfl) e1 (by decide) rfl ?_
                      exact E_iret at_X0_bitsBy_25 rfl
                    refine E_callV (v := some (.int (nI B0))) (As := [.ref 32, .ref 1, .int (qR s), .int (nI (a2k - (qPr s a1k ((qW s).getD a1k 0))))]) (r0 := []) (cs2 := (ww im lf s d k (lsF (wgh s (qPs s 99 (qN s)) (qN s))) rf rz ra rn rq lt m1 m2 m3 m4 bd fc hd sz el s g fm hm so si sh ce ca td wa kp la bf oo bo pw ow tr)) at_X5_throwBy_56 rfl rfl (Nat.le_of_ble_eq_true rfl) rfl (ab_rvOf w32 rfl) e2 (by decide) w_lens ?_
                    exact E_iret at_X5_throwBy_59 rfl
                  refine E_callV (v := some (.int (nI B0))) (As := [.ref 0, .ref 1, .int (nI a1k), .int (nI a2k)]) (r0 := []) (cs2 := (ww im lf s d k (lsF (wgh s (qPs s 99 (qN s)) (qN s))) rf rz ra rn rq lt m1 m2 m3 m4 bd fc hd sz el s g fm hm so si sh ce ca td wa kp la bf oo bo pw ow tr)) at_X5_cast_24 rfl rfl (Nat.le_of_ble_eq_true rfl) rfl (ab_rvOf w0 rfl) e3 (by decide) w_lens ?_
                  refine E_istore_n (L2 := [some (.ref 0), some (.int (nI a1k)), some (.int (nI a2k)), some (.int (nI B0))]) at_X5_cast_27 rfl ?_
                  refine E_iload_n at_X5_cast_28 rfl ?_
                  refine E_iconst (x := (-1)) at_X5_cast_29 (by decide) ?_
                  refine E_ic (t := 40) (b := true) at_X5_cast_30 rfl ((cn_ne (nI_toInt (by omega)) (by decide : (-1 : Int32).toInt = -1)).trans (decide_eq_true (by omega))) ?_
                  refine E_aload_n rfl rfl ?_
                  refine E_getfield (v := .ref 1) rfl w0 rfl (by decide) rfl ?_
                  refine E_iload_n rfl rfl ?_
                  refine E_iload_n rfl rfl ?_
                  refine E_iload_n rfl rfl ?_
                  have e4 : Ev ab_Z0 2 71 [.ref 1, .int (nI a1k), .int (nI a2k), .int (nI B0)] (ww im lf s d k (lsF (wgh s (qPs s 99 (qN s)) (qN s))) rf rz ra rn rq lt m1 m2 m3 m4 bd fc hd sz el s g fm hm so si sh ce ca td wa kp la bf oo bo pw ow tr) (none, (ww im lf (qs_P (qs_Y (qs_G (qs_U s ((qU s).set a1k (((qU s).getD a1k 0) - a2k))) ((qG s).set a1k (((qG s).getD a1k 0) + (nI 1)))) ((qY s) + (nI a2k))) (qGP (qP s) a1k B0 (qN s))) d k (lsF (wgh s (qPs s 99 (qN s)) (qN s))) rf rz ra rn rq lt m1 m2 m3 m4 bd fc hd sz el s g fm hm so si sh ce ca td wa kp la bf oo bo pw ow tr)) := by
                    refine Ef.in (md := mX4_grant) (L := [some (.ref 1), some (.int (nI a1k)), some (.int (nI a2k)), some (.int (nI B0)), none]) rfl (Nat.le_of_ble_eq_true rfl) rfl ?_
                    refine E_aload_n at_X4_grant_0 rfl ?_
                    refine E_getfield (v := .ref 6) at_X4_grant_1 w1 rfl (by decide) rfl ?_
                    refine E_iload_n at_X4_grant_4 rfl ?_
                    refine E_dup2 at_X4_grant_5 ⟨rfl, rfl⟩ ?_
                    refine E_ialN (l := qU s) (v := (qU s).getD a1k 0) at_X4_grant_6 w6 (by omega) (by omega) rfl ?_
                    refine E_iload_n at_X4_grant_7 rfl ?_
                    refine E_isub (z := nI (((qU s).getD a1k 0) - a2k)) at_X4_grant_8 (pk_sub (by omega)) ?_
                    refine E_iasN (l := qU s) (cs2 := (ww im lf (qs_U s ((qU s).set a1k (((qU s).getD a1k 0) - a2k))) d k (lsF (wgh s (qPs s 99 (qN s)) (qN s))) rf rz ra rn rq lt m1 m2 m3 m4 bd fc hd sz el s g fm hm so si sh ce ca td wa kp la bf oo bo pw ow tr)) at_X4_grant_9 w6 (by omega) (by omega) w_pt1_U ?_
                    refine E_aload_n at_X4_grant_10 rfl ?_
                    refine E_getfield (v := .ref 9) at_X4_grant_11 w1 rfl (by decide) rfl ?_
                    refine E_iload_n at_X4_grant_14 rfl ?_
                    refine E_dup2 at_X4_grant_15 ⟨rfl, rfl⟩ ?_
                    refine E_ialI (l := qG s) (v := (qG s).getD a1k 0) at_X4_grant_16 (w9v qg_GU) (by omega) (by omega) rfl ?_
                    refine E_iconst (x := nI 1) at_X4_grant_17 (by decide) ?_
                    refine E_iadd (z := ((qG s).getD a1k 0) + (nI 1)) at_X4_grant_18 rfl ?_
                    refine E_iasI (l := qG s) (cs2 := (ww im lf (qs_G (qs_U s ((qU s).set a1k (((qU s).getD a1k 0) - a2k))) ((qG s).set a1k (((qG s).getD a1k 0) + (nI 1)))) d k (lsF (wgh s (qPs s 99 (qN s)) (qN s))) rf rz ra rn rq lt m1 m2 m3 m4 bd fc hd sz el s g fm hm so si sh ce ca td wa kp la bf oo bo pw ow tr)) at_X4_grant_19 (w9v qg_GU) (by omega) (by omega) w_pt1_G ?_
                    refine E_aload_n at_X4_grant_20 rfl ?_
                    refine E_dup at_X4_grant_21 rfl ?_
                    refine E_getfield (v := .int (qY s)) at_X4_grant_22 w1 rfl (by decide) (congrArg (fun z => some (Value.int z)) (qg_YG.trans qg_YU)) ?_
                    refine E_iload_n at_X4_grant_25 rfl ?_
                    refine E_iadd (z := (qY s) + (nI a2k)) at_X4_grant_26 rfl ?_
                    refine E_putfield (cs2 := (ww im lf (qs_Y (qs_G (qs_U s ((qU s).set a1k (((qU s).getD a1k 0) - a2k))) ((qG s).set a1k (((qG s).getD a1k 0) + (nI 1)))) ((qY s) + (nI a2k))) d k (lsF (wgh s (qPs s 99 (qN s)) (qN s))) rf rz ra rn rq lt m1 m2 m3 m4 bd fc hd sz el s g fm hm so si sh ce ca td wa kp la bf oo bo pw ow tr)) at_X4_grant_27 w1 rfl (by decide) (Nat.le_of_ble_eq_true rfl) rfl rfl rfl w_pt1_Y ?_
                    refine E_iconst (x := nI 0) at_X4_grant_30 (by decide) ?_
                    refine E_istore (L2 := [some (.ref 1), some (.int (nI a1k)), some (.int (nI a2k)), some (.int (nI B0)), some (.int (nI 0))]) at_X4_grant_31 rfl ?_
                    exact grant_s1 (s := (qs_Y (qs_G (qs_U s ((qU s).set a1k (((qU s).getD a1k 0) - a2k))) ((qG s).set a1k (((qG s).getD a1k 0) + (nI 1)))) ((qY s) + (nI a2k)))) (p := a1k) (n := a2k) (m := B0) (l := qP s) (n1 := qN s) ((congrArg (qs_P _) (Eq.symm (qg_PY.trans (qg_PG.trans qg_PU)))).trans qs_Pself) (qg_NY.trans (qg_NG.trans qg_NU)) (by omega) (I).1.2.2.2 (by omega) (by omega)
                  refine E_callV (v := none) (As := [.ref 1, .int (nI a1k), .int (nI a2k), .int (nI B0)]) (r0 := []) (cs2 := (ww im lf (qs_P (qs_Y (qs_G (qs_U s ((qU s).set a1k (((qU s).getD a1k 0) - a2k))) ((qG s).set a1k (((qG s).getD a1k 0) + (nI 1)))) ((qY s) + (nI a2k))) (qGP (qP s) a1k B0 (qN s))) d k (lsF (wgh s (qPs s 99 (qN s)) (qN s))) rf rz ra rn rq lt m1 m2 m3 m4 bd fc hd sz el s g fm hm so si sh ce ca td wa kp la bf oo bo pw ow tr)) rfl rfl rfl (Nat.le_of_ble_eq_true rfl) rfl (ab_rvOf w1 rfl) e4 (by decide) w_lens ?_
                  refine E_iload_n rfl rfl ?_
                  exact E_iret rfl rfl
                · show Ev ab_Z0 5 197 [.ref 65, .int (nI a1k), .int (nI a2k)] (ww im lf (qs_P (qs_Y (qs_G (qs_U s ((qU s).set a1k (((qU s).getD a1k 0) - a2k))) ((qG s).set a1k (((qG s).getD a1k 0) + (nI 1)))) ((qY s) + (nI a2k))) (qGP (qP s) a1k B0 (qN s))) d k (lsF (wgh s (qPs s 99 (qN s)) (qN s))) rf rz ra rn rq lt m1 m2 m3 m4 bd fc hd sz el s g fm hm so si sh ce ca td wa kp la bf oo bo pw ow tr) (some (.int (nI B0)), (ww im lf (qs_P (qs_Y (qs_G (qs_U s ((qU s).set a1k (((qU s).getD a1k 0) - a2k))) ((qG s).set a1k (((qG s).getD a1k 0) + (nI 1)))) ((qY s) + (nI a2k))) (qGP (qP s) a1k B0 (qN s))) d k (lsF (wgh s (qPs s 99 (qN s)) (qN s))) rf rz ra rn rq lt m1 m2 m3 m4 bd fc hd sz el (qs_P (qs_Y (qs_G (qs_U s ((qU s).set a1k (((qU s).getD a1k 0) - a2k))) ((qG s).set a1k (((qG s).getD a1k 0) + (nI 1)))) ((qY s) + (nI a2k))) (qGP (qP s) a1k B0 (qN s))) g fm hm so si sh ce ca td wa kp la (lsF (bst s (qPs s 99 (qN s)) (qN s) (2 ^ qN s))) oo bo pw ow tr))
                  refine Ef.in (md := mX6_cast) (L := [some (.ref 65), some (.int (nI a1k)), some (.int (nI a2k)), none]) rfl (Nat.le_of_ble_eq_true rfl) rfl ?_
                  refine E_aload_n at_X6_cast_0 rfl ?_
                  refine E_iload_n at_X6_cast_1 rfl ?_
                  refine E_callV (v := some (.int (nI 1))) (As := [.ref 65, .int (nI a1k)]) (r0 := []) (cs2 := (ww im lf (qs_P (qs_Y (qs_G (qs_U s ((qU s).set a1k (((qU s).getD a1k 0) - a2k))) ((qG s).set a1k (((qG s).getD a1k 0) + (nI 1)))) ((qY s) + (nI a2k))) (qGP (qP s) a1k B0 (qN s))) d k (lsF (wgh s (qPs s 99 (qN s)) (qN s))) rf rz ra rn rq lt m1 m2 m3 m4 bd fc hd sz el s g fm hm so si sh ce ca td wa kp la bf oo bo pw ow tr)) at_X6_cast_2 rfl rfl (Nat.le_of_ble_eq_true rfl) rfl (ab_rvOf w65 rfl) (L2_X6_isOne (by omega) (by omega) (by omega) (by omega)) (by decide) rfl ?_
                  refine E_if (t := 14) (b := true) at_X6_cast_5 rfl (by decide) ?_
                  refine E_aload_n at_X6_cast_14 rfl ?_
                  refine E_aload_n at_X6_cast_15 rfl ?_
                  refine E_bipush (x := nI 99) at_X6_cast_16 (by decide) ?_
                  refine E_callV (v := some (.int (nI (qPs s 99 (qN s))))) (As := [.ref 65, .int (nI 99)]) (r0 := [.ref 65]) (cs2 := (ww im lf (qs_P (qs_Y (qs_G (qs_U s ((qU s).set a1k (((qU s).getD a1k 0) - a2k))) ((qG s).set a1k (((qG s).getD a1k 0) + (nI 1)))) ((qY s) + (nI a2k))) (qGP (qP s) a1k B0 (qN s))) d k (lsF (wgh s (qPs s 99 (qN s)) (qN s))) rf rz ra rn rq lt m1 m2 m3 m4 bd fc hd sz el s g fm hm so si sh ce ca td wa kp la bf oo bo pw ow tr)) at_X6_cast_18 rfl rfl (Nat.le_of_ble_eq_true rfl) rfl (ab_rvOf w65 rfl) (mo_piecesOf w_m I (by omega)) (by decide) rfl ?_
                  refine E_callV (v := none) (As := [.ref 65, .int (nI (qPs s 99 (qN s)))]) (r0 := []) (cs2 := (ww im lf (qs_P (qs_Y (qs_G (qs_U s ((qU s).set a1k (((qU s).getD a1k 0) - a2k))) ((qG s).set a1k (((qG s).getD a1k 0) + (nI 1)))) ((qY s) + (nI a2k))) (qGP (qP s) a1k B0 (qN s))) d k (lsF (wgh s (qPs s 99 (qN s)) (qN s))) rf rz ra rn rq lt m1 m2 m3 m4 bd fc hd sz el s g fm hm so si sh ce ca td wa kp la (lsF (bst s (qPs s 99 (qN s)) (qN s) (2 ^ qN s))) oo bo pw ow tr)) at_X6_cast_21 rfl rfl (Nat.le_of_ble_eq_true rfl) rfl (ab_rvOf w65 rfl) (w_best (m := qPs s 99 (qN s)) I (by omega) (lr.2.2.2.2.2.2.2.2.2.2.2.2.2.2.2.1)) (by decide) w_lens ?_
                  refine E_aload_n at_X6_cast_24 rfl ?_
                  refine E_iload_n at_X6_cast_25 rfl ?_
                  refine E_iconst (x := nI 0) at_X6_cast_26 (by decide) ?_
                  refine E_bipush (x := nI 99) at_X6_cast_27 (by decide) ?_
                  refine E_callV (v := some (.int (nI 1))) (As := [.ref 65, .int (nI a2k), .int (nI 0), .int (nI 99)]) (r0 := []) (cs2 := (ww im lf (qs_P (qs_Y (qs_G (qs_U s ((qU s).set a1k (((qU s).getD a1k 0) - a2k))) ((qG s).set a1k (((qG s).getD a1k 0) + (nI 1)))) ((qY s) + (nI a2k))) (qGP (qP s) a1k B0 (qN s))) d k (lsF (wgh s (qPs s 99 (qN s)) (qN s))) rf rz ra rn rq lt m1 m2 m3 m4 bd fc hd sz el s g fm hm so si sh ce ca td wa kp la (lsF (bst s (qPs s 99 (qN s)) (qN s) (2 ^ qN s))) oo bo pw ow tr)) at_X6_cast_29 rfl rfl (Nat.le_of_ble_eq_true rfl) rfl (ab_rvOf w65 rfl) (L85_X6_isFrom (by omega) (by omega) (by omega)) (by decide) rfl ?_
                  refine E_if (t := 44) (b := false) at_X6_cast_32 rfl (by decide) ?_
                  refine E_aload_n at_X6_cast_35 rfl ?_
                  refine E_iload_n at_X6_cast_36 rfl ?_
                  refine E_iload_n at_X6_cast_37 rfl ?_
                  have e6 : Ev ab_Z0 2 176 [.ref 65, .int (nI a1k), .int (nI a2k)] (ww im lf (qs_P (qs_Y (qs_G (qs_U s ((qU s).set a1k (((qU s).getD a1k 0) - a2k))) ((qG s).set a1k (((qG s).getD a1k 0) + (nI 1)))) ((qY s) + (nI a2k))) (qGP (qP s) a1k B0 (qN s))) d k (lsF (wgh s (qPs s 99 (qN s)) (qN s))) rf rz ra rn rq lt m1 m2 m3 m4 bd fc hd sz el s g fm hm so si sh ce ca td wa kp la (lsF (bst s (qPs s 99 (qN s)) (qN s) (2 ^ qN s))) oo bo pw ow tr) (some (.int (nI B0)), (ww im lf (qs_P (qs_Y (qs_G (qs_U s ((qU s).set a1k (((qU s).getD a1k 0) - a2k))) ((qG s).set a1k (((qG s).getD a1k 0) + (nI 1)))) ((qY s) + (nI a2k))) (qGP (qP s) a1k B0 (qN s))) d k (lsF (wgh s (qPs s 99 (qN s)) (qN s))) rf rz ra rn rq lt m1 m2 m3 m4 bd fc hd sz el s g fm hm so si sh ce ca td wa kp la (lsF (bst s (qPs s 99 (qN s)) (qN s) (2 ^ qN s))) oo bo pw ow tr)) := by
                    refine Ef.in (md := mX6_thrown) (L := [some (.ref 65), some (.int (nI a1k)), some (.int (nI a2k)), none]) rfl (Nat.le_of_ble_eq_true rfl) rfl ?_
                    refine E_iload_n at_X6_thrown_0 rfl ?_
                    refine E_aload_n at_X6_thrown_1 rfl ?_
                    refine E_iload_n at_X6_thrown_2 rfl ?_
                    refine E_aload_n at_X6_thrown_3 rfl ?_
                    refine E_getfield (v := .ref 73) at_X6_thrown_4 w65 rfl (by decide) rfl ?_
                    refine E_iload_n at_X6_thrown_7 rfl ?_
                    refine E_ialN (l := qW s) (v := (qW s).getD a1k 0) at_X6_thrown_8 w73 (by omega) (by omega) rfl ?_
                    refine E_callV (v := some (.int (nI (qPr s a1k ((qW s).getD a1k 0))))) (As := [.ref 65, .int (nI a1k), .int (nI ((qW s).getD a1k 0))]) (r0 := [.int (nI a2k)]) (cs2 := (ww im lf (qs_P (qs_Y (qs_G (qs_U s ((qU s).set a1k (((qU s).getD a1k 0) - a2k))) ((qG s).set a1k (((qG s).getD a1k 0) + (nI 1)))) ((qY s) + (nI a2k))) (qGP (qP s) a1k B0 (qN s))) d k (lsF (wgh s (qPs s 99 (qN s)) (qN s))) rf rz ra rn rq lt m1 m2 m3 m4 bd fc hd sz el s g fm hm so si sh ce ca td wa kp la (lsF (bst s (qPs s 99 (qN s)) (qN s) (2 ^ qN s))) oo bo pw ow tr)) at_X6_thrown_9 rfl rfl (Nat.le_of_ble_eq_true rfl) rfl (ab_rvOf w65 rfl) (mo_priceFor w_m I (by omega) (by omega)) (by decide) rfl ?_
                    refine E_isub (z := nI (a2k - (qPr s a1k ((qW s).getD a1k 0)))) at_X6_thrown_12 (pk_sub (by omega)) ?_
                    refine E_istore_n (L2 := [some (.ref 65), some (.int (nI a1k)), some (.int (nI a2k)), some (.int (nI (a2k - (qPr s a1k ((qW s).getD a1k 0)))))]) at_X6_thrown_13 rfl ?_
                    refine E_aload_n at_X6_thrown_14 rfl ?_
                    refine E_iload_n at_X6_thrown_15 rfl ?_
                    refine E_iconst (x := nI 0) at_X6_thrown_16 (by decide) ?_
                    refine E_bipush (x := nI 99) at_X6_thrown_17 (by decide) ?_
                    refine E_callV (v := some (.int (nI 1))) (As := [.ref 65, .int (nI a2k), .int (nI 0), .int (nI 99)]) (r0 := []) (cs2 := (ww im lf (qs_P (qs_Y (qs_G (qs_U s ((qU s).set a1k (((qU s).getD a1k 0) - a2k))) ((qG s).set a1k (((qG s).getD a1k 0) + (nI 1)))) ((qY s) + (nI a2k))) (qGP (qP s) a1k B0 (qN s))) d k (lsF (wgh s (qPs s 99 (qN s)) (qN s))) rf rz ra rn rq lt m1 m2 m3 m4 bd fc hd sz el s g fm hm so si sh ce ca td wa kp la (lsF (bst s (qPs s 99 (qN s)) (qN s) (2 ^ qN s))) oo bo pw ow tr)) at_X6_thrown_19 rfl rfl (Nat.le_of_ble_eq_true rfl) rfl (ab_rvOf w65 rfl) (L85_X6_isFrom (by omega) (by omega) (by omega)) (by decide) rfl ?_
                    refine E_if (t := 39) (b := false) at_X6_thrown_22 rfl (by decide) ?_
                    refine E_iload_n at_X6_thrown_25 rfl ?_
                    refine E_aload_n at_X6_thrown_26 rfl ?_
                    refine E_getfield (v := .ref 71) at_X6_thrown_27 w65 rfl (by decide) rfl ?_
                    refine E_iload_n at_X6_thrown_30 rfl ?_
                    refine E_ialN (l := qU s) (v := (qU s).getD a1k 0) at_X6_thrown_31 w71 (by omega) (by omega) rfl ?_
                    refine E_ic (t := 39) (b := false) at_X6_thrown_32 rfl ((cn_gt (nI_toInt (by omega)) (nI_toInt (by omega))).trans (decide_eq_false (by omega))) ?_
                    refine E_iload_n at_X6_thrown_35 rfl ?_
                    refine E_if (t := 43) (b := true) at_X6_thrown_36 rfl ((cn_ge (nI_toInt (by omega)) (by decide : (0 : Int32).toInt = 0)).trans (decide_eq_true (by omega))) ?_
                    refine E_aload_n at_X6_thrown_43 rfl ?_
                    refine E_iload_n at_X6_thrown_44 rfl ?_
                    have e5 : Ev ab_Z0 1 172 [.ref 65, .int (nI (a2k - (qPr s a1k ((qW s).getD a1k 0))))] (ww im lf (qs_P (qs_Y (qs_G (qs_U s ((qU s).set a1k (((qU s).getD a1k 0) - a2k))) ((qG s).set a1k (((qG s).getD a1k 0) + (nI 1)))) ((qY s) + (nI a2k))) (qGP (qP s) a1k B0 (qN s))) d k (lsF (wgh s (qPs s 99 (qN s)) (qN s))) rf rz ra rn rq lt m1 m2 m3 m4 bd fc hd sz el s g fm hm so si sh ce ca td wa kp la (lsF (bst s (qPs s 99 (qN s)) (qN s) (2 ^ qN s))) oo bo pw ow tr) (some (.int (nI B0)), (ww im lf (qs_P (qs_Y (qs_G (qs_U s ((qU s).set a1k (((qU s).getD a1k 0) - a2k))) ((qG s).set a1k (((qG s).getD a1k 0) + (nI 1)))) ((qY s) + (nI a2k))) (qGP (qP s) a1k B0 (qN s))) d k (lsF (wgh s (qPs s 99 (qN s)) (qN s))) rf rz ra rn rq lt m1 m2 m3 m4 bd fc hd sz el s g fm hm so si sh ce ca td wa kp la (lsF (bst s (qPs s 99 (qN s)) (qN s) (2 ^ qN s))) oo bo pw ow tr)) := by
                      refine Ef.in (md := mX6_changeFor) (L := [some (.ref 65), some (.int (nI (a2k - (qPr s a1k ((qW s).getD a1k 0)))))]) rfl (Nat.le_of_ble_eq_true rfl) rfl ?_
                      refine E_aload_n at_X6_changeFor_0 rfl ?_
                      refine E_getfield (v := .int (qR s)) at_X6_changeFor_1 w65 rfl (by decide) rfl ?_
                      refine E_if (t := 16) (b := false) at_X6_changeFor_4 rfl ((cn_ne rfl (by decide : (0 : Int32).toInt = 0)).trans (decide_eq_false (by omega))) ?_
                      refine E_aload_n at_X6_changeFor_7 rfl ?_
                      refine E_getfield (v := .ref 89) at_X6_changeFor_8 w65 rfl (by decide) rfl ?_
                      refine E_iload_n at_X6_changeFor_11 rfl ?_
                      refine E_ialI (l := (lsF (bst s (qPs s 99 (qN s)) (qN s) (2 ^ qN s)))) (v := nI B0) at_X6_changeFor_12 w89 (by omega) (by omega) (by rw [lsF_get (by omega), hb0]; rfl) ?_
                      refine E_goto (t := 21) at_X6_changeFor_13 rfl ?_
                      exact E_iret at_X6_changeFor_21 rfl
                    refine E_callV (v := some (.int (nI B0))) (As := [.ref 65, .int (nI (a2k - (qPr s a1k ((qW s).getD a1k 0))))]) (r0 := []) (cs2 := (ww im lf (qs_P (qs_Y (qs_G (qs_U s ((qU s).set a1k (((qU s).getD a1k 0) - a2k))) ((qG s).set a1k (((qG s).getD a1k 0) + (nI 1)))) ((qY s) + (nI a2k))) (qGP (qP s) a1k B0 (qN s))) d k (lsF (wgh s (qPs s 99 (qN s)) (qN s))) rf rz ra rn rq lt m1 m2 m3 m4 bd fc hd sz el s g fm hm so si sh ce ca td wa kp la (lsF (bst s (qPs s 99 (qN s)) (qN s) (2 ^ qN s))) oo bo pw ow tr)) at_X6_thrown_45 rfl rfl (Nat.le_of_ble_eq_true rfl) rfl (ab_rvOf w65 rfl) e5 (by decide) rfl ?_
                    exact E_iret at_X6_thrown_48 rfl
                  refine E_callV (v := some (.int (nI B0))) (As := [.ref 65, .int (nI a1k), .int (nI a2k)]) (r0 := []) (cs2 := (ww im lf (qs_P (qs_Y (qs_G (qs_U s ((qU s).set a1k (((qU s).getD a1k 0) - a2k))) ((qG s).set a1k (((qG s).getD a1k 0) + (nI 1)))) ((qY s) + (nI a2k))) (qGP (qP s) a1k B0 (qN s))) d k (lsF (wgh s (qPs s 99 (qN s)) (qN s))) rf rz ra rn rq lt m1 m2 m3 m4 bd fc hd sz el s g fm hm so si sh ce ca td wa kp la (lsF (bst s (qPs s 99 (qN s)) (qN s) (2 ^ qN s))) oo bo pw ow tr)) at_X6_cast_38 rfl rfl (Nat.le_of_ble_eq_true rfl) rfl (ab_rvOf w65 rfl) e6 (by decide) rfl ?_
                  refine E_goto (t := 45) at_X6_cast_41 rfl ?_
                  refine E_istore_n (L2 := [some (.ref 65), some (.int (nI a1k)), some (.int (nI a2k)), some (.int (nI B0))]) at_X6_cast_45 rfl ?_
                  refine E_iload_n at_X6_cast_46 rfl ?_
                  refine E_iconst (x := (-1)) at_X6_cast_47 (by decide) ?_
                  refine E_ic (t := 58) (b := true) at_X6_cast_48 rfl ((cn_ne (nI_toInt (by omega)) (by decide : (-1 : Int32).toInt = -1)).trans (decide_eq_true (by omega))) ?_
                  refine E_aload_n rfl rfl ?_
                  refine E_iload_n rfl rfl ?_
                  refine E_iload_n rfl rfl ?_
                  refine E_iload_n rfl rfl ?_
                  have e7 : Ev ab_Z0 1 183 [.ref 65, .int (nI a1k), .int (nI a2k), .int (nI B0)] (ww im lf (qs_P (qs_Y (qs_G (qs_U s ((qU s).set a1k (((qU s).getD a1k 0) - a2k))) ((qG s).set a1k (((qG s).getD a1k 0) + (nI 1)))) ((qY s) + (nI a2k))) (qGP (qP s) a1k B0 (qN s))) d k (lsF (wgh s (qPs s 99 (qN s)) (qN s))) rf rz ra rn rq lt m1 m2 m3 m4 bd fc hd sz el s g fm hm so si sh ce ca td wa kp la (lsF (bst s (qPs s 99 (qN s)) (qN s) (2 ^ qN s))) oo bo pw ow tr) (none, (ww im lf (qs_P (qs_Y (qs_G (qs_U s ((qU s).set a1k (((qU s).getD a1k 0) - a2k))) ((qG s).set a1k (((qG s).getD a1k 0) + (nI 1)))) ((qY s) + (nI a2k))) (qGP (qP s) a1k B0 (qN s))) d k (lsF (wgh s (qPs s 99 (qN s)) (qN s))) rf rz ra rn rq lt m1 m2 m3 m4 bd fc hd sz el (qs_P (qs_Y (qs_G (qs_U s ((qU s).set a1k (((qU s).getD a1k 0) - a2k))) ((qG s).set a1k (((qG s).getD a1k 0) + (nI 1)))) ((qY s) + (nI a2k))) (qGP (qP s) a1k B0 (qN s))) g fm hm so si sh ce ca td wa kp la (lsF (bst s (qPs s 99 (qN s)) (qN s) (2 ^ qN s))) oo bo pw ow tr)) := by
                    refine Ef.in (md := mX6_throwsIn) (L := [some (.ref 65), some (.int (nI a1k)), some (.int (nI a2k)), some (.int (nI B0)), none]) rfl (Nat.le_of_ble_eq_true rfl) rfl ?_
                    refine E_aload_n at_X6_throwsIn_0 rfl ?_
                    refine E_getfield (v := .ref 71) at_X6_throwsIn_1 w65 rfl (by decide) rfl ?_
                    refine E_iload_n at_X6_throwsIn_4 rfl ?_
                    refine E_dup2 at_X6_throwsIn_5 ⟨rfl, rfl⟩ ?_
                    refine E_ialN (l := qU s) (v := (qU s).getD a1k 0) at_X6_throwsIn_6 w71 (by omega) (by omega) rfl ?_
                    refine E_iload_n at_X6_throwsIn_7 rfl ?_
                    refine E_isub (z := nI (((qU s).getD a1k 0) - a2k)) at_X6_throwsIn_8 (pk_sub (by omega)) ?_
                    refine E_iasN (l := qU s) (cs2 := (ww im lf (qs_P (qs_Y (qs_G (qs_U s ((qU s).set a1k (((qU s).getD a1k 0) - a2k))) ((qG s).set a1k (((qG s).getD a1k 0) + (nI 1)))) ((qY s) + (nI a2k))) (qGP (qP s) a1k B0 (qN s))) d k (lsF (wgh s (qPs s 99 (qN s)) (qN s))) rf rz ra rn rq lt m1 m2 m3 m4 bd fc hd sz el (qs_U s ((qU s).set a1k (((qU s).getD a1k 0) - a2k))) g fm hm so si sh ce ca td wa kp la (lsF (bst s (qPs s 99 (qN s)) (qN s) (2 ^ qN s))) oo bo pw ow tr)) at_X6_throwsIn_9 w71 (by omega) (by omega) w_pt65_U ?_
                    refine E_aload_n at_X6_throwsIn_10 rfl ?_
                    refine E_getfield (v := .ref 74) at_X6_throwsIn_11 w65 rfl (by decide) rfl ?_
                    refine E_iload_n at_X6_throwsIn_14 rfl ?_
                    refine E_dup2 at_X6_throwsIn_15 ⟨rfl, rfl⟩ ?_
                    refine E_ialI (l := qG s) (v := (qG s).getD a1k 0) at_X6_throwsIn_16 (w74v qg_GU) (by omega) (by omega) rfl ?_
                    refine E_iconst (x := nI 1) at_X6_throwsIn_17 (by decide) ?_
                    refine E_iadd (z := ((qG s).getD a1k 0) + (nI 1)) at_X6_throwsIn_18 rfl ?_
                    refine E_iasI (l := qG s) (cs2 := (ww im lf (qs_P (qs_Y (qs_G (qs_U s ((qU s).set a1k (((qU s).getD a1k 0) - a2k))) ((qG s).set a1k (((qG s).getD a1k 0) + (nI 1)))) ((qY s) + (nI a2k))) (qGP (qP s) a1k B0 (qN s))) d k (lsF (wgh s (qPs s 99 (qN s)) (qN s))) rf rz ra rn rq lt m1 m2 m3 m4 bd fc hd sz el (qs_G (qs_U s ((qU s).set a1k (((qU s).getD a1k 0) - a2k))) ((qG s).set a1k (((qG s).getD a1k 0) + (nI 1)))) g fm hm so si sh ce ca td wa kp la (lsF (bst s (qPs s 99 (qN s)) (qN s) (2 ^ qN s))) oo bo pw ow tr)) at_X6_throwsIn_19 (w74v qg_GU) (by omega) (by omega) w_pt65_G ?_
                    refine E_aload_n at_X6_throwsIn_20 rfl ?_
                    refine E_dup at_X6_throwsIn_21 rfl ?_
                    refine E_getfield (v := .int (qY s)) at_X6_throwsIn_22 w65 rfl (by decide) (congrArg (fun z => some (Value.int z)) (qg_YG.trans qg_YU)) ?_
                    refine E_iload_n at_X6_throwsIn_25 rfl ?_
                    refine E_iadd (z := (qY s) + (nI a2k)) at_X6_throwsIn_26 rfl ?_
                    refine E_putfield (cs2 := (ww im lf (qs_P (qs_Y (qs_G (qs_U s ((qU s).set a1k (((qU s).getD a1k 0) - a2k))) ((qG s).set a1k (((qG s).getD a1k 0) + (nI 1)))) ((qY s) + (nI a2k))) (qGP (qP s) a1k B0 (qN s))) d k (lsF (wgh s (qPs s 99 (qN s)) (qN s))) rf rz ra rn rq lt m1 m2 m3 m4 bd fc hd sz el (qs_Y (qs_G (qs_U s ((qU s).set a1k (((qU s).getD a1k 0) - a2k))) ((qG s).set a1k (((qG s).getD a1k 0) + (nI 1)))) ((qY s) + (nI a2k))) g fm hm so si sh ce ca td wa kp la (lsF (bst s (qPs s 99 (qN s)) (qN s) (2 ^ qN s))) oo bo pw ow tr)) at_X6_throwsIn_27 w65 rfl (by decide) (Nat.le_of_ble_eq_true rfl) rfl rfl rfl w_pt65_Y ?_
                    refine E_iconst (x := nI 0) at_X6_throwsIn_30 (by decide) ?_
                    refine E_istore (L2 := [some (.ref 65), some (.int (nI a1k)), some (.int (nI a2k)), some (.int (nI B0)), some (.int (nI 0))]) at_X6_throwsIn_31 rfl ?_
                    exact grant_s65 (t := (qs_Y (qs_G (qs_U s ((qU s).set a1k (((qU s).getD a1k 0) - a2k))) ((qG s).set a1k (((qG s).getD a1k 0) + (nI 1)))) ((qY s) + (nI a2k)))) (p := a1k) (n := a2k) (m := B0) (l := qP s) (n1 := qN s) ((congrArg (qs_P _) (Eq.symm (qg_PY.trans (qg_PG.trans qg_PU)))).trans qs_Pself) (qg_NY.trans (qg_NG.trans qg_NU)) (by omega) (I).1.2.2.2 (by omega) (by omega)
                  refine E_callV (v := none) (As := [.ref 65, .int (nI a1k), .int (nI a2k), .int (nI B0)]) (r0 := []) (cs2 := (ww im lf (qs_P (qs_Y (qs_G (qs_U s ((qU s).set a1k (((qU s).getD a1k 0) - a2k))) ((qG s).set a1k (((qG s).getD a1k 0) + (nI 1)))) ((qY s) + (nI a2k))) (qGP (qP s) a1k B0 (qN s))) d k (lsF (wgh s (qPs s 99 (qN s)) (qN s))) rf rz ra rn rq lt m1 m2 m3 m4 bd fc hd sz el (qs_P (qs_Y (qs_G (qs_U s ((qU s).set a1k (((qU s).getD a1k 0) - a2k))) ((qG s).set a1k (((qG s).getD a1k 0) + (nI 1)))) ((qY s) + (nI a2k))) (qGP (qP s) a1k B0 (qN s))) g fm hm so si sh ce ca td wa kp la (lsF (bst s (qPs s 99 (qN s)) (qN s) (2 ^ qN s))) oo bo pw ow tr)) rfl rfl rfl (Nat.le_of_ble_eq_true rfl) rfl (ab_rvOf w65 rfl) e7 (by decide) w_lens ?_
                  refine E_iload_n rfl rfl ?_
                  exact E_iret rfl rfl
                · exact ⟨(qI_P (qI_Y (qI_G (kU I (by omega)) (by simp only [List.length_set]; exact I.2.1.2.2.2.1))) ((qGP_len _ _ _ _).trans I.1.2.2.2) (qGP_pl (k := qM s) (by omega) (fun x hx => (I.2.2.2.1 x hx).2.2.2.2) _)), rfl, hf, iQ, iM, iT, (iS.n (s2 := (qs_P (qs_Y (qs_G (qs_U s ((qU s).set a1k (((qU s).getD a1k 0) - a2k))) ((qG s).set a1k (((qG s).getD a1k 0) + (nI 1)))) ((qY s) + (nI a2k))) (qGP (qP s) a1k B0 (qN s)))) (Nat.le_refl _)), l_el, (lsF_len _), (lr.2.1), (lr.2.2.1), (lr.2.2.2.1), (lr.2.2.2.2.1), (lr.2.2.2.2.2.1), (lr.2.2.2.2.2.2.1), (lr.2.2.2.2.2.2.2.1), (lr.2.2.2.2.2.2.2.2.1), (lr.2.2.2.2.2.2.2.2.2.1), (lr.2.2.2.2.2.2.2.2.2.2.1), (lr.2.2.2.2.2.2.2.2.2.2.2.1), (lr.2.2.2.2.2.2.2.2.2.2.2.2.1), (lr.2.2.2.2.2.2.2.2.2.2.2.2.2.1), (lr.2.2.2.2.2.2.2.2.2.2.2.2.2.2.1), (lsF_len _), (lr.2.2.2.2.2.2.2.2.2.2.2.2.2.2.2.2.1), (lr.2.2.2.2.2.2.2.2.2.2.2.2.2.2.2.2.2.1), (lr.2.2.2.2.2.2.2.2.2.2.2.2.2.2.2.2.2.2.1), (lr.2.2.2.2.2.2.2.2.2.2.2.2.2.2.2.2.2.2.2.1), (lr.2.2.2.2.2.2.2.2.2.2.2.2.2.2.2.2.2.2.2.2)⟩
        · have er2 : (qR s).toInt = 0 := by rw [er]; rfl
          have := I2 a1k (by omega)
          have := qPr_in I a1k (w := ((qW s).getD a1k 0)) (by omega)
          have := qPs_in s 99 (i := qN s) (by omega)
          refine ⟨(-6), (im, lf, s, d, k, ls, rf, rz, ra, rn, rq, lt, m1, m2, m3, m4, bd, (fc.set 6 ((fc.getD 6 0) + (nI 1))), hd, sz, el, s, g, fm, hm, so, si, sh, ce, ca, td, wa, kp, la, bf, oo, bo, pw, ow, tr), (im, lf, s, d, k, ls, rf, rz, ra, rn, rq, lt, m1, m2, m3, m4, bd, (fc.set 6 ((fc.getD 6 0) + (nI 1))), hd, sz, el, s, g, (fm.set 6 ((fm.getD 6 0) + (nI 1))), hm, so, si, sh, ce, ca, td, wa, kp, la, (lsF (bst s (qPs s 99 (qN s)) (qN s) (2 ^ qN s))), oo, bo, pw, ow, tr), ?_, ?_, ?_⟩
          · show Ev ab_Z0 6 106 [.ref 0, .int (nI a1k), .int a2] (ww im lf s d k ls rf rz ra rn rq lt m1 m2 m3 m4 bd fc hd sz el s g fm hm so si sh ce ca td wa kp la bf oo bo pw ow tr) (some (.int (-6)), (ww im lf s d k ls rf rz ra rn rq lt m1 m2 m3 m4 bd (fc.set 6 ((fc.getD 6 0) + (nI 1))) hd sz el s g fm hm so si sh ce ca td wa kp la bf oo bo pw ow tr))
            refine Ef.in (md := mX5_cast) (L := [some (.ref 0), some (.int (nI a1k)), some (.int a2), none]) rfl (Nat.le_of_ble_eq_true rfl) rfl ?_
            refine E_aload_n at_X5_cast_0 rfl ?_
            refine E_getfield (v := .ref 1) at_X5_cast_1 w0 rfl (by decide) rfl ?_
            refine E_iload_n at_X5_cast_4 rfl ?_
            refine E_callV (v := some (.int (nI 1))) (As := [.ref 1, .int (nI a1k)]) (r0 := []) (cs2 := (ww im lf s d k ls rf rz ra rn rq lt m1 m2 m3 m4 bd fc hd sz el s g fm hm so si sh ce ca td wa kp la bf oo bo pw ow tr)) at_X5_cast_5 rfl rfl (Nat.le_of_ble_eq_true rfl) rfl (ab_rvOf w1 rfl) (L0_X4_isPerson (by omega) (by omega) (by omega) (by omega)) (by decide) rfl ?_
            refine E_if (t := 17) (b := true) at_X5_cast_8 rfl (by decide) ?_
            refine E_aload_n at_X5_cast_17 rfl ?_
            refine E_aload_n at_X5_cast_18 rfl ?_
            refine E_getfield (v := .ref 1) at_X5_cast_19 w0 rfl (by decide) rfl ?_
            refine E_iload_n at_X5_cast_22 rfl ?_
            refine E_iload_n at_X5_cast_23 rfl ?_
            have e1 : Ev ab_Z0 4 122 [.ref 0, .ref 1, .int (nI a1k), .int a2] (ww im lf s d k ls rf rz ra rn rq lt m1 m2 m3 m4 bd fc hd sz el s g fm hm so si sh ce ca td wa kp la bf oo bo pw ow tr) (some (.int (-1)), (ww im lf s d k ls rf rz ra rn rq lt m1 m2 m3 m4 bd fc hd sz el s g fm hm so si sh ce ca td wa kp la bf oo bo pw ow tr)) := by
              refine Ef.in (md := mX5_throwBy) (L := [some (.ref 0), some (.ref 1), some (.int (nI a1k)), some (.int a2), none]) rfl (Nat.le_of_ble_eq_true rfl) rfl ?_
              refine E_aload_n at_X5_throwBy_0 rfl ?_
              refine E_iload_n at_X5_throwBy_1 rfl ?_
              refine E_callV (v := some (.int (nI 1))) (As := [.ref 1, .int (nI a1k)]) (r0 := []) (cs2 := (ww im lf s d k ls rf rz ra rn rq lt m1 m2 m3 m4 bd fc hd sz el s g fm hm so si sh ce ca td wa kp la bf oo bo pw ow tr)) at_X5_throwBy_2 rfl rfl (Nat.le_of_ble_eq_true rfl) rfl (ab_rvOf w1 rfl) (L0_X4_isPerson (by omega) (by omega) (by omega) (by omega)) (by decide) rfl ?_
              refine E_if (t := 18) (b := false) at_X5_throwBy_5 rfl (by decide) ?_
              refine E_iload_n at_X5_throwBy_8 rfl ?_
              refine E_aload_n at_X5_throwBy_9 rfl ?_
              refine E_getfield (v := .ref 6) at_X5_throwBy_10 w1 rfl (by decide) rfl ?_
              refine E_iload_n at_X5_throwBy_13 rfl ?_
              refine E_ialN (l := qU s) (v := (qU s).getD a1k 0) at_X5_throwBy_14 w6 (by omega) (by omega) rfl ?_
              refine E_ic (t := 20) (b := true) at_X5_throwBy_15 rfl ((cn_le rfl (nI_toInt (by omega))).trans (decide_eq_true (by omega))) ?_
              refine E_aload_n at_X5_throwBy_20 rfl ?_
              refine E_iload_n at_X5_throwBy_21 rfl ?_
              refine E_aload_n at_X5_throwBy_22 rfl ?_
              refine E_getfield (v := .ref 8) at_X5_throwBy_23 w1 rfl (by decide) rfl ?_
              refine E_iload_n at_X5_throwBy_26 rfl ?_
              refine E_ialN (l := qW s) (v := (qW s).getD a1k 0) at_X5_throwBy_27 w8 (by omega) (by omega) rfl ?_
              refine E_callV (v := some (.int (nI (qPr s a1k ((qW s).getD a1k 0))))) (As := [.ref 1, .int (nI a1k), .int (nI ((qW s).getD a1k 0))]) (r0 := []) (cs2 := (ww im lf s d k ls rf rz ra rn rq lt m1 m2 m3 m4 bd fc hd sz el s g fm hm so si sh ce ca td wa kp la bf oo bo pw ow tr)) at_X5_throwBy_28 rfl rfl (Nat.le_of_ble_eq_true rfl) rfl (ab_rvOf w1 rfl) (sq_priceFor w_q1 I (by omega) (by omega)) (by decide) rfl ?_
              refine E_istore (L2 := [some (.ref 0), some (.ref 1), some (.int (nI a1k)), some (.int a2), some (.int (nI (qPr s a1k ((qW s).getD a1k 0))))]) at_X5_throwBy_31 rfl ?_
              refine E_iload_n at_X5_throwBy_33 rfl ?_
              refine E_iload at_X5_throwBy_34 rfl ?_
              refine E_ic (t := 43) (b := false) at_X5_throwBy_36 rfl ((cn_ge rfl (nI_toInt (by omega))).trans (decide_eq_false (by omega))) ?_
              refine E_iconst (x := (-1)) at_X5_throwBy_39 (by decide) ?_
              refine E_goto (t := 59) at_X5_throwBy_40 rfl ?_
              exact E_iret at_X5_throwBy_59 rfl
            refine E_callV (v := some (.int (-1))) (As := [.ref 0, .ref 1, .int (nI a1k), .int a2]) (r0 := []) (cs2 := (ww im lf s d k ls rf rz ra rn rq lt m1 m2 m3 m4 bd fc hd sz el s g fm hm so si sh ce ca td wa kp la bf oo bo pw ow tr)) at_X5_cast_24 rfl rfl (Nat.le_of_ble_eq_true rfl) rfl (ab_rvOf w0 rfl) e1 (by decide) rfl ?_
            refine E_istore_n (L2 := [some (.ref 0), some (.int (nI a1k)), some (.int a2), some (.int (-1))]) at_X5_cast_27 rfl ?_
            refine E_iload_n at_X5_cast_28 rfl ?_
            refine E_iconst (x := (-1)) at_X5_cast_29 (by decide) ?_
            refine E_ic (t := 40) (b := false) at_X5_cast_30 rfl (by decide) ?_
            refine E_aload_n at_X5_cast_33 rfl ?_
            refine E_bipush (x := nI 6) at_X5_cast_34 (by decide) ?_
            refine E_callV (v := some (.int (-6))) (As := [.ref 0, .int (nI 6)]) (r0 := []) (cs2 := (ww im lf s d k ls rf rz ra rn rq lt m1 m2 m3 m4 bd (fc.set 6 ((fc.getD 6 0) + (nI 1))) hd sz el s g fm hm so si sh ce ca td wa kp la bf oo bo pw ow tr)) at_X5_cast_36 rfl rfl (Nat.le_of_ble_eq_true rfl) rfl (ab_rvOf w0 rfl) (L26_X5_refuse (by omega)) (by decide) w_lens ?_
            exact E_iret at_X5_cast_39 rfl
          · show Ev ab_Z0 5 197 [.ref 65, .int (nI a1k), .int a2] (ww im lf s d k ls rf rz ra rn rq lt m1 m2 m3 m4 bd (fc.set 6 ((fc.getD 6 0) + (nI 1))) hd sz el s g fm hm so si sh ce ca td wa kp la bf oo bo pw ow tr) (some (.int (-6)), (ww im lf s d k ls rf rz ra rn rq lt m1 m2 m3 m4 bd (fc.set 6 ((fc.getD 6 0) + (nI 1))) hd sz el s g (fm.set 6 ((fm.getD 6 0) + (nI 1))) hm so si sh ce ca td wa kp la (lsF (bst s (qPs s 99 (qN s)) (qN s) (2 ^ qN s))) oo bo pw ow tr))
            refine Ef.in (md := mX6_cast) (L := [some (.ref 65), some (.int (nI a1k)), some (.int a2), none]) rfl (Nat.le_of_ble_eq_true rfl) rfl ?_
            refine E_aload_n at_X6_cast_0 rfl ?_
            refine E_iload_n at_X6_cast_1 rfl ?_
            refine E_callV (v := some (.int (nI 1))) (As := [.ref 65, .int (nI a1k)]) (r0 := []) (cs2 := (ww im lf s d k ls rf rz ra rn rq lt m1 m2 m3 m4 bd (fc.set 6 ((fc.getD 6 0) + (nI 1))) hd sz el s g fm hm so si sh ce ca td wa kp la bf oo bo pw ow tr)) at_X6_cast_2 rfl rfl (Nat.le_of_ble_eq_true rfl) rfl (ab_rvOf w65 rfl) (L2_X6_isOne (by omega) (by omega) (by omega) (by omega)) (by decide) rfl ?_
            refine E_if (t := 14) (b := true) at_X6_cast_5 rfl (by decide) ?_
            refine E_aload_n at_X6_cast_14 rfl ?_
            refine E_aload_n at_X6_cast_15 rfl ?_
            refine E_bipush (x := nI 99) at_X6_cast_16 (by decide) ?_
            refine E_callV (v := some (.int (nI (qPs s 99 (qN s))))) (As := [.ref 65, .int (nI 99)]) (r0 := [.ref 65]) (cs2 := (ww im lf s d k ls rf rz ra rn rq lt m1 m2 m3 m4 bd (fc.set 6 ((fc.getD 6 0) + (nI 1))) hd sz el s g fm hm so si sh ce ca td wa kp la bf oo bo pw ow tr)) at_X6_cast_18 rfl rfl (Nat.le_of_ble_eq_true rfl) rfl (ab_rvOf w65 rfl) (mo_piecesOf w_m I (by omega)) (by decide) rfl ?_
            refine E_callV (v := none) (As := [.ref 65, .int (nI (qPs s 99 (qN s)))]) (r0 := []) (cs2 := (ww im lf s d k ls rf rz ra rn rq lt m1 m2 m3 m4 bd (fc.set 6 ((fc.getD 6 0) + (nI 1))) hd sz el s g fm hm so si sh ce ca td wa kp la (lsF (bst s (qPs s 99 (qN s)) (qN s) (2 ^ qN s))) oo bo pw ow tr)) at_X6_cast_21 rfl rfl (Nat.le_of_ble_eq_true rfl) rfl (ab_rvOf w65 rfl) (w_best (m := qPs s 99 (qN s)) I (by omega) (lr.2.2.2.2.2.2.2.2.2.2.2.2.2.2.2.1)) (by decide) w_lens ?_
            refine E_aload_n at_X6_cast_24 rfl ?_
            refine E_iload_n at_X6_cast_25 rfl ?_
            refine E_iconst (x := nI 0) at_X6_cast_26 (by decide) ?_
            refine E_bipush (x := nI 99) at_X6_cast_27 (by decide) ?_
            refine E_callV (v := some (.int (nI 0))) (As := [.ref 65, .int a2, .int (nI 0), .int (nI 99)]) (r0 := []) (cs2 := (ww im lf s d k ls rf rz ra rn rq lt m1 m2 m3 m4 bd (fc.set 6 ((fc.getD 6 0) + (nI 1))) hd sz el s g fm hm so si sh ce ca td wa kp la (lsF (bst s (qPs s 99 (qN s)) (qN s) (2 ^ qN s))) oo bo pw ow tr)) at_X6_cast_29 rfl rfl (Nat.le_of_ble_eq_true rfl) rfl (ab_rvOf w65 rfl) (L89_X6_isFrom (by omega) (by omega)) (by decide) rfl ?_
            refine E_if (t := 44) (b := true) at_X6_cast_32 rfl (by decide) ?_
            refine E_iconst (x := (-1)) at_X6_cast_44 (by decide) ?_
            refine E_istore_n (L2 := [some (.ref 65), some (.int (nI a1k)), some (.int a2), some (.int (-1))]) at_X6_cast_45 rfl ?_
            refine E_iload_n at_X6_cast_46 rfl ?_
            refine E_iconst (x := (-1)) at_X6_cast_47 (by decide) ?_
            refine E_ic (t := 58) (b := false) at_X6_cast_48 rfl (by decide) ?_
            refine E_aload_n at_X6_cast_51 rfl ?_
            refine E_bipush (x := (-6)) at_X6_cast_52 (by decide) ?_
            refine E_callV (v := some (.int (-6))) (As := [.ref 65, .int (-6)]) (r0 := []) (cs2 := (ww im lf s d k ls rf rz ra rn rq lt m1 m2 m3 m4 bd (fc.set 6 ((fc.getD 6 0) + (nI 1))) hd sz el s g (fm.set 6 ((fm.getD 6 0) + (nI 1))) hm so si sh ce ca td wa kp la (lsF (bst s (qPs s 99 (qN s)) (qN s) (2 ^ qN s))) oo bo pw ow tr)) at_X6_cast_54 rfl rfl (Nat.le_of_ble_eq_true rfl) rfl (ab_rvOf w65 rfl) (L28_X6_no (by omega)) (by decide) w_lens ?_
            exact E_iret at_X6_cast_57 rfl
          · exact ⟨I, rfl, hf, iQ, iM, iT, iS, l_el, (lr.1), (lr.2.1), (lr.2.2.1), (by simp only [List.length_set]; exact (lr.2.2.2.1)), (by simp only [List.length_set]; exact (lr.2.2.2.2.1)), (lr.2.2.2.2.2.1), (lr.2.2.2.2.2.2.1), (lr.2.2.2.2.2.2.2.1), (lr.2.2.2.2.2.2.2.2.1), (lr.2.2.2.2.2.2.2.2.2.1), (lr.2.2.2.2.2.2.2.2.2.2.1), (lr.2.2.2.2.2.2.2.2.2.2.2.1), (lr.2.2.2.2.2.2.2.2.2.2.2.2.1), (lr.2.2.2.2.2.2.2.2.2.2.2.2.2.1), (lr.2.2.2.2.2.2.2.2.2.2.2.2.2.2.1), (lsF_len _), (lr.2.2.2.2.2.2.2.2.2.2.2.2.2.2.2.2.1), (lr.2.2.2.2.2.2.2.2.2.2.2.2.2.2.2.2.2.1), (lr.2.2.2.2.2.2.2.2.2.2.2.2.2.2.2.2.2.2.1), (lr.2.2.2.2.2.2.2.2.2.2.2.2.2.2.2.2.2.2.2.1), (lr.2.2.2.2.2.2.2.2.2.2.2.2.2.2.2.2.2.2.2.2)⟩
      · have er2 : (qR s).toInt = 0 := by rw [er]; rfl
        refine ⟨(-1), (im, lf, s, d, k, ls, rf, rz, ra, rn, rq, lt, m1, m2, m3, m4, bd, (fc.set 1 ((fc.getD 1 0) + (nI 1))), hd, sz, el, s, g, fm, hm, so, si, sh, ce, ca, td, wa, kp, la, bf, oo, bo, pw, ow, tr), (im, lf, s, d, k, ls, rf, rz, ra, rn, rq, lt, m1, m2, m3, m4, bd, (fc.set 1 ((fc.getD 1 0) + (nI 1))), hd, sz, el, s, g, (fm.set 1 ((fm.getD 1 0) + (nI 1))), hm, so, si, sh, ce, ca, td, wa, kp, la, bf, oo, bo, pw, ow, tr), ?_, ?_, ?_⟩
        · show Ev ab_Z0 6 106 [.ref 0, .int (nI a1k), .int a2] (ww im lf s d k ls rf rz ra rn rq lt m1 m2 m3 m4 bd fc hd sz el s g fm hm so si sh ce ca td wa kp la bf oo bo pw ow tr) (some (.int (-1)), (ww im lf s d k ls rf rz ra rn rq lt m1 m2 m3 m4 bd (fc.set 1 ((fc.getD 1 0) + (nI 1))) hd sz el s g fm hm so si sh ce ca td wa kp la bf oo bo pw ow tr))
          refine Ef.in (md := mX5_cast) (L := [some (.ref 0), some (.int (nI a1k)), some (.int a2), none]) rfl (Nat.le_of_ble_eq_true rfl) rfl ?_
          refine E_aload_n at_X5_cast_0 rfl ?_
          refine E_getfield (v := .ref 1) at_X5_cast_1 w0 rfl (by decide) rfl ?_
          refine E_iload_n at_X5_cast_4 rfl ?_
          refine E_callV (v := some (.int (nI 0))) (As := [.ref 1, .int (nI a1k)]) (r0 := []) (cs2 := (ww im lf s d k ls rf rz ra rn rq lt m1 m2 m3 m4 bd fc hd sz el s g fm hm so si sh ce ca td wa kp la bf oo bo pw ow tr)) at_X5_cast_5 rfl rfl (Nat.le_of_ble_eq_true rfl) rfl (ab_rvOf w1 rfl) (L11_X4_isPerson (by omega) (by omega) (by omega) (by omega)) (by decide) rfl ?_
          refine E_if (t := 17) (b := false) at_X5_cast_8 rfl (by decide) ?_
          refine E_aload_n at_X5_cast_11 rfl ?_
          refine E_iconst (x := nI 1) at_X5_cast_12 (by decide) ?_
          refine E_callV (v := some (.int (-1))) (As := [.ref 0, .int (nI 1)]) (r0 := []) (cs2 := (ww im lf s d k ls rf rz ra rn rq lt m1 m2 m3 m4 bd (fc.set 1 ((fc.getD 1 0) + (nI 1))) hd sz el s g fm hm so si sh ce ca td wa kp la bf oo bo pw ow tr)) at_X5_cast_13 rfl rfl (Nat.le_of_ble_eq_true rfl) rfl (ab_rvOf w0 rfl) (L6_X5_refuse (by omega)) (by decide) w_lens ?_
          exact E_iret at_X5_cast_16 rfl
        · show Ev ab_Z0 5 197 [.ref 65, .int (nI a1k), .int a2] (ww im lf s d k ls rf rz ra rn rq lt m1 m2 m3 m4 bd (fc.set 1 ((fc.getD 1 0) + (nI 1))) hd sz el s g fm hm so si sh ce ca td wa kp la bf oo bo pw ow tr) (some (.int (-1)), (ww im lf s d k ls rf rz ra rn rq lt m1 m2 m3 m4 bd (fc.set 1 ((fc.getD 1 0) + (nI 1))) hd sz el s g (fm.set 1 ((fm.getD 1 0) + (nI 1))) hm so si sh ce ca td wa kp la bf oo bo pw ow tr))
          refine Ef.in (md := mX6_cast) (L := [some (.ref 65), some (.int (nI a1k)), some (.int a2), none]) rfl (Nat.le_of_ble_eq_true rfl) rfl ?_
          refine E_aload_n at_X6_cast_0 rfl ?_
          refine E_iload_n at_X6_cast_1 rfl ?_
          refine E_callV (v := some (.int (nI 0))) (As := [.ref 65, .int (nI a1k)]) (r0 := []) (cs2 := (ww im lf s d k ls rf rz ra rn rq lt m1 m2 m3 m4 bd (fc.set 1 ((fc.getD 1 0) + (nI 1))) hd sz el s g fm hm so si sh ce ca td wa kp la bf oo bo pw ow tr)) at_X6_cast_2 rfl rfl (Nat.le_of_ble_eq_true rfl) rfl (ab_rvOf w65 rfl) (L12_X6_isOne (by omega) (by omega) (by omega) (by omega)) (by decide) rfl ?_
          refine E_if (t := 14) (b := false) at_X6_cast_5 rfl (by decide) ?_
          refine E_aload_n at_X6_cast_8 rfl ?_
          refine E_iconst (x := (-1)) at_X6_cast_9 (by decide) ?_
          refine E_callV (v := some (.int (-1))) (As := [.ref 65, .int (-1)]) (r0 := []) (cs2 := (ww im lf s d k ls rf rz ra rn rq lt m1 m2 m3 m4 bd (fc.set 1 ((fc.getD 1 0) + (nI 1))) hd sz el s g (fm.set 1 ((fm.getD 1 0) + (nI 1))) hm so si sh ce ca td wa kp la bf oo bo pw ow tr)) at_X6_cast_10 rfl rfl (Nat.le_of_ble_eq_true rfl) rfl (ab_rvOf w65 rfl) (L8_X6_no (by omega)) (by decide) w_lens ?_
          exact E_iret at_X6_cast_13 rfl
        · exact ⟨I, rfl, hf, iQ, iM, iT, iS, l_el, (lr.1), (lr.2.1), (lr.2.2.1), (by simp only [List.length_set]; exact (lr.2.2.2.1)), (by simp only [List.length_set]; exact (lr.2.2.2.2.1)), (lr.2.2.2.2.2.1), (lr.2.2.2.2.2.2.1), (lr.2.2.2.2.2.2.2.1), (lr.2.2.2.2.2.2.2.2.1), (lr.2.2.2.2.2.2.2.2.2.1), (lr.2.2.2.2.2.2.2.2.2.2.1), (lr.2.2.2.2.2.2.2.2.2.2.2.1), (lr.2.2.2.2.2.2.2.2.2.2.2.2.1), (lr.2.2.2.2.2.2.2.2.2.2.2.2.2.1), (lr.2.2.2.2.2.2.2.2.2.2.2.2.2.2.1), (lr.2.2.2.2.2.2.2.2.2.2.2.2.2.2.2.1), (lr.2.2.2.2.2.2.2.2.2.2.2.2.2.2.2.2.1), (lr.2.2.2.2.2.2.2.2.2.2.2.2.2.2.2.2.2.1), (lr.2.2.2.2.2.2.2.2.2.2.2.2.2.2.2.2.2.2.1), (lr.2.2.2.2.2.2.2.2.2.2.2.2.2.2.2.2.2.2.2.1), (lr.2.2.2.2.2.2.2.2.2.2.2.2.2.2.2.2.2.2.2.2)⟩
    · have er2 : (qR s).toInt = 0 := by rw [er]; rfl
      refine ⟨(-1), (im, lf, s, d, k, ls, rf, rz, ra, rn, rq, lt, m1, m2, m3, m4, bd, (fc.set 1 ((fc.getD 1 0) + (nI 1))), hd, sz, el, s, g, fm, hm, so, si, sh, ce, ca, td, wa, kp, la, bf, oo, bo, pw, ow, tr), (im, lf, s, d, k, ls, rf, rz, ra, rn, rq, lt, m1, m2, m3, m4, bd, (fc.set 1 ((fc.getD 1 0) + (nI 1))), hd, sz, el, s, g, (fm.set 1 ((fm.getD 1 0) + (nI 1))), hm, so, si, sh, ce, ca, td, wa, kp, la, bf, oo, bo, pw, ow, tr), ?_, ?_, ?_⟩
      · show Ev ab_Z0 6 106 [.ref 0, .int a1, .int a2] (ww im lf s d k ls rf rz ra rn rq lt m1 m2 m3 m4 bd fc hd sz el s g fm hm so si sh ce ca td wa kp la bf oo bo pw ow tr) (some (.int (-1)), (ww im lf s d k ls rf rz ra rn rq lt m1 m2 m3 m4 bd (fc.set 1 ((fc.getD 1 0) + (nI 1))) hd sz el s g fm hm so si sh ce ca td wa kp la bf oo bo pw ow tr))
        refine Ef.in (md := mX5_cast) (L := [some (.ref 0), some (.int a1), some (.int a2), none]) rfl (Nat.le_of_ble_eq_true rfl) rfl ?_
        refine E_aload_n at_X5_cast_0 rfl ?_
        refine E_getfield (v := .ref 1) at_X5_cast_1 w0 rfl (by decide) rfl ?_
        refine E_iload_n at_X5_cast_4 rfl ?_
        refine E_callV (v := some (.int (nI 0))) (As := [.ref 1, .int a1]) (r0 := []) (cs2 := (ww im lf s d k ls rf rz ra rn rq lt m1 m2 m3 m4 bd fc hd sz el s g fm hm so si sh ce ca td wa kp la bf oo bo pw ow tr)) at_X5_cast_5 rfl rfl (Nat.le_of_ble_eq_true rfl) rfl (ab_rvOf w1 rfl) (L13_X4_isPerson (by omega) (by omega)) (by decide) rfl ?_
        refine E_if (t := 17) (b := false) at_X5_cast_8 rfl (by decide) ?_
        refine E_aload_n at_X5_cast_11 rfl ?_
        refine E_iconst (x := nI 1) at_X5_cast_12 (by decide) ?_
        refine E_callV (v := some (.int (-1))) (As := [.ref 0, .int (nI 1)]) (r0 := []) (cs2 := (ww im lf s d k ls rf rz ra rn rq lt m1 m2 m3 m4 bd (fc.set 1 ((fc.getD 1 0) + (nI 1))) hd sz el s g fm hm so si sh ce ca td wa kp la bf oo bo pw ow tr)) at_X5_cast_13 rfl rfl (Nat.le_of_ble_eq_true rfl) rfl (ab_rvOf w0 rfl) (L6_X5_refuse (by omega)) (by decide) w_lens ?_
        exact E_iret at_X5_cast_16 rfl
      · show Ev ab_Z0 5 197 [.ref 65, .int a1, .int a2] (ww im lf s d k ls rf rz ra rn rq lt m1 m2 m3 m4 bd (fc.set 1 ((fc.getD 1 0) + (nI 1))) hd sz el s g fm hm so si sh ce ca td wa kp la bf oo bo pw ow tr) (some (.int (-1)), (ww im lf s d k ls rf rz ra rn rq lt m1 m2 m3 m4 bd (fc.set 1 ((fc.getD 1 0) + (nI 1))) hd sz el s g (fm.set 1 ((fm.getD 1 0) + (nI 1))) hm so si sh ce ca td wa kp la bf oo bo pw ow tr))
        refine Ef.in (md := mX6_cast) (L := [some (.ref 65), some (.int a1), some (.int a2), none]) rfl (Nat.le_of_ble_eq_true rfl) rfl ?_
        refine E_aload_n at_X6_cast_0 rfl ?_
        refine E_iload_n at_X6_cast_1 rfl ?_
        refine E_callV (v := some (.int (nI 0))) (As := [.ref 65, .int a1]) (r0 := []) (cs2 := (ww im lf s d k ls rf rz ra rn rq lt m1 m2 m3 m4 bd (fc.set 1 ((fc.getD 1 0) + (nI 1))) hd sz el s g fm hm so si sh ce ca td wa kp la bf oo bo pw ow tr)) at_X6_cast_2 rfl rfl (Nat.le_of_ble_eq_true rfl) rfl (ab_rvOf w65 rfl) (L14_X6_isOne (by omega) (by omega)) (by decide) rfl ?_
        refine E_if (t := 14) (b := false) at_X6_cast_5 rfl (by decide) ?_
        refine E_aload_n at_X6_cast_8 rfl ?_
        refine E_iconst (x := (-1)) at_X6_cast_9 (by decide) ?_
        refine E_callV (v := some (.int (-1))) (As := [.ref 65, .int (-1)]) (r0 := []) (cs2 := (ww im lf s d k ls rf rz ra rn rq lt m1 m2 m3 m4 bd (fc.set 1 ((fc.getD 1 0) + (nI 1))) hd sz el s g (fm.set 1 ((fm.getD 1 0) + (nI 1))) hm so si sh ce ca td wa kp la bf oo bo pw ow tr)) at_X6_cast_10 rfl rfl (Nat.le_of_ble_eq_true rfl) rfl (ab_rvOf w65 rfl) (L8_X6_no (by omega)) (by decide) w_lens ?_
        exact E_iret at_X6_cast_13 rfl
      · exact ⟨I, rfl, hf, iQ, iM, iT, iS, l_el, (lr.1), (lr.2.1), (lr.2.2.1), (by simp only [List.length_set]; exact (lr.2.2.2.1)), (by simp only [List.length_set]; exact (lr.2.2.2.2.1)), (lr.2.2.2.2.2.1), (lr.2.2.2.2.2.2.1), (lr.2.2.2.2.2.2.2.1), (lr.2.2.2.2.2.2.2.2.1), (lr.2.2.2.2.2.2.2.2.2.1), (lr.2.2.2.2.2.2.2.2.2.2.1), (lr.2.2.2.2.2.2.2.2.2.2.2.1), (lr.2.2.2.2.2.2.2.2.2.2.2.2.1), (lr.2.2.2.2.2.2.2.2.2.2.2.2.2.1), (lr.2.2.2.2.2.2.2.2.2.2.2.2.2.2.1), (lr.2.2.2.2.2.2.2.2.2.2.2.2.2.2.2.1), (lr.2.2.2.2.2.2.2.2.2.2.2.2.2.2.2.2.1), (lr.2.2.2.2.2.2.2.2.2.2.2.2.2.2.2.2.2.1), (lr.2.2.2.2.2.2.2.2.2.2.2.2.2.2.2.2.2.2.1), (lr.2.2.2.2.2.2.2.2.2.2.2.2.2.2.2.2.2.2.2.1), (lr.2.2.2.2.2.2.2.2.2.2.2.2.2.2.2.2.2.2.2.2)⟩
  · rcases ab_int a1 with ⟨a1k, f1, rfl⟩ | f1
    · by_cases f2 : a1k < (qM s)
      · rcases ab_int a2 with ⟨a2k, f3, rfl⟩ | f3
        · by_cases f4 : ((qU s).getD a1k 0) < a2k
          · by_cases f5 : 99 < a2k
            · have er2 : (qR s).toInt = 1 := by rw [er]; rfl
              have := I2 a1k (by omega)
              have := qPs_in s 99 (i := qN s) (by omega)
              refine ⟨(-6), (im, lf, s, d, k, ls, rf, rz, ra, rn, rq, lt, m1, m2, m3, m4, bd, (fc.set 6 ((fc.getD 6 0) + (nI 1))), hd, sz, el, s, g, fm, hm, so, si, sh, ce, ca, td, wa, kp, la, bf, oo, bo, pw, ow, tr), (im, lf, s, d, k, ls, rf, rz, ra, rn, rq, lt, m1, m2, m3, m4, bd, (fc.set 6 ((fc.getD 6 0) + (nI 1))), hd, sz, el, s, g, (fm.set 6 ((fm.getD 6 0) + (nI 1))), hm, so, si, sh, ce, ca, td, wa, kp, la, (lsF (bst s (qPs s 99 (qN s)) (qN s) (2 ^ qN s))), oo, bo, pw, ow, tr), ?_, ?_, ?_⟩
              · show Ev ab_Z0 6 106 [.ref 0, .int (nI a1k), .int (nI a2k)] (ww im lf s d k ls rf rz ra rn rq lt m1 m2 m3 m4 bd fc hd sz el s g fm hm so si sh ce ca td wa kp la bf oo bo pw ow tr) (some (.int (-6)), (ww im lf s d k ls rf rz ra rn rq lt m1 m2 m3 m4 bd (fc.set 6 ((fc.getD 6 0) + (nI 1))) hd sz el s g fm hm so si sh ce ca td wa kp la bf oo bo pw ow tr))
                refine Ef.in (md := mX5_cast) (L := [some (.ref 0), some (.int (nI a1k)), some (.int (nI a2k)), none]) rfl (Nat.le_of_ble_eq_true rfl) rfl ?_
                refine E_aload_n at_X5_cast_0 rfl ?_
                refine E_getfield (v := .ref 1) at_X5_cast_1 w0 rfl (by decide) rfl ?_
                refine E_iload_n at_X5_cast_4 rfl ?_
                refine E_callV (v := some (.int (nI 1))) (As := [.ref 1, .int (nI a1k)]) (r0 := []) (cs2 := (ww im lf s d k ls rf rz ra rn rq lt m1 m2 m3 m4 bd fc hd sz el s g fm hm so si sh ce ca td wa kp la bf oo bo pw ow tr)) at_X5_cast_5 rfl rfl (Nat.le_of_ble_eq_true rfl) rfl (ab_rvOf w1 rfl) (L0_X4_isPerson (by omega) (by omega) (by omega) (by omega)) (by decide) rfl ?_
                refine E_if (t := 17) (b := true) at_X5_cast_8 rfl (by decide) ?_
                refine E_aload_n at_X5_cast_17 rfl ?_
                refine E_aload_n at_X5_cast_18 rfl ?_
                refine E_getfield (v := .ref 1) at_X5_cast_19 w0 rfl (by decide) rfl ?_
                refine E_iload_n at_X5_cast_22 rfl ?_
                refine E_iload_n at_X5_cast_23 rfl ?_
                have e1 : Ev ab_Z0 2 122 [.ref 0, .ref 1, .int (nI a1k), .int (nI a2k)] (ww im lf s d k ls rf rz ra rn rq lt m1 m2 m3 m4 bd fc hd sz el s g fm hm so si sh ce ca td wa kp la bf oo bo pw ow tr) (some (.int (-1)), (ww im lf s d k ls rf rz ra rn rq lt m1 m2 m3 m4 bd fc hd sz el s g fm hm so si sh ce ca td wa kp la bf oo bo pw ow tr)) := by
                  refine Ef.in (md := mX5_throwBy) (L := [some (.ref 0), some (.ref 1), some (.int (nI a1k)), some (.int (nI a2k)), none]) rfl (Nat.le_of_ble_eq_true rfl) rfl ?_
                  refine E_aload_n at_X5_throwBy_0 rfl ?_
                  refine E_iload_n at_X5_throwBy_1 rfl ?_
                  refine E_callV (v := some (.int (nI 1))) (As := [.ref 1, .int (nI a1k)]) (r0 := []) (cs2 := (ww im lf s d k ls rf rz ra rn rq lt m1 m2 m3 m4 bd fc hd sz el s g fm hm so si sh ce ca td wa kp la bf oo bo pw ow tr)) at_X5_throwBy_2 rfl rfl (Nat.le_of_ble_eq_true rfl) rfl (ab_rvOf w1 rfl) (L0_X4_isPerson (by omega) (by omega) (by omega) (by omega)) (by decide) rfl ?_
                  refine E_if (t := 18) (b := false) at_X5_throwBy_5 rfl (by decide) ?_
                  refine E_iload_n at_X5_throwBy_8 rfl ?_
                  refine E_aload_n at_X5_throwBy_9 rfl ?_
                  refine E_getfield (v := .ref 6) at_X5_throwBy_10 w1 rfl (by decide) rfl ?_
                  refine E_iload_n at_X5_throwBy_13 rfl ?_
                  refine E_ialN (l := qU s) (v := (qU s).getD a1k 0) at_X5_throwBy_14 w6 (by omega) (by omega) rfl ?_
                  refine E_ic (t := 20) (b := false) at_X5_throwBy_15 rfl ((cn_le (nI_toInt (by omega)) (nI_toInt (by omega))).trans (decide_eq_false (by omega))) ?_
                  refine E_iconst (x := (-1)) at_X5_throwBy_18 (by decide) ?_
                  exact E_iret at_X5_throwBy_19 rfl
                refine E_callV (v := some (.int (-1))) (As := [.ref 0, .ref 1, .int (nI a1k), .int (nI a2k)]) (r0 := []) (cs2 := (ww im lf s d k ls rf rz ra rn rq lt m1 m2 m3 m4 bd fc hd sz el s g fm hm so si sh ce ca td wa kp la bf oo bo pw ow tr)) at_X5_cast_24 rfl rfl (Nat.le_of_ble_eq_true rfl) rfl (ab_rvOf w0 rfl) e1 (by decide) rfl ?_
                refine E_istore_n (L2 := [some (.ref 0), some (.int (nI a1k)), some (.int (nI a2k)), some (.int (-1))]) at_X5_cast_27 rfl ?_
                refine E_iload_n at_X5_cast_28 rfl ?_
                refine E_iconst (x := (-1)) at_X5_cast_29 (by decide) ?_
                refine E_ic (t := 40) (b := false) at_X5_cast_30 rfl (by decide) ?_
                refine E_aload_n at_X5_cast_33 rfl ?_
                refine E_bipush (x := nI 6) at_X5_cast_34 (by decide) ?_
                refine E_callV (v := some (.int (-6))) (As := [.ref 0, .int (nI 6)]) (r0 := []) (cs2 := (ww im lf s d k ls rf rz ra rn rq lt m1 m2 m3 m4 bd (fc.set 6 ((fc.getD 6 0) + (nI 1))) hd sz el s g fm hm so si sh ce ca td wa kp la bf oo bo pw ow tr)) at_X5_cast_36 rfl rfl (Nat.le_of_ble_eq_true rfl) rfl (ab_rvOf w0 rfl) (L26_X5_refuse (by omega)) (by decide) w_lens ?_
                exact E_iret at_X5_cast_39 rfl
              · show Ev ab_Z0 5 197 [.ref 65, .int (nI a1k), .int (nI a2k)] (ww im lf s d k ls rf rz ra rn rq lt m1 m2 m3 m4 bd (fc.set 6 ((fc.getD 6 0) + (nI 1))) hd sz el s g fm hm so si sh ce ca td wa kp la bf oo bo pw ow tr) (some (.int (-6)), (ww im lf s d k ls rf rz ra rn rq lt m1 m2 m3 m4 bd (fc.set 6 ((fc.getD 6 0) + (nI 1))) hd sz el s g (fm.set 6 ((fm.getD 6 0) + (nI 1))) hm so si sh ce ca td wa kp la (lsF (bst s (qPs s 99 (qN s)) (qN s) (2 ^ qN s))) oo bo pw ow tr))
                refine Ef.in (md := mX6_cast) (L := [some (.ref 65), some (.int (nI a1k)), some (.int (nI a2k)), none]) rfl (Nat.le_of_ble_eq_true rfl) rfl ?_
                refine E_aload_n at_X6_cast_0 rfl ?_
                refine E_iload_n at_X6_cast_1 rfl ?_
                refine E_callV (v := some (.int (nI 1))) (As := [.ref 65, .int (nI a1k)]) (r0 := []) (cs2 := (ww im lf s d k ls rf rz ra rn rq lt m1 m2 m3 m4 bd (fc.set 6 ((fc.getD 6 0) + (nI 1))) hd sz el s g fm hm so si sh ce ca td wa kp la bf oo bo pw ow tr)) at_X6_cast_2 rfl rfl (Nat.le_of_ble_eq_true rfl) rfl (ab_rvOf w65 rfl) (L2_X6_isOne (by omega) (by omega) (by omega) (by omega)) (by decide) rfl ?_
                refine E_if (t := 14) (b := true) at_X6_cast_5 rfl (by decide) ?_
                refine E_aload_n at_X6_cast_14 rfl ?_
                refine E_aload_n at_X6_cast_15 rfl ?_
                refine E_bipush (x := nI 99) at_X6_cast_16 (by decide) ?_
                refine E_callV (v := some (.int (nI (qPs s 99 (qN s))))) (As := [.ref 65, .int (nI 99)]) (r0 := [.ref 65]) (cs2 := (ww im lf s d k ls rf rz ra rn rq lt m1 m2 m3 m4 bd (fc.set 6 ((fc.getD 6 0) + (nI 1))) hd sz el s g fm hm so si sh ce ca td wa kp la bf oo bo pw ow tr)) at_X6_cast_18 rfl rfl (Nat.le_of_ble_eq_true rfl) rfl (ab_rvOf w65 rfl) (mo_piecesOf w_m I (by omega)) (by decide) rfl ?_
                refine E_callV (v := none) (As := [.ref 65, .int (nI (qPs s 99 (qN s)))]) (r0 := []) (cs2 := (ww im lf s d k ls rf rz ra rn rq lt m1 m2 m3 m4 bd (fc.set 6 ((fc.getD 6 0) + (nI 1))) hd sz el s g fm hm so si sh ce ca td wa kp la (lsF (bst s (qPs s 99 (qN s)) (qN s) (2 ^ qN s))) oo bo pw ow tr)) at_X6_cast_21 rfl rfl (Nat.le_of_ble_eq_true rfl) rfl (ab_rvOf w65 rfl) (w_best (m := qPs s 99 (qN s)) I (by omega) (lr.2.2.2.2.2.2.2.2.2.2.2.2.2.2.2.1)) (by decide) w_lens ?_
                refine E_aload_n at_X6_cast_24 rfl ?_
                refine E_iload_n at_X6_cast_25 rfl ?_
                refine E_iconst (x := nI 0) at_X6_cast_26 (by decide) ?_
                refine E_bipush (x := nI 99) at_X6_cast_27 (by decide) ?_
                refine E_callV (v := some (.int (nI 0))) (As := [.ref 65, .int (nI a2k), .int (nI 0), .int (nI 99)]) (r0 := []) (cs2 := (ww im lf s d k ls rf rz ra rn rq lt m1 m2 m3 m4 bd (fc.set 6 ((fc.getD 6 0) + (nI 1))) hd sz el s g fm hm so si sh ce ca td wa kp la (lsF (bst s (qPs s 99 (qN s)) (qN s) (2 ^ qN s))) oo bo pw ow tr)) at_X6_cast_29 rfl rfl (Nat.le_of_ble_eq_true rfl) rfl (ab_rvOf w65 rfl) (L83_X6_isFrom (by omega) (by omega) (by omega)) (by decide) rfl ?_
                refine E_if (t := 44) (b := true) at_X6_cast_32 rfl (by decide) ?_
                refine E_iconst (x := (-1)) at_X6_cast_44 (by decide) ?_
                refine E_istore_n (L2 := [some (.ref 65), some (.int (nI a1k)), some (.int (nI a2k)), some (.int (-1))]) at_X6_cast_45 rfl ?_
                refine E_iload_n at_X6_cast_46 rfl ?_
                refine E_iconst (x := (-1)) at_X6_cast_47 (by decide) ?_
                refine E_ic (t := 58) (b := false) at_X6_cast_48 rfl (by decide) ?_
                refine E_aload_n at_X6_cast_51 rfl ?_
                refine E_bipush (x := (-6)) at_X6_cast_52 (by decide) ?_
                refine E_callV (v := some (.int (-6))) (As := [.ref 65, .int (-6)]) (r0 := []) (cs2 := (ww im lf s d k ls rf rz ra rn rq lt m1 m2 m3 m4 bd (fc.set 6 ((fc.getD 6 0) + (nI 1))) hd sz el s g (fm.set 6 ((fm.getD 6 0) + (nI 1))) hm so si sh ce ca td wa kp la (lsF (bst s (qPs s 99 (qN s)) (qN s) (2 ^ qN s))) oo bo pw ow tr)) at_X6_cast_54 rfl rfl (Nat.le_of_ble_eq_true rfl) rfl (ab_rvOf w65 rfl) (L28_X6_no (by omega)) (by decide) w_lens ?_
                exact E_iret at_X6_cast_57 rfl
              · exact ⟨I, rfl, hf, iQ, iM, iT, iS, l_el, (lr.1), (lr.2.1), (lr.2.2.1), (by simp only [List.length_set]; exact (lr.2.2.2.1)), (by simp only [List.length_set]; exact (lr.2.2.2.2.1)), (lr.2.2.2.2.2.1), (lr.2.2.2.2.2.2.1), (lr.2.2.2.2.2.2.2.1), (lr.2.2.2.2.2.2.2.2.1), (lr.2.2.2.2.2.2.2.2.2.1), (lr.2.2.2.2.2.2.2.2.2.2.1), (lr.2.2.2.2.2.2.2.2.2.2.2.1), (lr.2.2.2.2.2.2.2.2.2.2.2.2.1), (lr.2.2.2.2.2.2.2.2.2.2.2.2.2.1), (lr.2.2.2.2.2.2.2.2.2.2.2.2.2.2.1), (lsF_len _), (lr.2.2.2.2.2.2.2.2.2.2.2.2.2.2.2.2.1), (lr.2.2.2.2.2.2.2.2.2.2.2.2.2.2.2.2.2.1), (lr.2.2.2.2.2.2.2.2.2.2.2.2.2.2.2.2.2.2.1), (lr.2.2.2.2.2.2.2.2.2.2.2.2.2.2.2.2.2.2.2.1), (lr.2.2.2.2.2.2.2.2.2.2.2.2.2.2.2.2.2.2.2.2)⟩
            · have er2 : (qR s).toInt = 1 := by rw [er]; rfl
              have := I2 a1k (by omega)
              have := qPs_in s 99 (i := qN s) (by omega)
              have := qPr_in I a1k (w := ((qW s).getD a1k 0)) (by omega)
              refine ⟨(-6), (im, lf, s, d, k, ls, rf, rz, ra, rn, rq, lt, m1, m2, m3, m4, bd, (fc.set 6 ((fc.getD 6 0) + (nI 1))), hd, sz, el, s, g, fm, hm, so, si, sh, ce, ca, td, wa, kp, la, bf, oo, bo, pw, ow, tr), (im, lf, s, d, k, ls, rf, rz, ra, rn, rq, lt, m1, m2, m3, m4, bd, (fc.set 6 ((fc.getD 6 0) + (nI 1))), hd, sz, el, s, g, (fm.set 6 ((fm.getD 6 0) + (nI 1))), hm, so, si, sh, ce, ca, td, wa, kp, la, (lsF (bst s (qPs s 99 (qN s)) (qN s) (2 ^ qN s))), oo, bo, pw, ow, tr), ?_, ?_, ?_⟩
              · show Ev ab_Z0 6 106 [.ref 0, .int (nI a1k), .int (nI a2k)] (ww im lf s d k ls rf rz ra rn rq lt m1 m2 m3 m4 bd fc hd sz el s g fm hm so si sh ce ca td wa kp la bf oo bo pw ow tr) (some (.int (-6)), (ww im lf s d k ls rf rz ra rn rq lt m1 m2 m3 m4 bd (fc.set 6 ((fc.getD 6 0) + (nI 1))) hd sz el s g fm hm so si sh ce ca td wa kp la bf oo bo pw ow tr))
                refine Ef.in (md := mX5_cast) (L := [some (.ref 0), some (.int (nI a1k)), some (.int (nI a2k)), none]) rfl (Nat.le_of_ble_eq_true rfl) rfl ?_
                refine E_aload_n at_X5_cast_0 rfl ?_
                refine E_getfield (v := .ref 1) at_X5_cast_1 w0 rfl (by decide) rfl ?_
                refine E_iload_n at_X5_cast_4 rfl ?_
                refine E_callV (v := some (.int (nI 1))) (As := [.ref 1, .int (nI a1k)]) (r0 := []) (cs2 := (ww im lf s d k ls rf rz ra rn rq lt m1 m2 m3 m4 bd fc hd sz el s g fm hm so si sh ce ca td wa kp la bf oo bo pw ow tr)) at_X5_cast_5 rfl rfl (Nat.le_of_ble_eq_true rfl) rfl (ab_rvOf w1 rfl) (L0_X4_isPerson (by omega) (by omega) (by omega) (by omega)) (by decide) rfl ?_
                refine E_if (t := 17) (b := true) at_X5_cast_8 rfl (by decide) ?_
                refine E_aload_n at_X5_cast_17 rfl ?_
                refine E_aload_n at_X5_cast_18 rfl ?_
                refine E_getfield (v := .ref 1) at_X5_cast_19 w0 rfl (by decide) rfl ?_
                refine E_iload_n at_X5_cast_22 rfl ?_
                refine E_iload_n at_X5_cast_23 rfl ?_
                have e1 : Ev ab_Z0 2 122 [.ref 0, .ref 1, .int (nI a1k), .int (nI a2k)] (ww im lf s d k ls rf rz ra rn rq lt m1 m2 m3 m4 bd fc hd sz el s g fm hm so si sh ce ca td wa kp la bf oo bo pw ow tr) (some (.int (-1)), (ww im lf s d k ls rf rz ra rn rq lt m1 m2 m3 m4 bd fc hd sz el s g fm hm so si sh ce ca td wa kp la bf oo bo pw ow tr)) := by
                  refine Ef.in (md := mX5_throwBy) (L := [some (.ref 0), some (.ref 1), some (.int (nI a1k)), some (.int (nI a2k)), none]) rfl (Nat.le_of_ble_eq_true rfl) rfl ?_
                  refine E_aload_n at_X5_throwBy_0 rfl ?_
                  refine E_iload_n at_X5_throwBy_1 rfl ?_
                  refine E_callV (v := some (.int (nI 1))) (As := [.ref 1, .int (nI a1k)]) (r0 := []) (cs2 := (ww im lf s d k ls rf rz ra rn rq lt m1 m2 m3 m4 bd fc hd sz el s g fm hm so si sh ce ca td wa kp la bf oo bo pw ow tr)) at_X5_throwBy_2 rfl rfl (Nat.le_of_ble_eq_true rfl) rfl (ab_rvOf w1 rfl) (L0_X4_isPerson (by omega) (by omega) (by omega) (by omega)) (by decide) rfl ?_
                  refine E_if (t := 18) (b := false) at_X5_throwBy_5 rfl (by decide) ?_
                  refine E_iload_n at_X5_throwBy_8 rfl ?_
                  refine E_aload_n at_X5_throwBy_9 rfl ?_
                  refine E_getfield (v := .ref 6) at_X5_throwBy_10 w1 rfl (by decide) rfl ?_
                  refine E_iload_n at_X5_throwBy_13 rfl ?_
                  refine E_ialN (l := qU s) (v := (qU s).getD a1k 0) at_X5_throwBy_14 w6 (by omega) (by omega) rfl ?_
                  refine E_ic (t := 20) (b := false) at_X5_throwBy_15 rfl ((cn_le (nI_toInt (by omega)) (nI_toInt (by omega))).trans (decide_eq_false (by omega))) ?_
                  refine E_iconst (x := (-1)) at_X5_throwBy_18 (by decide) ?_
                  exact E_iret at_X5_throwBy_19 rfl
                refine E_callV (v := some (.int (-1))) (As := [.ref 0, .ref 1, .int (nI a1k), .int (nI a2k)]) (r0 := []) (cs2 := (ww im lf s d k ls rf rz ra rn rq lt m1 m2 m3 m4 bd fc hd sz el s g fm hm so si sh ce ca td wa kp la bf oo bo pw ow tr)) at_X5_cast_24 rfl rfl (Nat.le_of_ble_eq_true rfl) rfl (ab_rvOf w0 rfl) e1 (by decide) rfl ?_
                refine E_istore_n (L2 := [some (.ref 0), some (.int (nI a1k)), some (.int (nI a2k)), some (.int (-1))]) at_X5_cast_27 rfl ?_
                refine E_iload_n at_X5_cast_28 rfl ?_
                refine E_iconst (x := (-1)) at_X5_cast_29 (by decide) ?_
                refine E_ic (t := 40) (b := false) at_X5_cast_30 rfl (by decide) ?_
                refine E_aload_n at_X5_cast_33 rfl ?_
                refine E_bipush (x := nI 6) at_X5_cast_34 (by decide) ?_
                refine E_callV (v := some (.int (-6))) (As := [.ref 0, .int (nI 6)]) (r0 := []) (cs2 := (ww im lf s d k ls rf rz ra rn rq lt m1 m2 m3 m4 bd (fc.set 6 ((fc.getD 6 0) + (nI 1))) hd sz el s g fm hm so si sh ce ca td wa kp la bf oo bo pw ow tr)) at_X5_cast_36 rfl rfl (Nat.le_of_ble_eq_true rfl) rfl (ab_rvOf w0 rfl) (L26_X5_refuse (by omega)) (by decide) w_lens ?_
                exact E_iret at_X5_cast_39 rfl
              · show Ev ab_Z0 5 197 [.ref 65, .int (nI a1k), .int (nI a2k)] (ww im lf s d k ls rf rz ra rn rq lt m1 m2 m3 m4 bd (fc.set 6 ((fc.getD 6 0) + (nI 1))) hd sz el s g fm hm so si sh ce ca td wa kp la bf oo bo pw ow tr) (some (.int (-6)), (ww im lf s d k ls rf rz ra rn rq lt m1 m2 m3 m4 bd (fc.set 6 ((fc.getD 6 0) + (nI 1))) hd sz el s g (fm.set 6 ((fm.getD 6 0) + (nI 1))) hm so si sh ce ca td wa kp la (lsF (bst s (qPs s 99 (qN s)) (qN s) (2 ^ qN s))) oo bo pw ow tr))
                refine Ef.in (md := mX6_cast) (L := [some (.ref 65), some (.int (nI a1k)), some (.int (nI a2k)), none]) rfl (Nat.le_of_ble_eq_true rfl) rfl ?_
                refine E_aload_n at_X6_cast_0 rfl ?_
                refine E_iload_n at_X6_cast_1 rfl ?_
                refine E_callV (v := some (.int (nI 1))) (As := [.ref 65, .int (nI a1k)]) (r0 := []) (cs2 := (ww im lf s d k ls rf rz ra rn rq lt m1 m2 m3 m4 bd (fc.set 6 ((fc.getD 6 0) + (nI 1))) hd sz el s g fm hm so si sh ce ca td wa kp la bf oo bo pw ow tr)) at_X6_cast_2 rfl rfl (Nat.le_of_ble_eq_true rfl) rfl (ab_rvOf w65 rfl) (L2_X6_isOne (by omega) (by omega) (by omega) (by omega)) (by decide) rfl ?_
                refine E_if (t := 14) (b := true) at_X6_cast_5 rfl (by decide) ?_
                refine E_aload_n at_X6_cast_14 rfl ?_
                refine E_aload_n at_X6_cast_15 rfl ?_
                refine E_bipush (x := nI 99) at_X6_cast_16 (by decide) ?_
                refine E_callV (v := some (.int (nI (qPs s 99 (qN s))))) (As := [.ref 65, .int (nI 99)]) (r0 := [.ref 65]) (cs2 := (ww im lf s d k ls rf rz ra rn rq lt m1 m2 m3 m4 bd (fc.set 6 ((fc.getD 6 0) + (nI 1))) hd sz el s g fm hm so si sh ce ca td wa kp la bf oo bo pw ow tr)) at_X6_cast_18 rfl rfl (Nat.le_of_ble_eq_true rfl) rfl (ab_rvOf w65 rfl) (mo_piecesOf w_m I (by omega)) (by decide) rfl ?_
                refine E_callV (v := none) (As := [.ref 65, .int (nI (qPs s 99 (qN s)))]) (r0 := []) (cs2 := (ww im lf s d k ls rf rz ra rn rq lt m1 m2 m3 m4 bd (fc.set 6 ((fc.getD 6 0) + (nI 1))) hd sz el s g fm hm so si sh ce ca td wa kp la (lsF (bst s (qPs s 99 (qN s)) (qN s) (2 ^ qN s))) oo bo pw ow tr)) at_X6_cast_21 rfl rfl (Nat.le_of_ble_eq_true rfl) rfl (ab_rvOf w65 rfl) (w_best (m := qPs s 99 (qN s)) I (by omega) (lr.2.2.2.2.2.2.2.2.2.2.2.2.2.2.2.1)) (by decide) w_lens ?_
                refine E_aload_n at_X6_cast_24 rfl ?_
                refine E_iload_n at_X6_cast_25 rfl ?_
                refine E_iconst (x := nI 0) at_X6_cast_26 (by decide) ?_
                refine E_bipush (x := nI 99) at_X6_cast_27 (by decide) ?_
                refine E_callV (v := some (.int (nI 1))) (As := [.ref 65, .int (nI a2k), .int (nI 0), .int (nI 99)]) (r0 := []) (cs2 := (ww im lf s d k ls rf rz ra rn rq lt m1 m2 m3 m4 bd (fc.set 6 ((fc.getD 6 0) + (nI 1))) hd sz el s g fm hm so si sh ce ca td wa kp la (lsF (bst s (qPs s 99 (qN s)) (qN s) (2 ^ qN s))) oo bo pw ow tr)) at_X6_cast_29 rfl rfl (Nat.le_of_ble_eq_true rfl) rfl (ab_rvOf w65 rfl) (L85_X6_isFrom (by omega) (by omega) (by omega)) (by decide) rfl ?_
                refine E_if (t := 44) (b := false) at_X6_cast_32 rfl (by decide) ?_
                refine E_aload_n at_X6_cast_35 rfl ?_
                refine E_iload_n at_X6_cast_36 rfl ?_
                refine E_iload_n at_X6_cast_37 rfl ?_
                have e2 : Ev ab_Z0 2 176 [.ref 65, .int (nI a1k), .int (nI a2k)] (ww im lf s d k ls rf rz ra rn rq lt m1 m2 m3 m4 bd (fc.set 6 ((fc.getD 6 0) + (nI 1))) hd sz el s g fm hm so si sh ce ca td wa kp la (lsF (bst s (qPs s 99 (qN s)) (qN s) (2 ^ qN s))) oo bo pw ow tr) (some (.int (-1)), (ww im lf s d k ls rf rz ra rn rq lt m1 m2 m3 m4 bd (fc.set 6 ((fc.getD 6 0) + (nI 1))) hd sz el s g fm hm so si sh ce ca td wa kp la (lsF (bst s (qPs s 99 (qN s)) (qN s) (2 ^ qN s))) oo bo pw ow tr)) := by
                  refine Ef.in (md := mX6_thrown) (L := [some (.ref 65), some (.int (nI a1k)), some (.int (nI a2k)), none]) rfl (Nat.le_of_ble_eq_true rfl) rfl ?_
                  refine E_iload_n at_X6_thrown_0 rfl ?_
                  refine E_aload_n at_X6_thrown_1 rfl ?_
                  refine E_iload_n at_X6_thrown_2 rfl ?_
                  refine E_aload_n at_X6_thrown_3 rfl ?_
                  refine E_getfield (v := .ref 73) at_X6_thrown_4 w65 rfl (by decide) rfl ?_
                  refine E_iload_n at_X6_thrown_7 rfl ?_
                  refine E_ialN (l := qW s) (v := (qW s).getD a1k 0) at_X6_thrown_8 w73 (by omega) (by omega) rfl ?_
                  refine E_callV (v := some (.int (nI (qPr s a1k ((qW s).getD a1k 0))))) (As := [.ref 65, .int (nI a1k), .int (nI ((qW s).getD a1k 0))]) (r0 := [.int (nI a2k)]) (cs2 := (ww im lf s d k ls rf rz ra rn rq lt m1 m2 m3 m4 bd (fc.set 6 ((fc.getD 6 0) + (nI 1))) hd sz el s g fm hm so si sh ce ca td wa kp la (lsF (bst s (qPs s 99 (qN s)) (qN s) (2 ^ qN s))) oo bo pw ow tr)) at_X6_thrown_9 rfl rfl (Nat.le_of_ble_eq_true rfl) rfl (ab_rvOf w65 rfl) (mo_priceFor w_m I (by omega) (by omega)) (by decide) rfl ?_
                  refine E_isub (z := nI a2k - nI (qPr s a1k ((qW s).getD a1k 0))) at_X6_thrown_12 rfl ?_
                  refine E_istore_n (L2 := [some (.ref 65), some (.int (nI a1k)), some (.int (nI a2k)), some (.int (nI a2k - nI (qPr s a1k ((qW s).getD a1k 0))))]) at_X6_thrown_13 rfl ?_
                  refine E_aload_n at_X6_thrown_14 rfl ?_
                  refine E_iload_n at_X6_thrown_15 rfl ?_
                  refine E_iconst (x := nI 0) at_X6_thrown_16 (by decide) ?_
                  refine E_bipush (x := nI 99) at_X6_thrown_17 (by decide) ?_
                  refine E_callV (v := some (.int (nI 1))) (As := [.ref 65, .int (nI a2k), .int (nI 0), .int (nI 99)]) (r0 := []) (cs2 := (ww im lf s d k ls rf rz ra rn rq lt m1 m2 m3 m4 bd (fc.set 6 ((fc.getD 6 0) + (nI 1))) hd sz el s g fm hm so si sh ce ca td wa kp la (lsF (bst s (qPs s 99 (qN s)) (qN s) (2 ^ qN s))) oo bo pw ow tr)) at_X6_thrown_19 rfl rfl (Nat.le_of_ble_eq_true rfl) rfl (ab_rvOf w65 rfl) (L85_X6_isFrom (by omega) (by omega) (by omega)) (by decide) rfl ?_
                  refine E_if (t := 39) (b := false) at_X6_thrown_22 rfl (by decide) ?_
                  refine E_iload_n at_X6_thrown_25 rfl ?_
                  refine E_aload_n at_X6_thrown_26 rfl ?_
                  refine E_getfield (v := .ref 71) at_X6_thrown_27 w65 rfl (by decide) rfl ?_
                  refine E_iload_n at_X6_thrown_30 rfl ?_
                  refine E_ialN (l := qU s) (v := (qU s).getD a1k 0) at_X6_thrown_31 w71 (by omega) (by omega) rfl ?_
                  refine E_ic (t := 39) (b := true) at_X6_thrown_32 rfl ((cn_gt (nI_toInt (by omega)) (nI_toInt (by omega))).trans (decide_eq_true (by omega))) ?_
                  refine E_iconst (x := (-1)) at_X6_thrown_39 (by decide) ?_
                  refine E_goto (t := 48) at_X6_thrown_40 rfl ?_
                  exact E_iret at_X6_thrown_48 rfl
                refine E_callV (v := some (.int (-1))) (As := [.ref 65, .int (nI a1k), .int (nI a2k)]) (r0 := []) (cs2 := (ww im lf s d k ls rf rz ra rn rq lt m1 m2 m3 m4 bd (fc.set 6 ((fc.getD 6 0) + (nI 1))) hd sz el s g fm hm so si sh ce ca td wa kp la (lsF (bst s (qPs s 99 (qN s)) (qN s) (2 ^ qN s))) oo bo pw ow tr)) at_X6_cast_38 rfl rfl (Nat.le_of_ble_eq_true rfl) rfl (ab_rvOf w65 rfl) e2 (by decide) rfl ?_
                refine E_goto (t := 45) at_X6_cast_41 rfl ?_
                refine E_istore_n (L2 := [some (.ref 65), some (.int (nI a1k)), some (.int (nI a2k)), some (.int (-1))]) at_X6_cast_45 rfl ?_
                refine E_iload_n at_X6_cast_46 rfl ?_
                refine E_iconst (x := (-1)) at_X6_cast_47 (by decide) ?_
                refine E_ic (t := 58) (b := false) at_X6_cast_48 rfl (by decide) ?_
                refine E_aload_n at_X6_cast_51 rfl ?_
                refine E_bipush (x := (-6)) at_X6_cast_52 (by decide) ?_
                refine E_callV (v := some (.int (-6))) (As := [.ref 65, .int (-6)]) (r0 := []) (cs2 := (ww im lf s d k ls rf rz ra rn rq lt m1 m2 m3 m4 bd (fc.set 6 ((fc.getD 6 0) + (nI 1))) hd sz el s g (fm.set 6 ((fm.getD 6 0) + (nI 1))) hm so si sh ce ca td wa kp la (lsF (bst s (qPs s 99 (qN s)) (qN s) (2 ^ qN s))) oo bo pw ow tr)) at_X6_cast_54 rfl rfl (Nat.le_of_ble_eq_true rfl) rfl (ab_rvOf w65 rfl) (L28_X6_no (by omega)) (by decide) w_lens ?_
                exact E_iret at_X6_cast_57 rfl
              · exact ⟨I, rfl, hf, iQ, iM, iT, iS, l_el, (lr.1), (lr.2.1), (lr.2.2.1), (by simp only [List.length_set]; exact (lr.2.2.2.1)), (by simp only [List.length_set]; exact (lr.2.2.2.2.1)), (lr.2.2.2.2.2.1), (lr.2.2.2.2.2.2.1), (lr.2.2.2.2.2.2.2.1), (lr.2.2.2.2.2.2.2.2.1), (lr.2.2.2.2.2.2.2.2.2.1), (lr.2.2.2.2.2.2.2.2.2.2.1), (lr.2.2.2.2.2.2.2.2.2.2.2.1), (lr.2.2.2.2.2.2.2.2.2.2.2.2.1), (lr.2.2.2.2.2.2.2.2.2.2.2.2.2.1), (lr.2.2.2.2.2.2.2.2.2.2.2.2.2.2.1), (lsF_len _), (lr.2.2.2.2.2.2.2.2.2.2.2.2.2.2.2.2.1), (lr.2.2.2.2.2.2.2.2.2.2.2.2.2.2.2.2.2.1), (lr.2.2.2.2.2.2.2.2.2.2.2.2.2.2.2.2.2.2.1), (lr.2.2.2.2.2.2.2.2.2.2.2.2.2.2.2.2.2.2.2.1), (lr.2.2.2.2.2.2.2.2.2.2.2.2.2.2.2.2.2.2.2.2)⟩
          · by_cases f5 : a2k < (qPr s a1k ((qW s).getD a1k 0))
            · have er2 : (qR s).toInt = 1 := by rw [er]; rfl
              have := I2 a1k (by omega)
              have := qPr_in I a1k (w := ((qW s).getD a1k 0)) (by omega)
              have := qPs_in s 99 (i := qN s) (by omega)
              refine ⟨(-6), (im, lf, s, d, k, ls, rf, rz, ra, rn, rq, lt, m1, m2, m3, m4, bd, (fc.set 6 ((fc.getD 6 0) + (nI 1))), hd, sz, el, s, g, fm, hm, so, si, sh, ce, ca, td, wa, kp, la, bf, oo, bo, pw, ow, tr), (im, lf, s, d, k, ls, rf, rz, ra, rn, rq, lt, m1, m2, m3, m4, bd, (fc.set 6 ((fc.getD 6 0) + (nI 1))), hd, sz, el, s, g, (fm.set 6 ((fm.getD 6 0) + (nI 1))), hm, so, si, sh, ce, ca, td, wa, kp, la, (lsF (bst s (qPs s 99 (qN s)) (qN s) (2 ^ qN s))), oo, bo, pw, ow, tr), ?_, ?_, ?_⟩
              · show Ev ab_Z0 6 106 [.ref 0, .int (nI a1k), .int (nI a2k)] (ww im lf s d k ls rf rz ra rn rq lt m1 m2 m3 m4 bd fc hd sz el s g fm hm so si sh ce ca td wa kp la bf oo bo pw ow tr) (some (.int (-6)), (ww im lf s d k ls rf rz ra rn rq lt m1 m2 m3 m4 bd (fc.set 6 ((fc.getD 6 0) + (nI 1))) hd sz el s g fm hm so si sh ce ca td wa kp la bf oo bo pw ow tr))
                refine Ef.in (md := mX5_cast) (L := [some (.ref 0), some (.int (nI a1k)), some (.int (nI a2k)), none]) rfl (Nat.le_of_ble_eq_true rfl) rfl ?_
                refine E_aload_n at_X5_cast_0 rfl ?_
                refine E_getfield (v := .ref 1) at_X5_cast_1 w0 rfl (by decide) rfl ?_
                refine E_iload_n at_X5_cast_4 rfl ?_
                refine E_callV (v := some (.int (nI 1))) (As := [.ref 1, .int (nI a1k)]) (r0 := []) (cs2 := (ww im lf s d k ls rf rz ra rn rq lt m1 m2 m3 m4 bd fc hd sz el s g fm hm so si sh ce ca td wa kp la bf oo bo pw ow tr)) at_X5_cast_5 rfl rfl (Nat.le_of_ble_eq_true rfl) rfl (ab_rvOf w1 rfl) (L0_X4_isPerson (by omega) (by omega) (by omega) (by omega)) (by decide) rfl ?_
                refine E_if (t := 17) (b := true) at_X5_cast_8 rfl (by decide) ?_
                refine E_aload_n at_X5_cast_17 rfl ?_
                refine E_aload_n at_X5_cast_18 rfl ?_
                refine E_getfield (v := .ref 1) at_X5_cast_19 w0 rfl (by decide) rfl ?_
                refine E_iload_n at_X5_cast_22 rfl ?_
                refine E_iload_n at_X5_cast_23 rfl ?_
                have e1 : Ev ab_Z0 4 122 [.ref 0, .ref 1, .int (nI a1k), .int (nI a2k)] (ww im lf s d k ls rf rz ra rn rq lt m1 m2 m3 m4 bd fc hd sz el s g fm hm so si sh ce ca td wa kp la bf oo bo pw ow tr) (some (.int (-1)), (ww im lf s d k ls rf rz ra rn rq lt m1 m2 m3 m4 bd fc hd sz el s g fm hm so si sh ce ca td wa kp la bf oo bo pw ow tr)) := by
                  refine Ef.in (md := mX5_throwBy) (L := [some (.ref 0), some (.ref 1), some (.int (nI a1k)), some (.int (nI a2k)), none]) rfl (Nat.le_of_ble_eq_true rfl) rfl ?_
                  refine E_aload_n at_X5_throwBy_0 rfl ?_
                  refine E_iload_n at_X5_throwBy_1 rfl ?_
                  refine E_callV (v := some (.int (nI 1))) (As := [.ref 1, .int (nI a1k)]) (r0 := []) (cs2 := (ww im lf s d k ls rf rz ra rn rq lt m1 m2 m3 m4 bd fc hd sz el s g fm hm so si sh ce ca td wa kp la bf oo bo pw ow tr)) at_X5_throwBy_2 rfl rfl (Nat.le_of_ble_eq_true rfl) rfl (ab_rvOf w1 rfl) (L0_X4_isPerson (by omega) (by omega) (by omega) (by omega)) (by decide) rfl ?_
                  refine E_if (t := 18) (b := false) at_X5_throwBy_5 rfl (by decide) ?_
                  refine E_iload_n at_X5_throwBy_8 rfl ?_
                  refine E_aload_n at_X5_throwBy_9 rfl ?_
                  refine E_getfield (v := .ref 6) at_X5_throwBy_10 w1 rfl (by decide) rfl ?_
                  refine E_iload_n at_X5_throwBy_13 rfl ?_
                  refine E_ialN (l := qU s) (v := (qU s).getD a1k 0) at_X5_throwBy_14 w6 (by omega) (by omega) rfl ?_
                  refine E_ic (t := 20) (b := true) at_X5_throwBy_15 rfl ((cn_le (nI_toInt (by omega)) (nI_toInt (by omega))).trans (decide_eq_true (by omega))) ?_
                  refine E_aload_n at_X5_throwBy_20 rfl ?_
                  refine E_iload_n at_X5_throwBy_21 rfl ?_
                  refine E_aload_n at_X5_throwBy_22 rfl ?_
                  refine E_getfield (v := .ref 8) at_X5_throwBy_23 w1 rfl (by decide) rfl ?_
                  refine E_iload_n at_X5_throwBy_26 rfl ?_
                  refine E_ialN (l := qW s) (v := (qW s).getD a1k 0) at_X5_throwBy_27 w8 (by omega) (by omega) rfl ?_
                  refine E_callV (v := some (.int (nI (qPr s a1k ((qW s).getD a1k 0))))) (As := [.ref 1, .int (nI a1k), .int (nI ((qW s).getD a1k 0))]) (r0 := []) (cs2 := (ww im lf s d k ls rf rz ra rn rq lt m1 m2 m3 m4 bd fc hd sz el s g fm hm so si sh ce ca td wa kp la bf oo bo pw ow tr)) at_X5_throwBy_28 rfl rfl (Nat.le_of_ble_eq_true rfl) rfl (ab_rvOf w1 rfl) (sq_priceFor w_q1 I (by omega) (by omega)) (by decide) rfl ?_
                  refine E_istore (L2 := [some (.ref 0), some (.ref 1), some (.int (nI a1k)), some (.int (nI a2k)), some (.int (nI (qPr s a1k ((qW s).getD a1k 0))))]) at_X5_throwBy_31 rfl ?_
                  refine E_iload_n at_X5_throwBy_33 rfl ?_
                  refine E_iload at_X5_throwBy_34 rfl ?_
                  refine E_ic (t := 43) (b := false) at_X5_throwBy_36 rfl ((cn_ge (nI_toInt (by omega)) (nI_toInt (by omega))).trans (decide_eq_false (by omega))) ?_
                  refine E_iconst (x := (-1)) at_X5_throwBy_39 (by decide) ?_
                  refine E_goto (t := 59) at_X5_throwBy_40 rfl ?_
                  exact E_iret at_X5_throwBy_59 rfl
                refine E_callV (v := some (.int (-1))) (As := [.ref 0, .ref 1, .int (nI a1k), .int (nI a2k)]) (r0 := []) (cs2 := (ww im lf s d k ls rf rz ra rn rq lt m1 m2 m3 m4 bd fc hd sz el s g fm hm so si sh ce ca td wa kp la bf oo bo pw ow tr)) at_X5_cast_24 rfl rfl (Nat.le_of_ble_eq_true rfl) rfl (ab_rvOf w0 rfl) e1 (by decide) rfl ?_
                refine E_istore_n (L2 := [some (.ref 0), some (.int (nI a1k)), some (.int (nI a2k)), some (.int (-1))]) at_X5_cast_27 rfl ?_
                refine E_iload_n at_X5_cast_28 rfl ?_
                refine E_iconst (x := (-1)) at_X5_cast_29 (by decide) ?_
                refine E_ic (t := 40) (b := false) at_X5_cast_30 rfl (by decide) ?_
                refine E_aload_n at_X5_cast_33 rfl ?_
                refine E_bipush (x := nI 6) at_X5_cast_34 (by decide) ?_
                refine E_callV (v := some (.int (-6))) (As := [.ref 0, .int (nI 6)]) (r0 := []) (cs2 := (ww im lf s d k ls rf rz ra rn rq lt m1 m2 m3 m4 bd (fc.set 6 ((fc.getD 6 0) + (nI 1))) hd sz el s g fm hm so si sh ce ca td wa kp la bf oo bo pw ow tr)) at_X5_cast_36 rfl rfl (Nat.le_of_ble_eq_true rfl) rfl (ab_rvOf w0 rfl) (L26_X5_refuse (by omega)) (by decide) w_lens ?_
                exact E_iret at_X5_cast_39 rfl
              · show Ev ab_Z0 5 197 [.ref 65, .int (nI a1k), .int (nI a2k)] (ww im lf s d k ls rf rz ra rn rq lt m1 m2 m3 m4 bd (fc.set 6 ((fc.getD 6 0) + (nI 1))) hd sz el s g fm hm so si sh ce ca td wa kp la bf oo bo pw ow tr) (some (.int (-6)), (ww im lf s d k ls rf rz ra rn rq lt m1 m2 m3 m4 bd (fc.set 6 ((fc.getD 6 0) + (nI 1))) hd sz el s g (fm.set 6 ((fm.getD 6 0) + (nI 1))) hm so si sh ce ca td wa kp la (lsF (bst s (qPs s 99 (qN s)) (qN s) (2 ^ qN s))) oo bo pw ow tr))
                refine Ef.in (md := mX6_cast) (L := [some (.ref 65), some (.int (nI a1k)), some (.int (nI a2k)), none]) rfl (Nat.le_of_ble_eq_true rfl) rfl ?_
                refine E_aload_n at_X6_cast_0 rfl ?_
                refine E_iload_n at_X6_cast_1 rfl ?_
                refine E_callV (v := some (.int (nI 1))) (As := [.ref 65, .int (nI a1k)]) (r0 := []) (cs2 := (ww im lf s d k ls rf rz ra rn rq lt m1 m2 m3 m4 bd (fc.set 6 ((fc.getD 6 0) + (nI 1))) hd sz el s g fm hm so si sh ce ca td wa kp la bf oo bo pw ow tr)) at_X6_cast_2 rfl rfl (Nat.le_of_ble_eq_true rfl) rfl (ab_rvOf w65 rfl) (L2_X6_isOne (by omega) (by omega) (by omega) (by omega)) (by decide) rfl ?_
                refine E_if (t := 14) (b := true) at_X6_cast_5 rfl (by decide) ?_
                refine E_aload_n at_X6_cast_14 rfl ?_
                refine E_aload_n at_X6_cast_15 rfl ?_
                refine E_bipush (x := nI 99) at_X6_cast_16 (by decide) ?_
                refine E_callV (v := some (.int (nI (qPs s 99 (qN s))))) (As := [.ref 65, .int (nI 99)]) (r0 := [.ref 65]) (cs2 := (ww im lf s d k ls rf rz ra rn rq lt m1 m2 m3 m4 bd (fc.set 6 ((fc.getD 6 0) + (nI 1))) hd sz el s g fm hm so si sh ce ca td wa kp la bf oo bo pw ow tr)) at_X6_cast_18 rfl rfl (Nat.le_of_ble_eq_true rfl) rfl (ab_rvOf w65 rfl) (mo_piecesOf w_m I (by omega)) (by decide) rfl ?_
                refine E_callV (v := none) (As := [.ref 65, .int (nI (qPs s 99 (qN s)))]) (r0 := []) (cs2 := (ww im lf s d k ls rf rz ra rn rq lt m1 m2 m3 m4 bd (fc.set 6 ((fc.getD 6 0) + (nI 1))) hd sz el s g fm hm so si sh ce ca td wa kp la (lsF (bst s (qPs s 99 (qN s)) (qN s) (2 ^ qN s))) oo bo pw ow tr)) at_X6_cast_21 rfl rfl (Nat.le_of_ble_eq_true rfl) rfl (ab_rvOf w65 rfl) (w_best (m := qPs s 99 (qN s)) I (by omega) (lr.2.2.2.2.2.2.2.2.2.2.2.2.2.2.2.1)) (by decide) w_lens ?_
                refine E_aload_n at_X6_cast_24 rfl ?_
                refine E_iload_n at_X6_cast_25 rfl ?_
                refine E_iconst (x := nI 0) at_X6_cast_26 (by decide) ?_
                refine E_bipush (x := nI 99) at_X6_cast_27 (by decide) ?_
                refine E_callV (v := some (.int (nI 1))) (As := [.ref 65, .int (nI a2k), .int (nI 0), .int (nI 99)]) (r0 := []) (cs2 := (ww im lf s d k ls rf rz ra rn rq lt m1 m2 m3 m4 bd (fc.set 6 ((fc.getD 6 0) + (nI 1))) hd sz el s g fm hm so si sh ce ca td wa kp la (lsF (bst s (qPs s 99 (qN s)) (qN s) (2 ^ qN s))) oo bo pw ow tr)) at_X6_cast_29 rfl rfl (Nat.le_of_ble_eq_true rfl) rfl (ab_rvOf w65 rfl) (L85_X6_isFrom (by omega) (by omega) (by omega)) (by decide) rfl ?_
                refine E_if (t := 44) (b := false) at_X6_cast_32 rfl (by decide) ?_
                refine E_aload_n at_X6_cast_35 rfl ?_
                refine E_iload_n at_X6_cast_36 rfl ?_
                refine E_iload_n at_X6_cast_37 rfl ?_
                have e2 : Ev ab_Z0 2 176 [.ref 65, .int (nI a1k), .int (nI a2k)] (ww im lf s d k ls rf rz ra rn rq lt m1 m2 m3 m4 bd (fc.set 6 ((fc.getD 6 0) + (nI 1))) hd sz el s g fm hm so si sh ce ca td wa kp la (lsF (bst s (qPs s 99 (qN s)) (qN s) (2 ^ qN s))) oo bo pw ow tr) (some (.int (-1)), (ww im lf s d k ls rf rz ra rn rq lt m1 m2 m3 m4 bd (fc.set 6 ((fc.getD 6 0) + (nI 1))) hd sz el s g fm hm so si sh ce ca td wa kp la (lsF (bst s (qPs s 99 (qN s)) (qN s) (2 ^ qN s))) oo bo pw ow tr)) := by
                  refine Ef.in (md := mX6_thrown) (L := [some (.ref 65), some (.int (nI a1k)), some (.int (nI a2k)), none]) rfl (Nat.le_of_ble_eq_true rfl) rfl ?_
                  refine E_iload_n at_X6_thrown_0 rfl ?_
                  refine E_aload_n at_X6_thrown_1 rfl ?_
                  refine E_iload_n at_X6_thrown_2 rfl ?_
                  refine E_aload_n at_X6_thrown_3 rfl ?_
                  refine E_getfield (v := .ref 73) at_X6_thrown_4 w65 rfl (by decide) rfl ?_
                  refine E_iload_n at_X6_thrown_7 rfl ?_
                  refine E_ialN (l := qW s) (v := (qW s).getD a1k 0) at_X6_thrown_8 w73 (by omega) (by omega) rfl ?_
                  refine E_callV (v := some (.int (nI (qPr s a1k ((qW s).getD a1k 0))))) (As := [.ref 65, .int (nI a1k), .int (nI ((qW s).getD a1k 0))]) (r0 := [.int (nI a2k)]) (cs2 := (ww im lf s d k ls rf rz ra rn rq lt m1 m2 m3 m4 bd (fc.set 6 ((fc.getD 6 0) + (nI 1))) hd sz el s g fm hm so si sh ce ca td wa kp la (lsF (bst s (qPs s 99 (qN s)) (qN s) (2 ^ qN s))) oo bo pw ow tr)) at_X6_thrown_9 rfl rfl (Nat.le_of_ble_eq_true rfl) rfl (ab_rvOf w65 rfl) (mo_priceFor w_m I (by omega) (by omega)) (by decide) rfl ?_
                  refine E_isub (z := nI a2k - nI (qPr s a1k ((qW s).getD a1k 0))) at_X6_thrown_12 rfl ?_
                  refine E_istore_n (L2 := [some (.ref 65), some (.int (nI a1k)), some (.int (nI a2k)), some (.int (nI a2k - nI (qPr s a1k ((qW s).getD a1k 0))))]) at_X6_thrown_13 rfl ?_
                  refine E_aload_n at_X6_thrown_14 rfl ?_
                  refine E_iload_n at_X6_thrown_15 rfl ?_
                  refine E_iconst (x := nI 0) at_X6_thrown_16 (by decide) ?_
                  refine E_bipush (x := nI 99) at_X6_thrown_17 (by decide) ?_
                  refine E_callV (v := some (.int (nI 1))) (As := [.ref 65, .int (nI a2k), .int (nI 0), .int (nI 99)]) (r0 := []) (cs2 := (ww im lf s d k ls rf rz ra rn rq lt m1 m2 m3 m4 bd (fc.set 6 ((fc.getD 6 0) + (nI 1))) hd sz el s g fm hm so si sh ce ca td wa kp la (lsF (bst s (qPs s 99 (qN s)) (qN s) (2 ^ qN s))) oo bo pw ow tr)) at_X6_thrown_19 rfl rfl (Nat.le_of_ble_eq_true rfl) rfl (ab_rvOf w65 rfl) (L85_X6_isFrom (by omega) (by omega) (by omega)) (by decide) rfl ?_
                  refine E_if (t := 39) (b := false) at_X6_thrown_22 rfl (by decide) ?_
                  refine E_iload_n at_X6_thrown_25 rfl ?_
                  refine E_aload_n at_X6_thrown_26 rfl ?_
                  refine E_getfield (v := .ref 71) at_X6_thrown_27 w65 rfl (by decide) rfl ?_
                  refine E_iload_n at_X6_thrown_30 rfl ?_
                  refine E_ialN (l := qU s) (v := (qU s).getD a1k 0) at_X6_thrown_31 w71 (by omega) (by omega) rfl ?_
                  refine E_ic (t := 39) (b := false) at_X6_thrown_32 rfl ((cn_gt (nI_toInt (by omega)) (nI_toInt (by omega))).trans (decide_eq_false (by omega))) ?_
                  refine E_iload_n at_X6_thrown_35 rfl ?_
                  refine E_if (t := 43) (b := false) at_X6_thrown_36 rfl ((cn_ge (ab_subI (by omega) (by omega)) (by decide : (0 : Int32).toInt = 0)).trans (decide_eq_false (by omega))) ?_
                  refine E_iconst (x := (-1)) at_X6_thrown_39 (by decide) ?_
                  refine E_goto (t := 48) at_X6_thrown_40 rfl ?_
                  exact E_iret at_X6_thrown_48 rfl
                refine E_callV (v := some (.int (-1))) (As := [.ref 65, .int (nI a1k), .int (nI a2k)]) (r0 := []) (cs2 := (ww im lf s d k ls rf rz ra rn rq lt m1 m2 m3 m4 bd (fc.set 6 ((fc.getD 6 0) + (nI 1))) hd sz el s g fm hm so si sh ce ca td wa kp la (lsF (bst s (qPs s 99 (qN s)) (qN s) (2 ^ qN s))) oo bo pw ow tr)) at_X6_cast_38 rfl rfl (Nat.le_of_ble_eq_true rfl) rfl (ab_rvOf w65 rfl) e2 (by decide) rfl ?_
                refine E_goto (t := 45) at_X6_cast_41 rfl ?_
                refine E_istore_n (L2 := [some (.ref 65), some (.int (nI a1k)), some (.int (nI a2k)), some (.int (-1))]) at_X6_cast_45 rfl ?_
                refine E_iload_n at_X6_cast_46 rfl ?_
                refine E_iconst (x := (-1)) at_X6_cast_47 (by decide) ?_
                refine E_ic (t := 58) (b := false) at_X6_cast_48 rfl (by decide) ?_
                refine E_aload_n at_X6_cast_51 rfl ?_
                refine E_bipush (x := (-6)) at_X6_cast_52 (by decide) ?_
                refine E_callV (v := some (.int (-6))) (As := [.ref 65, .int (-6)]) (r0 := []) (cs2 := (ww im lf s d k ls rf rz ra rn rq lt m1 m2 m3 m4 bd (fc.set 6 ((fc.getD 6 0) + (nI 1))) hd sz el s g (fm.set 6 ((fm.getD 6 0) + (nI 1))) hm so si sh ce ca td wa kp la (lsF (bst s (qPs s 99 (qN s)) (qN s) (2 ^ qN s))) oo bo pw ow tr)) at_X6_cast_54 rfl rfl (Nat.le_of_ble_eq_true rfl) rfl (ab_rvOf w65 rfl) (L28_X6_no (by omega)) (by decide) w_lens ?_
                exact E_iret at_X6_cast_57 rfl
              · exact ⟨I, rfl, hf, iQ, iM, iT, iS, l_el, (lr.1), (lr.2.1), (lr.2.2.1), (by simp only [List.length_set]; exact (lr.2.2.2.1)), (by simp only [List.length_set]; exact (lr.2.2.2.2.1)), (lr.2.2.2.2.2.1), (lr.2.2.2.2.2.2.1), (lr.2.2.2.2.2.2.2.1), (lr.2.2.2.2.2.2.2.2.1), (lr.2.2.2.2.2.2.2.2.2.1), (lr.2.2.2.2.2.2.2.2.2.2.1), (lr.2.2.2.2.2.2.2.2.2.2.2.1), (lr.2.2.2.2.2.2.2.2.2.2.2.2.1), (lr.2.2.2.2.2.2.2.2.2.2.2.2.2.1), (lr.2.2.2.2.2.2.2.2.2.2.2.2.2.2.1), (lsF_len _), (lr.2.2.2.2.2.2.2.2.2.2.2.2.2.2.2.2.1), (lr.2.2.2.2.2.2.2.2.2.2.2.2.2.2.2.2.2.1), (lr.2.2.2.2.2.2.2.2.2.2.2.2.2.2.2.2.2.2.1), (lr.2.2.2.2.2.2.2.2.2.2.2.2.2.2.2.2.2.2.2.1), (lr.2.2.2.2.2.2.2.2.2.2.2.2.2.2.2.2.2.2.2.2)⟩
            · rcases hg0 : qGreedy s (a2k - (qPr s a1k ((qW s).getD a1k 0))) with _ | gj0
              · have er2 : (qR s).toInt = 1 := by rw [er]; rfl
                have := I2 a1k (by omega)
                have := qPr_in I a1k (w := ((qW s).getD a1k 0)) (by omega)
                have := qPs_in s 99 (i := qN s) (by omega)
                refine ⟨(-6), (im, lf, s, d, k, ls, rf, rz, ra, rn, rq, lt, m1, m2, m3, m4, bd, (fc.set 6 ((fc.getD 6 0) + (nI 1))), hd, sz, el, s, g, fm, hm, so, si, sh, ce, ca, td, wa, kp, la, bf, oo, bo, pw, ow, tr), (im, lf, s, d, k, ls, rf, rz, ra, rn, rq, lt, m1, m2, m3, m4, bd, (fc.set 6 ((fc.getD 6 0) + (nI 1))), hd, sz, el, s, g, (fm.set 6 ((fm.getD 6 0) + (nI 1))), hm, so, si, sh, ce, ca, td, wa, kp, la, (lsF (bst s (qPs s 99 (qN s)) (qN s) (2 ^ qN s))), oo, bo, pw, ow, tr), ?_, ?_, ?_⟩
                · show Ev ab_Z0 6 106 [.ref 0, .int (nI a1k), .int (nI a2k)] (ww im lf s d k ls rf rz ra rn rq lt m1 m2 m3 m4 bd fc hd sz el s g fm hm so si sh ce ca td wa kp la bf oo bo pw ow tr) (some (.int (-6)), (ww im lf s d k ls rf rz ra rn rq lt m1 m2 m3 m4 bd (fc.set 6 ((fc.getD 6 0) + (nI 1))) hd sz el s g fm hm so si sh ce ca td wa kp la bf oo bo pw ow tr))
                  refine Ef.in (md := mX5_cast) (L := [some (.ref 0), some (.int (nI a1k)), some (.int (nI a2k)), none]) rfl (Nat.le_of_ble_eq_true rfl) rfl ?_
                  refine E_aload_n at_X5_cast_0 rfl ?_
                  refine E_getfield (v := .ref 1) at_X5_cast_1 w0 rfl (by decide) rfl ?_
                  refine E_iload_n at_X5_cast_4 rfl ?_
                  refine E_callV (v := some (.int (nI 1))) (As := [.ref 1, .int (nI a1k)]) (r0 := []) (cs2 := (ww im lf s d k ls rf rz ra rn rq lt m1 m2 m3 m4 bd fc hd sz el s g fm hm so si sh ce ca td wa kp la bf oo bo pw ow tr)) at_X5_cast_5 rfl rfl (Nat.le_of_ble_eq_true rfl) rfl (ab_rvOf w1 rfl) (L0_X4_isPerson (by omega) (by omega) (by omega) (by omega)) (by decide) rfl ?_
                  refine E_if (t := 17) (b := true) at_X5_cast_8 rfl (by decide) ?_
                  refine E_aload_n at_X5_cast_17 rfl ?_
                  refine E_aload_n at_X5_cast_18 rfl ?_
                  refine E_getfield (v := .ref 1) at_X5_cast_19 w0 rfl (by decide) rfl ?_
                  refine E_iload_n at_X5_cast_22 rfl ?_
                  refine E_iload_n at_X5_cast_23 rfl ?_
                  have e2 : Ev ab_Z0 5 122 [.ref 0, .ref 1, .int (nI a1k), .int (nI a2k)] (ww im lf s d k ls rf rz ra rn rq lt m1 m2 m3 m4 bd fc hd sz el s g fm hm so si sh ce ca td wa kp la bf oo bo pw ow tr) (some (.int (-1)), (ww im lf s d k ls rf rz ra rn rq lt m1 m2 m3 m4 bd fc hd sz el s g fm hm so si sh ce ca td wa kp la bf oo bo pw ow tr)) := by
                    refine Ef.in (md := mX5_throwBy) (L := [some (.ref 0), some (.ref 1), some (.int (nI a1k)), some (.int (nI a2k)), none]) rfl (Nat.le_of_ble_eq_true rfl) rfl ?_
                    refine E_aload_n at_X5_throwBy_0 rfl ?_
                    refine E_iload_n at_X5_throwBy_1 rfl ?_
                    refine E_callV (v := some (.int (nI 1))) (As := [.ref 1, .int (nI a1k)]) (r0 := []) (cs2 := (ww im lf s d k ls rf rz ra rn rq lt m1 m2 m3 m4 bd fc hd sz el s g fm hm so si sh ce ca td wa kp la bf oo bo pw ow tr)) at_X5_throwBy_2 rfl rfl (Nat.le_of_ble_eq_true rfl) rfl (ab_rvOf w1 rfl) (L0_X4_isPerson (by omega) (by omega) (by omega) (by omega)) (by decide) rfl ?_
                    refine E_if (t := 18) (b := false) at_X5_throwBy_5 rfl (by decide) ?_
                    refine E_iload_n at_X5_throwBy_8 rfl ?_
                    refine E_aload_n at_X5_throwBy_9 rfl ?_
                    refine E_getfield (v := .ref 6) at_X5_throwBy_10 w1 rfl (by decide) rfl ?_
                    refine E_iload_n at_X5_throwBy_13 rfl ?_
                    refine E_ialN (l := qU s) (v := (qU s).getD a1k 0) at_X5_throwBy_14 w6 (by omega) (by omega) rfl ?_
                    refine E_ic (t := 20) (b := true) at_X5_throwBy_15 rfl ((cn_le (nI_toInt (by omega)) (nI_toInt (by omega))).trans (decide_eq_true (by omega))) ?_
                    refine E_aload_n at_X5_throwBy_20 rfl ?_
                    refine E_iload_n at_X5_throwBy_21 rfl ?_
                    refine E_aload_n at_X5_throwBy_22 rfl ?_
                    refine E_getfield (v := .ref 8) at_X5_throwBy_23 w1 rfl (by decide) rfl ?_
                    refine E_iload_n at_X5_throwBy_26 rfl ?_
                    refine E_ialN (l := qW s) (v := (qW s).getD a1k 0) at_X5_throwBy_27 w8 (by omega) (by omega) rfl ?_
                    refine E_callV (v := some (.int (nI (qPr s a1k ((qW s).getD a1k 0))))) (As := [.ref 1, .int (nI a1k), .int (nI ((qW s).getD a1k 0))]) (r0 := []) (cs2 := (ww im lf s d k ls rf rz ra rn rq lt m1 m2 m3 m4 bd fc hd sz el s g fm hm so si sh ce ca td wa kp la bf oo bo pw ow tr)) at_X5_throwBy_28 rfl rfl (Nat.le_of_ble_eq_true rfl) rfl (ab_rvOf w1 rfl) (sq_priceFor w_q1 I (by omega) (by omega)) (by decide) rfl ?_
                    refine E_istore (L2 := [some (.ref 0), some (.ref 1), some (.int (nI a1k)), some (.int (nI a2k)), some (.int (nI (qPr s a1k ((qW s).getD a1k 0))))]) at_X5_throwBy_31 rfl ?_
                    refine E_iload_n at_X5_throwBy_33 rfl ?_
                    refine E_iload at_X5_throwBy_34 rfl ?_
                    refine E_ic (t := 43) (b := true) at_X5_throwBy_36 rfl ((cn_ge (nI_toInt (by omega)) (nI_toInt (by omega))).trans (decide_eq_true (by omega))) ?_
                    refine E_aload_n at_X5_throwBy_43 rfl ?_
                    refine E_getfield (v := .ref 32) at_X5_throwBy_44 w0 rfl (by decide) rfl ?_
                    refine E_aload_n at_X5_throwBy_47 rfl ?_
                    refine E_aload_n at_X5_throwBy_48 rfl ?_
                    refine E_getfield (v := .int (qR s)) at_X5_throwBy_49 w1 rfl (by decide) rfl ?_
                    refine E_iload_n at_X5_throwBy_52 rfl ?_
                    refine E_iload at_X5_throwBy_53 rfl ?_
                    refine E_isub (z := nI (a2k - (qPr s a1k ((qW s).getD a1k 0)))) at_X5_throwBy_55 (pk_sub (by omega)) ?_
                    have e1 : Ev ab_Z0 4 1 [.ref 32, .ref 1, .int (qR s), .int (nI (a2k - (qPr s a1k ((qW s).getD a1k 0))))] (ww im lf s d k ls rf rz ra rn rq lt m1 m2 m3 m4 bd fc hd sz el s g fm hm so si sh ce ca td wa kp la bf oo bo pw ow tr) (some (.int (-1)), (ww im lf s d k ls rf rz ra rn rq lt m1 m2 m3 m4 bd fc hd sz el s g fm hm so si sh ce ca td wa kp la bf oo bo pw ow tr)) := by
                      refine Ef.in (md := mX0_bitsBy) (L := [some (.ref 32), some (.ref 1), some (.int (qR s)), some (.int (nI (a2k - (qPr s a1k ((qW s).getD a1k 0)))))]) rfl (Nat.le_of_ble_eq_true rfl) rfl ?_
                      refine E_iload_n at_X0_bitsBy_0 rfl ?_
                      refine E_iconst (x := nI 1) at_X0_bitsBy_1 (by decide) ?_
                      refine E_ic (t := 11) (b := false) at_X0_bitsBy_2 rfl ((cn_ne rfl (nI_toInt (by omega))).trans (decide_eq_false (by omega))) ?_
                      refine E_aload_n at_X0_bitsBy_5 rfl ?_
                      refine E_iload_n at_X0_bitsBy_6 rfl ?_
                      refine E_callV (v := some (.int (-1))) (As := [.ref 1, .int (nI (a2k - (qPr s a1k ((qW s).getD a1k 0))))]) (r0 := []) (cs2 := (ww im lf s d k ls rf rz ra rn rq lt m1 m2 m3 m4 bd fc hd sz el s g fm hm so si sh ce ca td wa kp la bf oo bo pw ow tr)) at_X0_bitsBy_7 rfl rfl (Nat.le_of_ble_eq_true rfl) rfl (ab_rvOf w1 rfl) (Ev.g0 hg0 (sq_greedyFor w_q1 I (by omega))) (by decide) rfl ?_
                      exact E_iret at_X0_bitsBy_10 rfl
                    refine E_callV (v := some (.int (-1))) (As := [.ref 32, .ref 1, .int (qR s), .int (nI (a2k - (qPr s a1k ((qW s).getD a1k 0))))]) (r0 := []) (cs2 := (ww im lf s d k ls rf rz ra rn rq lt m1 m2 m3 m4 bd fc hd sz el s g fm hm so si sh ce ca td wa kp la bf oo bo pw ow tr)) at_X5_throwBy_56 rfl rfl (Nat.le_of_ble_eq_true rfl) rfl (ab_rvOf w32 rfl) e1 (by decide) rfl ?_
                    exact E_iret at_X5_throwBy_59 rfl
                  refine E_callV (v := some (.int (-1))) (As := [.ref 0, .ref 1, .int (nI a1k), .int (nI a2k)]) (r0 := []) (cs2 := (ww im lf s d k ls rf rz ra rn rq lt m1 m2 m3 m4 bd fc hd sz el s g fm hm so si sh ce ca td wa kp la bf oo bo pw ow tr)) at_X5_cast_24 rfl rfl (Nat.le_of_ble_eq_true rfl) rfl (ab_rvOf w0 rfl) e2 (by decide) rfl ?_
                  refine E_istore_n (L2 := [some (.ref 0), some (.int (nI a1k)), some (.int (nI a2k)), some (.int (-1))]) at_X5_cast_27 rfl ?_
                  refine E_iload_n at_X5_cast_28 rfl ?_
                  refine E_iconst (x := (-1)) at_X5_cast_29 (by decide) ?_
                  refine E_ic (t := 40) (b := false) at_X5_cast_30 rfl (by decide) ?_
                  refine E_aload_n at_X5_cast_33 rfl ?_
                  refine E_bipush (x := nI 6) at_X5_cast_34 (by decide) ?_
                  refine E_callV (v := some (.int (-6))) (As := [.ref 0, .int (nI 6)]) (r0 := []) (cs2 := (ww im lf s d k ls rf rz ra rn rq lt m1 m2 m3 m4 bd (fc.set 6 ((fc.getD 6 0) + (nI 1))) hd sz el s g fm hm so si sh ce ca td wa kp la bf oo bo pw ow tr)) at_X5_cast_36 rfl rfl (Nat.le_of_ble_eq_true rfl) rfl (ab_rvOf w0 rfl) (L26_X5_refuse (by omega)) (by decide) w_lens ?_
                  exact E_iret at_X5_cast_39 rfl
                · show Ev ab_Z0 5 197 [.ref 65, .int (nI a1k), .int (nI a2k)] (ww im lf s d k ls rf rz ra rn rq lt m1 m2 m3 m4 bd (fc.set 6 ((fc.getD 6 0) + (nI 1))) hd sz el s g fm hm so si sh ce ca td wa kp la bf oo bo pw ow tr) (some (.int (-6)), (ww im lf s d k ls rf rz ra rn rq lt m1 m2 m3 m4 bd (fc.set 6 ((fc.getD 6 0) + (nI 1))) hd sz el s g (fm.set 6 ((fm.getD 6 0) + (nI 1))) hm so si sh ce ca td wa kp la (lsF (bst s (qPs s 99 (qN s)) (qN s) (2 ^ qN s))) oo bo pw ow tr))
                  refine Ef.in (md := mX6_cast) (L := [some (.ref 65), some (.int (nI a1k)), some (.int (nI a2k)), none]) rfl (Nat.le_of_ble_eq_true rfl) rfl ?_
                  refine E_aload_n at_X6_cast_0 rfl ?_
                  refine E_iload_n at_X6_cast_1 rfl ?_
                  refine E_callV (v := some (.int (nI 1))) (As := [.ref 65, .int (nI a1k)]) (r0 := []) (cs2 := (ww im lf s d k ls rf rz ra rn rq lt m1 m2 m3 m4 bd (fc.set 6 ((fc.getD 6 0) + (nI 1))) hd sz el s g fm hm so si sh ce ca td wa kp la bf oo bo pw ow tr)) at_X6_cast_2 rfl rfl (Nat.le_of_ble_eq_true rfl) rfl (ab_rvOf w65 rfl) (L2_X6_isOne (by omega) (by omega) (by omega) (by omega)) (by decide) rfl ?_
                  refine E_if (t := 14) (b := true) at_X6_cast_5 rfl (by decide) ?_
                  refine E_aload_n at_X6_cast_14 rfl ?_
                  refine E_aload_n at_X6_cast_15 rfl ?_
                  refine E_bipush (x := nI 99) at_X6_cast_16 (by decide) ?_
                  refine E_callV (v := some (.int (nI (qPs s 99 (qN s))))) (As := [.ref 65, .int (nI 99)]) (r0 := [.ref 65]) (cs2 := (ww im lf s d k ls rf rz ra rn rq lt m1 m2 m3 m4 bd (fc.set 6 ((fc.getD 6 0) + (nI 1))) hd sz el s g fm hm so si sh ce ca td wa kp la bf oo bo pw ow tr)) at_X6_cast_18 rfl rfl (Nat.le_of_ble_eq_true rfl) rfl (ab_rvOf w65 rfl) (mo_piecesOf w_m I (by omega)) (by decide) rfl ?_
                  refine E_callV (v := none) (As := [.ref 65, .int (nI (qPs s 99 (qN s)))]) (r0 := []) (cs2 := (ww im lf s d k ls rf rz ra rn rq lt m1 m2 m3 m4 bd (fc.set 6 ((fc.getD 6 0) + (nI 1))) hd sz el s g fm hm so si sh ce ca td wa kp la (lsF (bst s (qPs s 99 (qN s)) (qN s) (2 ^ qN s))) oo bo pw ow tr)) at_X6_cast_21 rfl rfl (Nat.le_of_ble_eq_true rfl) rfl (ab_rvOf w65 rfl) (w_best (m := qPs s 99 (qN s)) I (by omega) (lr.2.2.2.2.2.2.2.2.2.2.2.2.2.2.2.1)) (by decide) w_lens ?_
                  refine E_aload_n at_X6_cast_24 rfl ?_
                  refine E_iload_n at_X6_cast_25 rfl ?_
                  refine E_iconst (x := nI 0) at_X6_cast_26 (by decide) ?_
                  refine E_bipush (x := nI 99) at_X6_cast_27 (by decide) ?_
                  refine E_callV (v := some (.int (nI 1))) (As := [.ref 65, .int (nI a2k), .int (nI 0), .int (nI 99)]) (r0 := []) (cs2 := (ww im lf s d k ls rf rz ra rn rq lt m1 m2 m3 m4 bd (fc.set 6 ((fc.getD 6 0) + (nI 1))) hd sz el s g fm hm so si sh ce ca td wa kp la (lsF (bst s (qPs s 99 (qN s)) (qN s) (2 ^ qN s))) oo bo pw ow tr)) at_X6_cast_29 rfl rfl (Nat.le_of_ble_eq_true rfl) rfl (ab_rvOf w65 rfl) (L85_X6_isFrom (by omega) (by omega) (by omega)) (by decide) rfl ?_
                  refine E_if (t := 44) (b := false) at_X6_cast_32 rfl (by decide) ?_
                  refine E_aload_n at_X6_cast_35 rfl ?_
                  refine E_iload_n at_X6_cast_36 rfl ?_
                  refine E_iload_n at_X6_cast_37 rfl ?_
                  have e4 : Ev ab_Z0 4 176 [.ref 65, .int (nI a1k), .int (nI a2k)] (ww im lf s d k ls rf rz ra rn rq lt m1 m2 m3 m4 bd (fc.set 6 ((fc.getD 6 0) + (nI 1))) hd sz el s g fm hm so si sh ce ca td wa kp la (lsF (bst s (qPs s 99 (qN s)) (qN s) (2 ^ qN s))) oo bo pw ow tr) (some (.int (-1)), (ww im lf s d k ls rf rz ra rn rq lt m1 m2 m3 m4 bd (fc.set 6 ((fc.getD 6 0) + (nI 1))) hd sz el s g fm hm so si sh ce ca td wa kp la (lsF (bst s (qPs s 99 (qN s)) (qN s) (2 ^ qN s))) oo bo pw ow tr)) := by
                    refine Ef.in (md := mX6_thrown) (L := [some (.ref 65), some (.int (nI a1k)), some (.int (nI a2k)), none]) rfl (Nat.le_of_ble_eq_true rfl) rfl ?_
                    refine E_iload_n at_X6_thrown_0 rfl ?_
                    refine E_aload_n at_X6_thrown_1 rfl ?_
                    refine E_iload_n at_X6_thrown_2 rfl ?_
                    refine E_aload_n at_X6_thrown_3 rfl ?_
                    refine E_getfield (v := .ref 73) at_X6_thrown_4 w65 rfl (by decide) rfl ?_
                    refine E_iload_n at_X6_thrown_7 rfl ?_
                    refine E_ialN (l := qW s) (v := (qW s).getD a1k 0) at_X6_thrown_8 w73 (by omega) (by omega) rfl ?_
                    refine E_callV (v := some (.int (nI (qPr s a1k ((qW s).getD a1k 0))))) (As := [.ref 65, .int (nI a1k), .int (nI ((qW s).getD a1k 0))]) (r0 := [.int (nI a2k)]) (cs2 := (ww im lf s d k ls rf rz ra rn rq lt m1 m2 m3 m4 bd (fc.set 6 ((fc.getD 6 0) + (nI 1))) hd sz el s g fm hm so si sh ce ca td wa kp la (lsF (bst s (qPs s 99 (qN s)) (qN s) (2 ^ qN s))) oo bo pw ow tr)) at_X6_thrown_9 rfl rfl (Nat.le_of_ble_eq_true rfl) rfl (ab_rvOf w65 rfl) (mo_priceFor w_m I (by omega) (by omega)) (by decide) rfl ?_
                    refine E_isub (z := nI (a2k - (qPr s a1k ((qW s).getD a1k 0)))) at_X6_thrown_12 (pk_sub (by omega)) ?_
                    refine E_istore_n (L2 := [some (.ref 65), some (.int (nI a1k)), some (.int (nI a2k)), some (.int (nI (a2k - (qPr s a1k ((qW s).getD a1k 0)))))]) at_X6_thrown_13 rfl ?_
                    refine E_aload_n at_X6_thrown_14 rfl ?_
                    refine E_iload_n at_X6_thrown_15 rfl ?_
                    refine E_iconst (x := nI 0) at_X6_thrown_16 (by decide) ?_
                    refine E_bipush (x := nI 99) at_X6_thrown_17 (by decide) ?_
                    refine E_callV (v := some (.int (nI 1))) (As := [.ref 65, .int (nI a2k), .int (nI 0), .int (nI 99)]) (r0 := []) (cs2 := (ww im lf s d k ls rf rz ra rn rq lt m1 m2 m3 m4 bd (fc.set 6 ((fc.getD 6 0) + (nI 1))) hd sz el s g fm hm so si sh ce ca td wa kp la (lsF (bst s (qPs s 99 (qN s)) (qN s) (2 ^ qN s))) oo bo pw ow tr)) at_X6_thrown_19 rfl rfl (Nat.le_of_ble_eq_true rfl) rfl (ab_rvOf w65 rfl) (L85_X6_isFrom (by omega) (by omega) (by omega)) (by decide) rfl ?_
                    refine E_if (t := 39) (b := false) at_X6_thrown_22 rfl (by decide) ?_
                    refine E_iload_n at_X6_thrown_25 rfl ?_
                    refine E_aload_n at_X6_thrown_26 rfl ?_
                    refine E_getfield (v := .ref 71) at_X6_thrown_27 w65 rfl (by decide) rfl ?_
                    refine E_iload_n at_X6_thrown_30 rfl ?_
                    refine E_ialN (l := qU s) (v := (qU s).getD a1k 0) at_X6_thrown_31 w71 (by omega) (by omega) rfl ?_
                    refine E_ic (t := 39) (b := false) at_X6_thrown_32 rfl ((cn_gt (nI_toInt (by omega)) (nI_toInt (by omega))).trans (decide_eq_false (by omega))) ?_
                    refine E_iload_n at_X6_thrown_35 rfl ?_
                    refine E_if (t := 43) (b := true) at_X6_thrown_36 rfl ((cn_ge (nI_toInt (by omega)) (by decide : (0 : Int32).toInt = 0)).trans (decide_eq_true (by omega))) ?_
                    refine E_aload_n at_X6_thrown_43 rfl ?_
                    refine E_iload_n at_X6_thrown_44 rfl ?_
                    have e3 : Ev ab_Z0 3 172 [.ref 65, .int (nI (a2k - (qPr s a1k ((qW s).getD a1k 0))))] (ww im lf s d k ls rf rz ra rn rq lt m1 m2 m3 m4 bd (fc.set 6 ((fc.getD 6 0) + (nI 1))) hd sz el s g fm hm so si sh ce ca td wa kp la (lsF (bst s (qPs s 99 (qN s)) (qN s) (2 ^ qN s))) oo bo pw ow tr) (some (.int (-1)), (ww im lf s d k ls rf rz ra rn rq lt m1 m2 m3 m4 bd (fc.set 6 ((fc.getD 6 0) + (nI 1))) hd sz el s g fm hm so si sh ce ca td wa kp la (lsF (bst s (qPs s 99 (qN s)) (qN s) (2 ^ qN s))) oo bo pw ow tr)) := by
                      refine Ef.in (md := mX6_changeFor) (L := [some (.ref 65), some (.int (nI (a2k - (qPr s a1k ((qW s).getD a1k 0)))))]) rfl (Nat.le_of_ble_eq_true rfl) rfl ?_
                      refine E_aload_n at_X6_changeFor_0 rfl ?_
                      refine E_getfield (v := .int (qR s)) at_X6_changeFor_1 w65 rfl (by decide) rfl ?_
                      refine E_if (t := 16) (b := true) at_X6_changeFor_4 rfl ((cn_ne rfl (by decide : (0 : Int32).toInt = 0)).trans (decide_eq_true (by omega))) ?_
                      refine E_aload_n at_X6_changeFor_16 rfl ?_
                      refine E_iload_n at_X6_changeFor_17 rfl ?_
                      refine E_callV (v := some (.int (-1))) (As := [.ref 65, .int (nI (a2k - (qPr s a1k ((qW s).getD a1k 0))))]) (r0 := []) (cs2 := (ww im lf s d k ls rf rz ra rn rq lt m1 m2 m3 m4 bd (fc.set 6 ((fc.getD 6 0) + (nI 1))) hd sz el s g fm hm so si sh ce ca td wa kp la (lsF (bst s (qPs s 99 (qN s)) (qN s) (2 ^ qN s))) oo bo pw ow tr)) at_X6_changeFor_18 rfl rfl (Nat.le_of_ble_eq_true rfl) rfl (ab_rvOf w65 rfl) (Ev.g0 hg0 (mo_greedyFor w_m I (by omega))) (by decide) rfl ?_
                      exact E_iret at_X6_changeFor_21 rfl
                    refine E_callV (v := some (.int (-1))) (As := [.ref 65, .int (nI (a2k - (qPr s a1k ((qW s).getD a1k 0))))]) (r0 := []) (cs2 := (ww im lf s d k ls rf rz ra rn rq lt m1 m2 m3 m4 bd (fc.set 6 ((fc.getD 6 0) + (nI 1))) hd sz el s g fm hm so si sh ce ca td wa kp la (lsF (bst s (qPs s 99 (qN s)) (qN s) (2 ^ qN s))) oo bo pw ow tr)) at_X6_thrown_45 rfl rfl (Nat.le_of_ble_eq_true rfl) rfl (ab_rvOf w65 rfl) e3 (by decide) rfl ?_
                    exact E_iret at_X6_thrown_48 rfl
                  refine E_callV (v := some (.int (-1))) (As := [.ref 65, .int (nI a1k), .int (nI a2k)]) (r0 := []) (cs2 := (ww im lf s d k ls rf rz ra rn rq lt m1 m2 m3 m4 bd (fc.set 6 ((fc.getD 6 0) + (nI 1))) hd sz el s g fm hm so si sh ce ca td wa kp la (lsF (bst s (qPs s 99 (qN s)) (qN s) (2 ^ qN s))) oo bo pw ow tr)) at_X6_cast_38 rfl rfl (Nat.le_of_ble_eq_true rfl) rfl (ab_rvOf w65 rfl) e4 (by decide) rfl ?_
                  refine E_goto (t := 45) at_X6_cast_41 rfl ?_
                  refine E_istore_n (L2 := [some (.ref 65), some (.int (nI a1k)), some (.int (nI a2k)), some (.int (-1))]) at_X6_cast_45 rfl ?_
                  refine E_iload_n at_X6_cast_46 rfl ?_
                  refine E_iconst (x := (-1)) at_X6_cast_47 (by decide) ?_
                  refine E_ic (t := 58) (b := false) at_X6_cast_48 rfl (by decide) ?_
                  refine E_aload_n at_X6_cast_51 rfl ?_
                  refine E_bipush (x := (-6)) at_X6_cast_52 (by decide) ?_
                  refine E_callV (v := some (.int (-6))) (As := [.ref 65, .int (-6)]) (r0 := []) (cs2 := (ww im lf s d k ls rf rz ra rn rq lt m1 m2 m3 m4 bd (fc.set 6 ((fc.getD 6 0) + (nI 1))) hd sz el s g (fm.set 6 ((fm.getD 6 0) + (nI 1))) hm so si sh ce ca td wa kp la (lsF (bst s (qPs s 99 (qN s)) (qN s) (2 ^ qN s))) oo bo pw ow tr)) at_X6_cast_54 rfl rfl (Nat.le_of_ble_eq_true rfl) rfl (ab_rvOf w65 rfl) (L28_X6_no (by omega)) (by decide) w_lens ?_
                  exact E_iret at_X6_cast_57 rfl
                · exact ⟨I, rfl, hf, iQ, iM, iT, iS, l_el, (lr.1), (lr.2.1), (lr.2.2.1), (by simp only [List.length_set]; exact (lr.2.2.2.1)), (by simp only [List.length_set]; exact (lr.2.2.2.2.1)), (lr.2.2.2.2.2.1), (lr.2.2.2.2.2.2.1), (lr.2.2.2.2.2.2.2.1), (lr.2.2.2.2.2.2.2.2.1), (lr.2.2.2.2.2.2.2.2.2.1), (lr.2.2.2.2.2.2.2.2.2.2.1), (lr.2.2.2.2.2.2.2.2.2.2.2.1), (lr.2.2.2.2.2.2.2.2.2.2.2.2.1), (lr.2.2.2.2.2.2.2.2.2.2.2.2.2.1), (lr.2.2.2.2.2.2.2.2.2.2.2.2.2.2.1), (lsF_len _), (lr.2.2.2.2.2.2.2.2.2.2.2.2.2.2.2.2.1), (lr.2.2.2.2.2.2.2.2.2.2.2.2.2.2.2.2.2.1), (lr.2.2.2.2.2.2.2.2.2.2.2.2.2.2.2.2.2.2.1), (lr.2.2.2.2.2.2.2.2.2.2.2.2.2.2.2.2.2.2.2.1), (lr.2.2.2.2.2.2.2.2.2.2.2.2.2.2.2.2.2.2.2.2)⟩
              · have er2 : (qR s).toInt = 1 := by rw [er]; rfl
                have := I2 a1k (by omega)
                have := qPr_in I a1k (w := ((qW s).getD a1k 0)) (by omega)
                have hh0 : gj0 + 1 ≤ 512 := hg0 ▸ qGr_512 I (a2k - (qPr s a1k ((qW s).getD a1k 0)))
                have := qPs_in s 99 (i := qN s) (by omega)
                refine ⟨(nI gj0), (im, lf, (qs_P (qs_Y (qs_G (qs_U s ((qU s).set a1k (((qU s).getD a1k 0) - a2k))) ((qG s).set a1k (((qG s).getD a1k 0) + (nI 1)))) ((qY s) + (nI a2k))) (qGP (qP s) a1k gj0 (qN s))), d, k, ls, rf, rz, ra, rn, rq, lt, m1, m2, m3, m4, bd, fc, hd, sz, el, s, g, fm, hm, so, si, sh, ce, ca, td, wa, kp, la, bf, oo, bo, pw, ow, tr), (im, lf, (qs_P (qs_Y (qs_G (qs_U s ((qU s).set a1k (((qU s).getD a1k 0) - a2k))) ((qG s).set a1k (((qG s).getD a1k 0) + (nI 1)))) ((qY s) + (nI a2k))) (qGP (qP s) a1k gj0 (qN s))), d, k, ls, rf, rz, ra, rn, rq, lt, m1, m2, m3, m4, bd, fc, hd, sz, el, (qs_P (qs_Y (qs_G (qs_U s ((qU s).set a1k (((qU s).getD a1k 0) - a2k))) ((qG s).set a1k (((qG s).getD a1k 0) + (nI 1)))) ((qY s) + (nI a2k))) (qGP (qP s) a1k gj0 (qN s))), g, fm, hm, so, si, sh, ce, ca, td, wa, kp, la, (lsF (bst s (qPs s 99 (qN s)) (qN s) (2 ^ qN s))), oo, bo, pw, ow, tr), ?_, ?_, ?_⟩
                · show Ev ab_Z0 6 106 [.ref 0, .int (nI a1k), .int (nI a2k)] (ww im lf s d k ls rf rz ra rn rq lt m1 m2 m3 m4 bd fc hd sz el s g fm hm so si sh ce ca td wa kp la bf oo bo pw ow tr) (some (.int (nI gj0)), (ww im lf (qs_P (qs_Y (qs_G (qs_U s ((qU s).set a1k (((qU s).getD a1k 0) - a2k))) ((qG s).set a1k (((qG s).getD a1k 0) + (nI 1)))) ((qY s) + (nI a2k))) (qGP (qP s) a1k gj0 (qN s))) d k ls rf rz ra rn rq lt m1 m2 m3 m4 bd fc hd sz el s g fm hm so si sh ce ca td wa kp la bf oo bo pw ow tr))
                  refine Ef.in (md := mX5_cast) (L := [some (.ref 0), some (.int (nI a1k)), some (.int (nI a2k)), none]) rfl (Nat.le_of_ble_eq_true rfl) rfl ?_
                  refine E_aload_n at_X5_cast_0 rfl ?_
                  refine E_getfield (v := .ref 1) at_X5_cast_1 w0 rfl (by decide) rfl ?_
                  refine E_iload_n at_X5_cast_4 rfl ?_
                  refine E_callV (v := some (.int (nI 1))) (As := [.ref 1, .int (nI a1k)]) (r0 := []) (cs2 := (ww im lf s d k ls rf rz ra rn rq lt m1 m2 m3 m4 bd fc hd sz el s g fm hm so si sh ce ca td wa kp la bf oo bo pw ow tr)) at_X5_cast_5 rfl rfl (Nat.le_of_ble_eq_true rfl) rfl (ab_rvOf w1 rfl) (L0_X4_isPerson (by omega) (by omega) (by omega) (by omega)) (by decide) rfl ?_
                  refine E_if (t := 17) (b := true) at_X5_cast_8 rfl (by decide) ?_
                  refine E_aload_n at_X5_cast_17 rfl ?_
                  refine E_aload_n at_X5_cast_18 rfl ?_
                  refine E_getfield (v := .ref 1) at_X5_cast_19 w0 rfl (by decide) rfl ?_
                  refine E_iload_n at_X5_cast_22 rfl ?_
                  refine E_iload_n at_X5_cast_23 rfl ?_
                  have e2 : Ev ab_Z0 5 122 [.ref 0, .ref 1, .int (nI a1k), .int (nI a2k)] (ww im lf s d k ls rf rz ra rn rq lt m1 m2 m3 m4 bd fc hd sz el s g fm hm so si sh ce ca td wa kp la bf oo bo pw ow tr) (some (.int (nI gj0)), (ww im lf s d k ls rf rz ra rn rq lt m1 m2 m3 m4 bd fc hd sz el s g fm hm so si sh ce ca td wa kp la bf oo bo pw ow tr)) := by
                    refine Ef.in (md := mX5_throwBy) (L := [some (.ref 0), some (.ref 1), some (.int (nI a1k)), some (.int (nI a2k)), none]) rfl (Nat.le_of_ble_eq_true rfl) rfl ?_
                    refine E_aload_n at_X5_throwBy_0 rfl ?_
                    refine E_iload_n at_X5_throwBy_1 rfl ?_
                    refine E_callV (v := some (.int (nI 1))) (As := [.ref 1, .int (nI a1k)]) (r0 := []) (cs2 := (ww im lf s d k ls rf rz ra rn rq lt m1 m2 m3 m4 bd fc hd sz el s g fm hm so si sh ce ca td wa kp la bf oo bo pw ow tr)) at_X5_throwBy_2 rfl rfl (Nat.le_of_ble_eq_true rfl) rfl (ab_rvOf w1 rfl) (L0_X4_isPerson (by omega) (by omega) (by omega) (by omega)) (by decide) rfl ?_
                    refine E_if (t := 18) (b := false) at_X5_throwBy_5 rfl (by decide) ?_
                    refine E_iload_n at_X5_throwBy_8 rfl ?_
                    refine E_aload_n at_X5_throwBy_9 rfl ?_
                    refine E_getfield (v := .ref 6) at_X5_throwBy_10 w1 rfl (by decide) rfl ?_
                    refine E_iload_n at_X5_throwBy_13 rfl ?_
                    refine E_ialN (l := qU s) (v := (qU s).getD a1k 0) at_X5_throwBy_14 w6 (by omega) (by omega) rfl ?_
                    refine E_ic (t := 20) (b := true) at_X5_throwBy_15 rfl ((cn_le (nI_toInt (by omega)) (nI_toInt (by omega))).trans (decide_eq_true (by omega))) ?_
                    refine E_aload_n at_X5_throwBy_20 rfl ?_
                    refine E_iload_n at_X5_throwBy_21 rfl ?_
                    refine E_aload_n at_X5_throwBy_22 rfl ?_
                    refine E_getfield (v := .ref 8) at_X5_throwBy_23 w1 rfl (by decide) rfl ?_
                    refine E_iload_n at_X5_throwBy_26 rfl ?_
                    refine E_ialN (l := qW s) (v := (qW s).getD a1k 0) at_X5_throwBy_27 w8 (by omega) (by omega) rfl ?_
                    refine E_callV (v := some (.int (nI (qPr s a1k ((qW s).getD a1k 0))))) (As := [.ref 1, .int (nI a1k), .int (nI ((qW s).getD a1k 0))]) (r0 := []) (cs2 := (ww im lf s d k ls rf rz ra rn rq lt m1 m2 m3 m4 bd fc hd sz el s g fm hm so si sh ce ca td wa kp la bf oo bo pw ow tr)) at_X5_throwBy_28 rfl rfl (Nat.le_of_ble_eq_true rfl) rfl (ab_rvOf w1 rfl) (sq_priceFor w_q1 I (by omega) (by omega)) (by decide) rfl ?_
                    refine E_istore (L2 := [some (.ref 0), some (.ref 1), some (.int (nI a1k)), some (.int (nI a2k)), some (.int (nI (qPr s a1k ((qW s).getD a1k 0))))]) at_X5_throwBy_31 rfl ?_
                    refine E_iload_n at_X5_throwBy_33 rfl ?_
                    refine E_iload at_X5_throwBy_34 rfl ?_
                    refine E_ic (t := 43) (b := true) at_X5_throwBy_36 rfl ((cn_ge (nI_toInt (by omega)) (nI_toInt (by omega))).trans (decide_eq_true (by omega))) ?_
                    refine E_aload_n at_X5_throwBy_43 rfl ?_
                    refine E_getfield (v := .ref 32) at_X5_throwBy_44 w0 rfl (by decide) rfl ?_
                    refine E_aload_n at_X5_throwBy_47 rfl ?_
                    refine E_aload_n at_X5_throwBy_48 rfl ?_
                    refine E_getfield (v := .int (qR s)) at_X5_throwBy_49 w1 rfl (by decide) rfl ?_
                    refine E_iload_n at_X5_throwBy_52 rfl ?_
                    refine E_iload at_X5_throwBy_53 rfl ?_
                    refine E_isub (z := nI (a2k - (qPr s a1k ((qW s).getD a1k 0)))) at_X5_throwBy_55 (pk_sub (by omega)) ?_
                    have e1 : Ev ab_Z0 4 1 [.ref 32, .ref 1, .int (qR s), .int (nI (a2k - (qPr s a1k ((qW s).getD a1k 0))))] (ww im lf s d k ls rf rz ra rn rq lt m1 m2 m3 m4 bd fc hd sz el s g fm hm so si sh ce ca td wa kp la bf oo bo pw ow tr) (some (.int (nI gj0)), (ww im lf s d k ls rf rz ra rn rq lt m1 m2 m3 m4 bd fc hd sz el s g fm hm so si sh ce ca td wa kp la bf oo bo pw ow tr)) := by
                      refine Ef.in (md := mX0_bitsBy) (L := [some (.ref 32), some (.ref 1), some (.int (qR s)), some (.int (nI (a2k - (qPr s a1k ((qW s).getD a1k 0)))))]) rfl (Nat.le_of_ble_eq_true rfl) rfl ?_
                      refine E_iload_n at_X0_bitsBy_0 rfl ?_
                      refine E_iconst (x := nI 1) at_X0_bitsBy_1 (by decide) ?_
                      refine E_ic (t := 11) (b := false) at_X0_bitsBy_2 rfl ((cn_ne rfl (nI_toInt (by omega))).trans (decide_eq_false (by omega))) ?_
                      refine E_aload_n at_X0_bitsBy_5 rfl ?_
                      refine E_iload_n at_X0_bitsBy_6 rfl ?_
                      refine E_callV (v := some (.int (nI gj0))) (As := [.ref 1, .int (nI (a2k - (qPr s a1k ((qW s).getD a1k 0))))]) (r0 := []) (cs2 := (ww im lf s d k ls rf rz ra rn rq lt m1 m2 m3 m4 bd fc hd sz el s g fm hm so si sh ce ca td wa kp la bf oo bo pw ow tr)) at_X0_bitsBy_7 rfl rfl (Nat.le_of_ble_eq_true rfl) rfl (ab_rvOf w1 rfl) (Ev.g1 hg0 (sq_greedyFor w_q1 I (by omega))) (by decide) rfl ?_
                      exact E_iret at_X0_bitsBy_10 rfl
                    refine E_callV (v := some (.int (nI gj0))) (As := [.ref 32, .ref 1, .int (qR s), .int (nI (a2k - (qPr s a1k ((qW s).getD a1k 0))))]) (r0 := []) (cs2 := (ww im lf s d k ls rf rz ra rn rq lt m1 m2 m3 m4 bd fc hd sz el s g fm hm so si sh ce ca td wa kp la bf oo bo pw ow tr)) at_X5_throwBy_56 rfl rfl (Nat.le_of_ble_eq_true rfl) rfl (ab_rvOf w32 rfl) e1 (by decide) rfl ?_
                    exact E_iret at_X5_throwBy_59 rfl
                  refine E_callV (v := some (.int (nI gj0))) (As := [.ref 0, .ref 1, .int (nI a1k), .int (nI a2k)]) (r0 := []) (cs2 := (ww im lf s d k ls rf rz ra rn rq lt m1 m2 m3 m4 bd fc hd sz el s g fm hm so si sh ce ca td wa kp la bf oo bo pw ow tr)) at_X5_cast_24 rfl rfl (Nat.le_of_ble_eq_true rfl) rfl (ab_rvOf w0 rfl) e2 (by decide) rfl ?_
                  refine E_istore_n (L2 := [some (.ref 0), some (.int (nI a1k)), some (.int (nI a2k)), some (.int (nI gj0))]) at_X5_cast_27 rfl ?_
                  refine E_iload_n at_X5_cast_28 rfl ?_
                  refine E_iconst (x := (-1)) at_X5_cast_29 (by decide) ?_
                  refine E_ic (t := 40) (b := true) at_X5_cast_30 rfl ((cn_ne (nI_toInt (by omega)) (by decide : (-1 : Int32).toInt = -1)).trans (decide_eq_true (by omega))) ?_
                  refine E_aload_n rfl rfl ?_
                  refine E_getfield (v := .ref 1) rfl w0 rfl (by decide) rfl ?_
                  refine E_iload_n rfl rfl ?_
                  refine E_iload_n rfl rfl ?_
                  refine E_iload_n rfl rfl ?_
                  have e3 : Ev ab_Z0 2 71 [.ref 1, .int (nI a1k), .int (nI a2k), .int (nI gj0)] (ww im lf s d k ls rf rz ra rn rq lt m1 m2 m3 m4 bd fc hd sz el s g fm hm so si sh ce ca td wa kp la bf oo bo pw ow tr) (none, (ww im lf (qs_P (qs_Y (qs_G (qs_U s ((qU s).set a1k (((qU s).getD a1k 0) - a2k))) ((qG s).set a1k (((qG s).getD a1k 0) + (nI 1)))) ((qY s) + (nI a2k))) (qGP (qP s) a1k gj0 (qN s))) d k ls rf rz ra rn rq lt m1 m2 m3 m4 bd fc hd sz el s g fm hm so si sh ce ca td wa kp la bf oo bo pw ow tr)) := by
                    refine Ef.in (md := mX4_grant) (L := [some (.ref 1), some (.int (nI a1k)), some (.int (nI a2k)), some (.int (nI gj0)), none]) rfl (Nat.le_of_ble_eq_true rfl) rfl ?_
                    refine E_aload_n at_X4_grant_0 rfl ?_
                    refine E_getfield (v := .ref 6) at_X4_grant_1 w1 rfl (by decide) rfl ?_
                    refine E_iload_n at_X4_grant_4 rfl ?_
                    refine E_dup2 at_X4_grant_5 ⟨rfl, rfl⟩ ?_
                    refine E_ialN (l := qU s) (v := (qU s).getD a1k 0) at_X4_grant_6 w6 (by omega) (by omega) rfl ?_
                    refine E_iload_n at_X4_grant_7 rfl ?_
                    refine E_isub (z := nI (((qU s).getD a1k 0) - a2k)) at_X4_grant_8 (pk_sub (by omega)) ?_
                    refine E_iasN (l := qU s) (cs2 := (ww im lf (qs_U s ((qU s).set a1k (((qU s).getD a1k 0) - a2k))) d k ls rf rz ra rn rq lt m1 m2 m3 m4 bd fc hd sz el s g fm hm so si sh ce ca td wa kp la bf oo bo pw ow tr)) at_X4_grant_9 w6 (by omega) (by omega) w_pt1_U ?_
                    refine E_aload_n at_X4_grant_10 rfl ?_
                    refine E_getfield (v := .ref 9) at_X4_grant_11 w1 rfl (by decide) rfl ?_
                    refine E_iload_n at_X4_grant_14 rfl ?_
                    refine E_dup2 at_X4_grant_15 ⟨rfl, rfl⟩ ?_
                    refine E_ialI (l := qG s) (v := (qG s).getD a1k 0) at_X4_grant_16 (w9v qg_GU) (by omega) (by omega) rfl ?_
                    refine E_iconst (x := nI 1) at_X4_grant_17 (by decide) ?_
                    refine E_iadd (z := ((qG s).getD a1k 0) + (nI 1)) at_X4_grant_18 rfl ?_
                    refine E_iasI (l := qG s) (cs2 := (ww im lf (qs_G (qs_U s ((qU s).set a1k (((qU s).getD a1k 0) - a2k))) ((qG s).set a1k (((qG s).getD a1k 0) + (nI 1)))) d k ls rf rz ra rn rq lt m1 m2 m3 m4 bd fc hd sz el s g fm hm so si sh ce ca td wa kp la bf oo bo pw ow tr)) at_X4_grant_19 (w9v qg_GU) (by omega) (by omega) w_pt1_G ?_
                    refine E_aload_n at_X4_grant_20 rfl ?_
                    refine E_dup at_X4_grant_21 rfl ?_
                    refine E_getfield (v := .int (qY s)) at_X4_grant_22 w1 rfl (by decide) (congrArg (fun z => some (Value.int z)) (qg_YG.trans qg_YU)) ?_
                    refine E_iload_n at_X4_grant_25 rfl ?_
                    refine E_iadd (z := (qY s) + (nI a2k)) at_X4_grant_26 rfl ?_
                    refine E_putfield (cs2 := (ww im lf (qs_Y (qs_G (qs_U s ((qU s).set a1k (((qU s).getD a1k 0) - a2k))) ((qG s).set a1k (((qG s).getD a1k 0) + (nI 1)))) ((qY s) + (nI a2k))) d k ls rf rz ra rn rq lt m1 m2 m3 m4 bd fc hd sz el s g fm hm so si sh ce ca td wa kp la bf oo bo pw ow tr)) at_X4_grant_27 w1 rfl (by decide) (Nat.le_of_ble_eq_true rfl) rfl rfl rfl w_pt1_Y ?_
                    refine E_iconst (x := nI 0) at_X4_grant_30 (by decide) ?_
                    refine E_istore (L2 := [some (.ref 1), some (.int (nI a1k)), some (.int (nI a2k)), some (.int (nI gj0)), some (.int (nI 0))]) at_X4_grant_31 rfl ?_
                    exact grant_s1 (s := (qs_Y (qs_G (qs_U s ((qU s).set a1k (((qU s).getD a1k 0) - a2k))) ((qG s).set a1k (((qG s).getD a1k 0) + (nI 1)))) ((qY s) + (nI a2k)))) (p := a1k) (n := a2k) (m := gj0) (l := qP s) (n1 := qN s) ((congrArg (qs_P _) (Eq.symm (qg_PY.trans (qg_PG.trans qg_PU)))).trans qs_Pself) (qg_NY.trans (qg_NG.trans qg_NU)) (by omega) (I).1.2.2.2 (by omega) (by omega)
                  refine E_callV (v := none) (As := [.ref 1, .int (nI a1k), .int (nI a2k), .int (nI gj0)]) (r0 := []) (cs2 := (ww im lf (qs_P (qs_Y (qs_G (qs_U s ((qU s).set a1k (((qU s).getD a1k 0) - a2k))) ((qG s).set a1k (((qG s).getD a1k 0) + (nI 1)))) ((qY s) + (nI a2k))) (qGP (qP s) a1k gj0 (qN s))) d k ls rf rz ra rn rq lt m1 m2 m3 m4 bd fc hd sz el s g fm hm so si sh ce ca td wa kp la bf oo bo pw ow tr)) rfl rfl rfl (Nat.le_of_ble_eq_true rfl) rfl (ab_rvOf w1 rfl) e3 (by decide) w_lens ?_
                  refine E_iload_n rfl rfl ?_
                  exact E_iret rfl rfl
                · show Ev ab_Z0 5 197 [.ref 65, .int (nI a1k), .int (nI a2k)] (ww im lf (qs_P (qs_Y (qs_G (qs_U s ((qU s).set a1k (((qU s).getD a1k 0) - a2k))) ((qG s).set a1k (((qG s).getD a1k 0) + (nI 1)))) ((qY s) + (nI a2k))) (qGP (qP s) a1k gj0 (qN s))) d k ls rf rz ra rn rq lt m1 m2 m3 m4 bd fc hd sz el s g fm hm so si sh ce ca td wa kp la bf oo bo pw ow tr) (some (.int (nI gj0)), (ww im lf (qs_P (qs_Y (qs_G (qs_U s ((qU s).set a1k (((qU s).getD a1k 0) - a2k))) ((qG s).set a1k (((qG s).getD a1k 0) + (nI 1)))) ((qY s) + (nI a2k))) (qGP (qP s) a1k gj0 (qN s))) d k ls rf rz ra rn rq lt m1 m2 m3 m4 bd fc hd sz el (qs_P (qs_Y (qs_G (qs_U s ((qU s).set a1k (((qU s).getD a1k 0) - a2k))) ((qG s).set a1k (((qG s).getD a1k 0) + (nI 1)))) ((qY s) + (nI a2k))) (qGP (qP s) a1k gj0 (qN s))) g fm hm so si sh ce ca td wa kp la (lsF (bst s (qPs s 99 (qN s)) (qN s) (2 ^ qN s))) oo bo pw ow tr))
                  refine Ef.in (md := mX6_cast) (L := [some (.ref 65), some (.int (nI a1k)), some (.int (nI a2k)), none]) rfl (Nat.le_of_ble_eq_true rfl) rfl ?_
                  refine E_aload_n at_X6_cast_0 rfl ?_
                  refine E_iload_n at_X6_cast_1 rfl ?_
                  refine E_callV (v := some (.int (nI 1))) (As := [.ref 65, .int (nI a1k)]) (r0 := []) (cs2 := (ww im lf (qs_P (qs_Y (qs_G (qs_U s ((qU s).set a1k (((qU s).getD a1k 0) - a2k))) ((qG s).set a1k (((qG s).getD a1k 0) + (nI 1)))) ((qY s) + (nI a2k))) (qGP (qP s) a1k gj0 (qN s))) d k ls rf rz ra rn rq lt m1 m2 m3 m4 bd fc hd sz el s g fm hm so si sh ce ca td wa kp la bf oo bo pw ow tr)) at_X6_cast_2 rfl rfl (Nat.le_of_ble_eq_true rfl) rfl (ab_rvOf w65 rfl) (L2_X6_isOne (by omega) (by omega) (by omega) (by omega)) (by decide) rfl ?_
                  refine E_if (t := 14) (b := true) at_X6_cast_5 rfl (by decide) ?_
                  refine E_aload_n at_X6_cast_14 rfl ?_
                  refine E_aload_n at_X6_cast_15 rfl ?_
                  refine E_bipush (x := nI 99) at_X6_cast_16 (by decide) ?_
                  refine E_callV (v := some (.int (nI (qPs s 99 (qN s))))) (As := [.ref 65, .int (nI 99)]) (r0 := [.ref 65]) (cs2 := (ww im lf (qs_P (qs_Y (qs_G (qs_U s ((qU s).set a1k (((qU s).getD a1k 0) - a2k))) ((qG s).set a1k (((qG s).getD a1k 0) + (nI 1)))) ((qY s) + (nI a2k))) (qGP (qP s) a1k gj0 (qN s))) d k ls rf rz ra rn rq lt m1 m2 m3 m4 bd fc hd sz el s g fm hm so si sh ce ca td wa kp la bf oo bo pw ow tr)) at_X6_cast_18 rfl rfl (Nat.le_of_ble_eq_true rfl) rfl (ab_rvOf w65 rfl) (mo_piecesOf w_m I (by omega)) (by decide) rfl ?_
                  refine E_callV (v := none) (As := [.ref 65, .int (nI (qPs s 99 (qN s)))]) (r0 := []) (cs2 := (ww im lf (qs_P (qs_Y (qs_G (qs_U s ((qU s).set a1k (((qU s).getD a1k 0) - a2k))) ((qG s).set a1k (((qG s).getD a1k 0) + (nI 1)))) ((qY s) + (nI a2k))) (qGP (qP s) a1k gj0 (qN s))) d k ls rf rz ra rn rq lt m1 m2 m3 m4 bd fc hd sz el s g fm hm so si sh ce ca td wa kp la (lsF (bst s (qPs s 99 (qN s)) (qN s) (2 ^ qN s))) oo bo pw ow tr)) at_X6_cast_21 rfl rfl (Nat.le_of_ble_eq_true rfl) rfl (ab_rvOf w65 rfl) (w_best (m := qPs s 99 (qN s)) I (by omega) (lr.2.2.2.2.2.2.2.2.2.2.2.2.2.2.2.1)) (by decide) w_lens ?_
                  refine E_aload_n at_X6_cast_24 rfl ?_
                  refine E_iload_n at_X6_cast_25 rfl ?_
                  refine E_iconst (x := nI 0) at_X6_cast_26 (by decide) ?_
                  refine E_bipush (x := nI 99) at_X6_cast_27 (by decide) ?_
                  refine E_callV (v := some (.int (nI 1))) (As := [.ref 65, .int (nI a2k), .int (nI 0), .int (nI 99)]) (r0 := []) (cs2 := (ww im lf (qs_P (qs_Y (qs_G (qs_U s ((qU s).set a1k (((qU s).getD a1k 0) - a2k))) ((qG s).set a1k (((qG s).getD a1k 0) + (nI 1)))) ((qY s) + (nI a2k))) (qGP (qP s) a1k gj0 (qN s))) d k ls rf rz ra rn rq lt m1 m2 m3 m4 bd fc hd sz el s g fm hm so si sh ce ca td wa kp la (lsF (bst s (qPs s 99 (qN s)) (qN s) (2 ^ qN s))) oo bo pw ow tr)) at_X6_cast_29 rfl rfl (Nat.le_of_ble_eq_true rfl) rfl (ab_rvOf w65 rfl) (L85_X6_isFrom (by omega) (by omega) (by omega)) (by decide) rfl ?_
                  refine E_if (t := 44) (b := false) at_X6_cast_32 rfl (by decide) ?_
                  refine E_aload_n at_X6_cast_35 rfl ?_
                  refine E_iload_n at_X6_cast_36 rfl ?_
                  refine E_iload_n at_X6_cast_37 rfl ?_
                  have e5 : Ev ab_Z0 4 176 [.ref 65, .int (nI a1k), .int (nI a2k)] (ww im lf (qs_P (qs_Y (qs_G (qs_U s ((qU s).set a1k (((qU s).getD a1k 0) - a2k))) ((qG s).set a1k (((qG s).getD a1k 0) + (nI 1)))) ((qY s) + (nI a2k))) (qGP (qP s) a1k gj0 (qN s))) d k ls rf rz ra rn rq lt m1 m2 m3 m4 bd fc hd sz el s g fm hm so si sh ce ca td wa kp la (lsF (bst s (qPs s 99 (qN s)) (qN s) (2 ^ qN s))) oo bo pw ow tr) (some (.int (nI gj0)), (ww im lf (qs_P (qs_Y (qs_G (qs_U s ((qU s).set a1k (((qU s).getD a1k 0) - a2k))) ((qG s).set a1k (((qG s).getD a1k 0) + (nI 1)))) ((qY s) + (nI a2k))) (qGP (qP s) a1k gj0 (qN s))) d k ls rf rz ra rn rq lt m1 m2 m3 m4 bd fc hd sz el s g fm hm so si sh ce ca td wa kp la (lsF (bst s (qPs s 99 (qN s)) (qN s) (2 ^ qN s))) oo bo pw ow tr)) := by
                    refine Ef.in (md := mX6_thrown) (L := [some (.ref 65), some (.int (nI a1k)), some (.int (nI a2k)), none]) rfl (Nat.le_of_ble_eq_true rfl) rfl ?_
                    refine E_iload_n at_X6_thrown_0 rfl ?_
                    refine E_aload_n at_X6_thrown_1 rfl ?_
                    refine E_iload_n at_X6_thrown_2 rfl ?_
                    refine E_aload_n at_X6_thrown_3 rfl ?_
                    refine E_getfield (v := .ref 73) at_X6_thrown_4 w65 rfl (by decide) rfl ?_
                    refine E_iload_n at_X6_thrown_7 rfl ?_
                    refine E_ialN (l := qW s) (v := (qW s).getD a1k 0) at_X6_thrown_8 w73 (by omega) (by omega) rfl ?_
                    refine E_callV (v := some (.int (nI (qPr s a1k ((qW s).getD a1k 0))))) (As := [.ref 65, .int (nI a1k), .int (nI ((qW s).getD a1k 0))]) (r0 := [.int (nI a2k)]) (cs2 := (ww im lf (qs_P (qs_Y (qs_G (qs_U s ((qU s).set a1k (((qU s).getD a1k 0) - a2k))) ((qG s).set a1k (((qG s).getD a1k 0) + (nI 1)))) ((qY s) + (nI a2k))) (qGP (qP s) a1k gj0 (qN s))) d k ls rf rz ra rn rq lt m1 m2 m3 m4 bd fc hd sz el s g fm hm so si sh ce ca td wa kp la (lsF (bst s (qPs s 99 (qN s)) (qN s) (2 ^ qN s))) oo bo pw ow tr)) at_X6_thrown_9 rfl rfl (Nat.le_of_ble_eq_true rfl) rfl (ab_rvOf w65 rfl) (mo_priceFor w_m I (by omega) (by omega)) (by decide) rfl ?_
                    refine E_isub (z := nI (a2k - (qPr s a1k ((qW s).getD a1k 0)))) at_X6_thrown_12 (pk_sub (by omega)) ?_
                    refine E_istore_n (L2 := [some (.ref 65), some (.int (nI a1k)), some (.int (nI a2k)), some (.int (nI (a2k - (qPr s a1k ((qW s).getD a1k 0)))))]) at_X6_thrown_13 rfl ?_
                    refine E_aload_n at_X6_thrown_14 rfl ?_
                    refine E_iload_n at_X6_thrown_15 rfl ?_
                    refine E_iconst (x := nI 0) at_X6_thrown_16 (by decide) ?_
                    refine E_bipush (x := nI 99) at_X6_thrown_17 (by decide) ?_
                    refine E_callV (v := some (.int (nI 1))) (As := [.ref 65, .int (nI a2k), .int (nI 0), .int (nI 99)]) (r0 := []) (cs2 := (ww im lf (qs_P (qs_Y (qs_G (qs_U s ((qU s).set a1k (((qU s).getD a1k 0) - a2k))) ((qG s).set a1k (((qG s).getD a1k 0) + (nI 1)))) ((qY s) + (nI a2k))) (qGP (qP s) a1k gj0 (qN s))) d k ls rf rz ra rn rq lt m1 m2 m3 m4 bd fc hd sz el s g fm hm so si sh ce ca td wa kp la (lsF (bst s (qPs s 99 (qN s)) (qN s) (2 ^ qN s))) oo bo pw ow tr)) at_X6_thrown_19 rfl rfl (Nat.le_of_ble_eq_true rfl) rfl (ab_rvOf w65 rfl) (L85_X6_isFrom (by omega) (by omega) (by omega)) (by decide) rfl ?_
                    refine E_if (t := 39) (b := false) at_X6_thrown_22 rfl (by decide) ?_
                    refine E_iload_n at_X6_thrown_25 rfl ?_
                    refine E_aload_n at_X6_thrown_26 rfl ?_
                    refine E_getfield (v := .ref 71) at_X6_thrown_27 w65 rfl (by decide) rfl ?_
                    refine E_iload_n at_X6_thrown_30 rfl ?_
                    refine E_ialN (l := qU s) (v := (qU s).getD a1k 0) at_X6_thrown_31 w71 (by omega) (by omega) rfl ?_
                    refine E_ic (t := 39) (b := false) at_X6_thrown_32 rfl ((cn_gt (nI_toInt (by omega)) (nI_toInt (by omega))).trans (decide_eq_false (by omega))) ?_
                    refine E_iload_n at_X6_thrown_35 rfl ?_
                    refine E_if (t := 43) (b := true) at_X6_thrown_36 rfl ((cn_ge (nI_toInt (by omega)) (by decide : (0 : Int32).toInt = 0)).trans (decide_eq_true (by omega))) ?_
                    refine E_aload_n at_X6_thrown_43 rfl ?_
                    refine E_iload_n at_X6_thrown_44 rfl ?_
                    have e4 : Ev ab_Z0 3 172 [.ref 65, .int (nI (a2k - (qPr s a1k ((qW s).getD a1k 0))))] (ww im lf (qs_P (qs_Y (qs_G (qs_U s ((qU s).set a1k (((qU s).getD a1k 0) - a2k))) ((qG s).set a1k (((qG s).getD a1k 0) + (nI 1)))) ((qY s) + (nI a2k))) (qGP (qP s) a1k gj0 (qN s))) d k ls rf rz ra rn rq lt m1 m2 m3 m4 bd fc hd sz el s g fm hm so si sh ce ca td wa kp la (lsF (bst s (qPs s 99 (qN s)) (qN s) (2 ^ qN s))) oo bo pw ow tr) (some (.int (nI gj0)), (ww im lf (qs_P (qs_Y (qs_G (qs_U s ((qU s).set a1k (((qU s).getD a1k 0) - a2k))) ((qG s).set a1k (((qG s).getD a1k 0) + (nI 1)))) ((qY s) + (nI a2k))) (qGP (qP s) a1k gj0 (qN s))) d k ls rf rz ra rn rq lt m1 m2 m3 m4 bd fc hd sz el s g fm hm so si sh ce ca td wa kp la (lsF (bst s (qPs s 99 (qN s)) (qN s) (2 ^ qN s))) oo bo pw ow tr)) := by
                      refine Ef.in (md := mX6_changeFor) (L := [some (.ref 65), some (.int (nI (a2k - (qPr s a1k ((qW s).getD a1k 0)))))]) rfl (Nat.le_of_ble_eq_true rfl) rfl ?_
                      refine E_aload_n at_X6_changeFor_0 rfl ?_
                      refine E_getfield (v := .int (qR s)) at_X6_changeFor_1 w65 rfl (by decide) rfl ?_
                      refine E_if (t := 16) (b := true) at_X6_changeFor_4 rfl ((cn_ne rfl (by decide : (0 : Int32).toInt = 0)).trans (decide_eq_true (by omega))) ?_
                      refine E_aload_n at_X6_changeFor_16 rfl ?_
                      refine E_iload_n at_X6_changeFor_17 rfl ?_
                      refine E_callV (v := some (.int (nI gj0))) (As := [.ref 65, .int (nI (a2k - (qPr s a1k ((qW s).getD a1k 0))))]) (r0 := []) (cs2 := (ww im lf (qs_P (qs_Y (qs_G (qs_U s ((qU s).set a1k (((qU s).getD a1k 0) - a2k))) ((qG s).set a1k (((qG s).getD a1k 0) + (nI 1)))) ((qY s) + (nI a2k))) (qGP (qP s) a1k gj0 (qN s))) d k ls rf rz ra rn rq lt m1 m2 m3 m4 bd fc hd sz el s g fm hm so si sh ce ca td wa kp la (lsF (bst s (qPs s 99 (qN s)) (qN s) (2 ^ qN s))) oo bo pw ow tr)) at_X6_changeFor_18 rfl rfl (Nat.le_of_ble_eq_true rfl) rfl (ab_rvOf w65 rfl) (Ev.g1 hg0 (mo_greedyFor w_m I (by omega))) (by decide) rfl ?_
                      exact E_iret at_X6_changeFor_21 rfl
                    refine E_callV (v := some (.int (nI gj0))) (As := [.ref 65, .int (nI (a2k - (qPr s a1k ((qW s).getD a1k 0))))]) (r0 := []) (cs2 := (ww im lf (qs_P (qs_Y (qs_G (qs_U s ((qU s).set a1k (((qU s).getD a1k 0) - a2k))) ((qG s).set a1k (((qG s).getD a1k 0) + (nI 1)))) ((qY s) + (nI a2k))) (qGP (qP s) a1k gj0 (qN s))) d k ls rf rz ra rn rq lt m1 m2 m3 m4 bd fc hd sz el s g fm hm so si sh ce ca td wa kp la (lsF (bst s (qPs s 99 (qN s)) (qN s) (2 ^ qN s))) oo bo pw ow tr)) at_X6_thrown_45 rfl rfl (Nat.le_of_ble_eq_true rfl) rfl (ab_rvOf w65 rfl) e4 (by decide) rfl ?_
                    exact E_iret at_X6_thrown_48 rfl
                  refine E_callV (v := some (.int (nI gj0))) (As := [.ref 65, .int (nI a1k), .int (nI a2k)]) (r0 := []) (cs2 := (ww im lf (qs_P (qs_Y (qs_G (qs_U s ((qU s).set a1k (((qU s).getD a1k 0) - a2k))) ((qG s).set a1k (((qG s).getD a1k 0) + (nI 1)))) ((qY s) + (nI a2k))) (qGP (qP s) a1k gj0 (qN s))) d k ls rf rz ra rn rq lt m1 m2 m3 m4 bd fc hd sz el s g fm hm so si sh ce ca td wa kp la (lsF (bst s (qPs s 99 (qN s)) (qN s) (2 ^ qN s))) oo bo pw ow tr)) at_X6_cast_38 rfl rfl (Nat.le_of_ble_eq_true rfl) rfl (ab_rvOf w65 rfl) e5 (by decide) rfl ?_
                  refine E_goto (t := 45) at_X6_cast_41 rfl ?_
                  refine E_istore_n (L2 := [some (.ref 65), some (.int (nI a1k)), some (.int (nI a2k)), some (.int (nI gj0))]) at_X6_cast_45 rfl ?_
                  refine E_iload_n at_X6_cast_46 rfl ?_
                  refine E_iconst (x := (-1)) at_X6_cast_47 (by decide) ?_
                  refine E_ic (t := 58) (b := true) at_X6_cast_48 rfl ((cn_ne (nI_toInt (by omega)) (by decide : (-1 : Int32).toInt = -1)).trans (decide_eq_true (by omega))) ?_
                  refine E_aload_n rfl rfl ?_
                  refine E_iload_n rfl rfl ?_
                  refine E_iload_n rfl rfl ?_
                  refine E_iload_n rfl rfl ?_
                  have e6 : Ev ab_Z0 1 183 [.ref 65, .int (nI a1k), .int (nI a2k), .int (nI gj0)] (ww im lf (qs_P (qs_Y (qs_G (qs_U s ((qU s).set a1k (((qU s).getD a1k 0) - a2k))) ((qG s).set a1k (((qG s).getD a1k 0) + (nI 1)))) ((qY s) + (nI a2k))) (qGP (qP s) a1k gj0 (qN s))) d k ls rf rz ra rn rq lt m1 m2 m3 m4 bd fc hd sz el s g fm hm so si sh ce ca td wa kp la (lsF (bst s (qPs s 99 (qN s)) (qN s) (2 ^ qN s))) oo bo pw ow tr) (none, (ww im lf (qs_P (qs_Y (qs_G (qs_U s ((qU s).set a1k (((qU s).getD a1k 0) - a2k))) ((qG s).set a1k (((qG s).getD a1k 0) + (nI 1)))) ((qY s) + (nI a2k))) (qGP (qP s) a1k gj0 (qN s))) d k ls rf rz ra rn rq lt m1 m2 m3 m4 bd fc hd sz el (qs_P (qs_Y (qs_G (qs_U s ((qU s).set a1k (((qU s).getD a1k 0) - a2k))) ((qG s).set a1k (((qG s).getD a1k 0) + (nI 1)))) ((qY s) + (nI a2k))) (qGP (qP s) a1k gj0 (qN s))) g fm hm so si sh ce ca td wa kp la (lsF (bst s (qPs s 99 (qN s)) (qN s) (2 ^ qN s))) oo bo pw ow tr)) := by
                    refine Ef.in (md := mX6_throwsIn) (L := [some (.ref 65), some (.int (nI a1k)), some (.int (nI a2k)), some (.int (nI gj0)), none]) rfl (Nat.le_of_ble_eq_true rfl) rfl ?_
                    refine E_aload_n at_X6_throwsIn_0 rfl ?_
                    refine E_getfield (v := .ref 71) at_X6_throwsIn_1 w65 rfl (by decide) rfl ?_
                    refine E_iload_n at_X6_throwsIn_4 rfl ?_
                    refine E_dup2 at_X6_throwsIn_5 ⟨rfl, rfl⟩ ?_
                    refine E_ialN (l := qU s) (v := (qU s).getD a1k 0) at_X6_throwsIn_6 w71 (by omega) (by omega) rfl ?_
                    refine E_iload_n at_X6_throwsIn_7 rfl ?_
                    refine E_isub (z := nI (((qU s).getD a1k 0) - a2k)) at_X6_throwsIn_8 (pk_sub (by omega)) ?_
                    refine E_iasN (l := qU s) (cs2 := (ww im lf (qs_P (qs_Y (qs_G (qs_U s ((qU s).set a1k (((qU s).getD a1k 0) - a2k))) ((qG s).set a1k (((qG s).getD a1k 0) + (nI 1)))) ((qY s) + (nI a2k))) (qGP (qP s) a1k gj0 (qN s))) d k ls rf rz ra rn rq lt m1 m2 m3 m4 bd fc hd sz el (qs_U s ((qU s).set a1k (((qU s).getD a1k 0) - a2k))) g fm hm so si sh ce ca td wa kp la (lsF (bst s (qPs s 99 (qN s)) (qN s) (2 ^ qN s))) oo bo pw ow tr)) at_X6_throwsIn_9 w71 (by omega) (by omega) w_pt65_U ?_
                    refine E_aload_n at_X6_throwsIn_10 rfl ?_
                    refine E_getfield (v := .ref 74) at_X6_throwsIn_11 w65 rfl (by decide) rfl ?_
                    refine E_iload_n at_X6_throwsIn_14 rfl ?_
                    refine E_dup2 at_X6_throwsIn_15 ⟨rfl, rfl⟩ ?_
                    refine E_ialI (l := qG s) (v := (qG s).getD a1k 0) at_X6_throwsIn_16 (w74v qg_GU) (by omega) (by omega) rfl ?_
                    refine E_iconst (x := nI 1) at_X6_throwsIn_17 (by decide) ?_
                    refine E_iadd (z := ((qG s).getD a1k 0) + (nI 1)) at_X6_throwsIn_18 rfl ?_
                    refine E_iasI (l := qG s) (cs2 := (ww im lf (qs_P (qs_Y (qs_G (qs_U s ((qU s).set a1k (((qU s).getD a1k 0) - a2k))) ((qG s).set a1k (((qG s).getD a1k 0) + (nI 1)))) ((qY s) + (nI a2k))) (qGP (qP s) a1k gj0 (qN s))) d k ls rf rz ra rn rq lt m1 m2 m3 m4 bd fc hd sz el (qs_G (qs_U s ((qU s).set a1k (((qU s).getD a1k 0) - a2k))) ((qG s).set a1k (((qG s).getD a1k 0) + (nI 1)))) g fm hm so si sh ce ca td wa kp la (lsF (bst s (qPs s 99 (qN s)) (qN s) (2 ^ qN s))) oo bo pw ow tr)) at_X6_throwsIn_19 (w74v qg_GU) (by omega) (by omega) w_pt65_G ?_
                    refine E_aload_n at_X6_throwsIn_20 rfl ?_
                    refine E_dup at_X6_throwsIn_21 rfl ?_
                    refine E_getfield (v := .int (qY s)) at_X6_throwsIn_22 w65 rfl (by decide) (congrArg (fun z => some (Value.int z)) (qg_YG.trans qg_YU)) ?_
                    refine E_iload_n at_X6_throwsIn_25 rfl ?_
                    refine E_iadd (z := (qY s) + (nI a2k)) at_X6_throwsIn_26 rfl ?_
                    refine E_putfield (cs2 := (ww im lf (qs_P (qs_Y (qs_G (qs_U s ((qU s).set a1k (((qU s).getD a1k 0) - a2k))) ((qG s).set a1k (((qG s).getD a1k 0) + (nI 1)))) ((qY s) + (nI a2k))) (qGP (qP s) a1k gj0 (qN s))) d k ls rf rz ra rn rq lt m1 m2 m3 m4 bd fc hd sz el (qs_Y (qs_G (qs_U s ((qU s).set a1k (((qU s).getD a1k 0) - a2k))) ((qG s).set a1k (((qG s).getD a1k 0) + (nI 1)))) ((qY s) + (nI a2k))) g fm hm so si sh ce ca td wa kp la (lsF (bst s (qPs s 99 (qN s)) (qN s) (2 ^ qN s))) oo bo pw ow tr)) at_X6_throwsIn_27 w65 rfl (by decide) (Nat.le_of_ble_eq_true rfl) rfl rfl rfl w_pt65_Y ?_
                    refine E_iconst (x := nI 0) at_X6_throwsIn_30 (by decide) ?_
                    refine E_istore (L2 := [some (.ref 65), some (.int (nI a1k)), some (.int (nI a2k)), some (.int (nI gj0)), some (.int (nI 0))]) at_X6_throwsIn_31 rfl ?_
                    exact grant_s65 (t := (qs_Y (qs_G (qs_U s ((qU s).set a1k (((qU s).getD a1k 0) - a2k))) ((qG s).set a1k (((qG s).getD a1k 0) + (nI 1)))) ((qY s) + (nI a2k)))) (p := a1k) (n := a2k) (m := gj0) (l := qP s) (n1 := qN s) ((congrArg (qs_P _) (Eq.symm (qg_PY.trans (qg_PG.trans qg_PU)))).trans qs_Pself) (qg_NY.trans (qg_NG.trans qg_NU)) (by omega) (I).1.2.2.2 (by omega) (by omega)
                  refine E_callV (v := none) (As := [.ref 65, .int (nI a1k), .int (nI a2k), .int (nI gj0)]) (r0 := []) (cs2 := (ww im lf (qs_P (qs_Y (qs_G (qs_U s ((qU s).set a1k (((qU s).getD a1k 0) - a2k))) ((qG s).set a1k (((qG s).getD a1k 0) + (nI 1)))) ((qY s) + (nI a2k))) (qGP (qP s) a1k gj0 (qN s))) d k ls rf rz ra rn rq lt m1 m2 m3 m4 bd fc hd sz el (qs_P (qs_Y (qs_G (qs_U s ((qU s).set a1k (((qU s).getD a1k 0) - a2k))) ((qG s).set a1k (((qG s).getD a1k 0) + (nI 1)))) ((qY s) + (nI a2k))) (qGP (qP s) a1k gj0 (qN s))) g fm hm so si sh ce ca td wa kp la (lsF (bst s (qPs s 99 (qN s)) (qN s) (2 ^ qN s))) oo bo pw ow tr)) rfl rfl rfl (Nat.le_of_ble_eq_true rfl) rfl (ab_rvOf w65 rfl) e6 (by decide) w_lens ?_
                  refine E_iload_n rfl rfl ?_
                  exact E_iret rfl rfl
                · exact ⟨(qI_P (qI_Y (qI_G (kU I (by omega)) (by simp only [List.length_set]; exact I.2.1.2.2.2.1))) ((qGP_len _ _ _ _).trans I.1.2.2.2) (qGP_pl (k := qM s) (by omega) (fun x hx => (I.2.2.2.1 x hx).2.2.2.2) _)), rfl, hf, iQ, iM, iT, (iS.n (s2 := (qs_P (qs_Y (qs_G (qs_U s ((qU s).set a1k (((qU s).getD a1k 0) - a2k))) ((qG s).set a1k (((qG s).getD a1k 0) + (nI 1)))) ((qY s) + (nI a2k))) (qGP (qP s) a1k gj0 (qN s)))) (Nat.le_refl _)), l_el, (lr.1), (lr.2.1), (lr.2.2.1), (lr.2.2.2.1), (lr.2.2.2.2.1), (lr.2.2.2.2.2.1), (lr.2.2.2.2.2.2.1), (lr.2.2.2.2.2.2.2.1), (lr.2.2.2.2.2.2.2.2.1), (lr.2.2.2.2.2.2.2.2.2.1), (lr.2.2.2.2.2.2.2.2.2.2.1), (lr.2.2.2.2.2.2.2.2.2.2.2.1), (lr.2.2.2.2.2.2.2.2.2.2.2.2.1), (lr.2.2.2.2.2.2.2.2.2.2.2.2.2.1), (lr.2.2.2.2.2.2.2.2.2.2.2.2.2.2.1), (lsF_len _), (lr.2.2.2.2.2.2.2.2.2.2.2.2.2.2.2.2.1), (lr.2.2.2.2.2.2.2.2.2.2.2.2.2.2.2.2.2.1), (lr.2.2.2.2.2.2.2.2.2.2.2.2.2.2.2.2.2.2.1), (lr.2.2.2.2.2.2.2.2.2.2.2.2.2.2.2.2.2.2.2.1), (lr.2.2.2.2.2.2.2.2.2.2.2.2.2.2.2.2.2.2.2.2)⟩
        · have er2 : (qR s).toInt = 1 := by rw [er]; rfl
          have := I2 a1k (by omega)
          have := qPr_in I a1k (w := ((qW s).getD a1k 0)) (by omega)
          have := qPs_in s 99 (i := qN s) (by omega)
          refine ⟨(-6), (im, lf, s, d, k, ls, rf, rz, ra, rn, rq, lt, m1, m2, m3, m4, bd, (fc.set 6 ((fc.getD 6 0) + (nI 1))), hd, sz, el, s, g, fm, hm, so, si, sh, ce, ca, td, wa, kp, la, bf, oo, bo, pw, ow, tr), (im, lf, s, d, k, ls, rf, rz, ra, rn, rq, lt, m1, m2, m3, m4, bd, (fc.set 6 ((fc.getD 6 0) + (nI 1))), hd, sz, el, s, g, (fm.set 6 ((fm.getD 6 0) + (nI 1))), hm, so, si, sh, ce, ca, td, wa, kp, la, (lsF (bst s (qPs s 99 (qN s)) (qN s) (2 ^ qN s))), oo, bo, pw, ow, tr), ?_, ?_, ?_⟩
          · show Ev ab_Z0 6 106 [.ref 0, .int (nI a1k), .int a2] (ww im lf s d k ls rf rz ra rn rq lt m1 m2 m3 m4 bd fc hd sz el s g fm hm so si sh ce ca td wa kp la bf oo bo pw ow tr) (some (.int (-6)), (ww im lf s d k ls rf rz ra rn rq lt m1 m2 m3 m4 bd (fc.set 6 ((fc.getD 6 0) + (nI 1))) hd sz el s g fm hm so si sh ce ca td wa kp la bf oo bo pw ow tr))
            refine Ef.in (md := mX5_cast) (L := [some (.ref 0), some (.int (nI a1k)), some (.int a2), none]) rfl (Nat.le_of_ble_eq_true rfl) rfl ?_
            refine E_aload_n at_X5_cast_0 rfl ?_
            refine E_getfield (v := .ref 1) at_X5_cast_1 w0 rfl (by decide) rfl ?_
            refine E_iload_n at_X5_cast_4 rfl ?_
            refine E_callV (v := some (.int (nI 1))) (As := [.ref 1, .int (nI a1k)]) (r0 := []) (cs2 := (ww im lf s d k ls rf rz ra rn rq lt m1 m2 m3 m4 bd fc hd sz el s g fm hm so si sh ce ca td wa kp la bf oo bo pw ow tr)) at_X5_cast_5 rfl rfl (Nat.le_of_ble_eq_true rfl) rfl (ab_rvOf w1 rfl) (L0_X4_isPerson (by omega) (by omega) (by omega) (by omega)) (by decide) rfl ?_
            refine E_if (t := 17) (b := true) at_X5_cast_8 rfl (by decide) ?_
            refine E_aload_n at_X5_cast_17 rfl ?_
            refine E_aload_n at_X5_cast_18 rfl ?_
            refine E_getfield (v := .ref 1) at_X5_cast_19 w0 rfl (by decide) rfl ?_
            refine E_iload_n at_X5_cast_22 rfl ?_
            refine E_iload_n at_X5_cast_23 rfl ?_
            have e1 : Ev ab_Z0 4 122 [.ref 0, .ref 1, .int (nI a1k), .int a2] (ww im lf s d k ls rf rz ra rn rq lt m1 m2 m3 m4 bd fc hd sz el s g fm hm so si sh ce ca td wa kp la bf oo bo pw ow tr) (some (.int (-1)), (ww im lf s d k ls rf rz ra rn rq lt m1 m2 m3 m4 bd fc hd sz el s g fm hm so si sh ce ca td wa kp la bf oo bo pw ow tr)) := by
              refine Ef.in (md := mX5_throwBy) (L := [some (.ref 0), some (.ref 1), some (.int (nI a1k)), some (.int a2), none]) rfl (Nat.le_of_ble_eq_true rfl) rfl ?_
              refine E_aload_n at_X5_throwBy_0 rfl ?_
              refine E_iload_n at_X5_throwBy_1 rfl ?_
              refine E_callV (v := some (.int (nI 1))) (As := [.ref 1, .int (nI a1k)]) (r0 := []) (cs2 := (ww im lf s d k ls rf rz ra rn rq lt m1 m2 m3 m4 bd fc hd sz el s g fm hm so si sh ce ca td wa kp la bf oo bo pw ow tr)) at_X5_throwBy_2 rfl rfl (Nat.le_of_ble_eq_true rfl) rfl (ab_rvOf w1 rfl) (L0_X4_isPerson (by omega) (by omega) (by omega) (by omega)) (by decide) rfl ?_
              refine E_if (t := 18) (b := false) at_X5_throwBy_5 rfl (by decide) ?_
              refine E_iload_n at_X5_throwBy_8 rfl ?_
              refine E_aload_n at_X5_throwBy_9 rfl ?_
              refine E_getfield (v := .ref 6) at_X5_throwBy_10 w1 rfl (by decide) rfl ?_
              refine E_iload_n at_X5_throwBy_13 rfl ?_
              refine E_ialN (l := qU s) (v := (qU s).getD a1k 0) at_X5_throwBy_14 w6 (by omega) (by omega) rfl ?_
              refine E_ic (t := 20) (b := true) at_X5_throwBy_15 rfl ((cn_le rfl (nI_toInt (by omega))).trans (decide_eq_true (by omega))) ?_
              refine E_aload_n at_X5_throwBy_20 rfl ?_
              refine E_iload_n at_X5_throwBy_21 rfl ?_
              refine E_aload_n at_X5_throwBy_22 rfl ?_
              refine E_getfield (v := .ref 8) at_X5_throwBy_23 w1 rfl (by decide) rfl ?_
              refine E_iload_n at_X5_throwBy_26 rfl ?_
              refine E_ialN (l := qW s) (v := (qW s).getD a1k 0) at_X5_throwBy_27 w8 (by omega) (by omega) rfl ?_
              refine E_callV (v := some (.int (nI (qPr s a1k ((qW s).getD a1k 0))))) (As := [.ref 1, .int (nI a1k), .int (nI ((qW s).getD a1k 0))]) (r0 := []) (cs2 := (ww im lf s d k ls rf rz ra rn rq lt m1 m2 m3 m4 bd fc hd sz el s g fm hm so si sh ce ca td wa kp la bf oo bo pw ow tr)) at_X5_throwBy_28 rfl rfl (Nat.le_of_ble_eq_true rfl) rfl (ab_rvOf w1 rfl) (sq_priceFor w_q1 I (by omega) (by omega)) (by decide) rfl ?_
              refine E_istore (L2 := [some (.ref 0), some (.ref 1), some (.int (nI a1k)), some (.int a2), some (.int (nI (qPr s a1k ((qW s).getD a1k 0))))]) at_X5_throwBy_31 rfl ?_
              refine E_iload_n at_X5_throwBy_33 rfl ?_
              refine E_iload at_X5_throwBy_34 rfl ?_
              refine E_ic (t := 43) (b := false) at_X5_throwBy_36 rfl ((cn_ge rfl (nI_toInt (by omega))).trans (decide_eq_false (by omega))) ?_
              refine E_iconst (x := (-1)) at_X5_throwBy_39 (by decide) ?_
              refine E_goto (t := 59) at_X5_throwBy_40 rfl ?_
              exact E_iret at_X5_throwBy_59 rfl
            refine E_callV (v := some (.int (-1))) (As := [.ref 0, .ref 1, .int (nI a1k), .int a2]) (r0 := []) (cs2 := (ww im lf s d k ls rf rz ra rn rq lt m1 m2 m3 m4 bd fc hd sz el s g fm hm so si sh ce ca td wa kp la bf oo bo pw ow tr)) at_X5_cast_24 rfl rfl (Nat.le_of_ble_eq_true rfl) rfl (ab_rvOf w0 rfl) e1 (by decide) rfl ?_
            refine E_istore_n (L2 := [some (.ref 0), some (.int (nI a1k)), some (.int a2), some (.int (-1))]) at_X5_cast_27 rfl ?_
            refine E_iload_n at_X5_cast_28 rfl ?_
            refine E_iconst (x := (-1)) at_X5_cast_29 (by decide) ?_
            refine E_ic (t := 40) (b := false) at_X5_cast_30 rfl (by decide) ?_
            refine E_aload_n at_X5_cast_33 rfl ?_
            refine E_bipush (x := nI 6) at_X5_cast_34 (by decide) ?_
            refine E_callV (v := some (.int (-6))) (As := [.ref 0, .int (nI 6)]) (r0 := []) (cs2 := (ww im lf s d k ls rf rz ra rn rq lt m1 m2 m3 m4 bd (fc.set 6 ((fc.getD 6 0) + (nI 1))) hd sz el s g fm hm so si sh ce ca td wa kp la bf oo bo pw ow tr)) at_X5_cast_36 rfl rfl (Nat.le_of_ble_eq_true rfl) rfl (ab_rvOf w0 rfl) (L26_X5_refuse (by omega)) (by decide) w_lens ?_
            exact E_iret at_X5_cast_39 rfl
          · show Ev ab_Z0 5 197 [.ref 65, .int (nI a1k), .int a2] (ww im lf s d k ls rf rz ra rn rq lt m1 m2 m3 m4 bd (fc.set 6 ((fc.getD 6 0) + (nI 1))) hd sz el s g fm hm so si sh ce ca td wa kp la bf oo bo pw ow tr) (some (.int (-6)), (ww im lf s d k ls rf rz ra rn rq lt m1 m2 m3 m4 bd (fc.set 6 ((fc.getD 6 0) + (nI 1))) hd sz el s g (fm.set 6 ((fm.getD 6 0) + (nI 1))) hm so si sh ce ca td wa kp la (lsF (bst s (qPs s 99 (qN s)) (qN s) (2 ^ qN s))) oo bo pw ow tr))
            refine Ef.in (md := mX6_cast) (L := [some (.ref 65), some (.int (nI a1k)), some (.int a2), none]) rfl (Nat.le_of_ble_eq_true rfl) rfl ?_
            refine E_aload_n at_X6_cast_0 rfl ?_
            refine E_iload_n at_X6_cast_1 rfl ?_
            refine E_callV (v := some (.int (nI 1))) (As := [.ref 65, .int (nI a1k)]) (r0 := []) (cs2 := (ww im lf s d k ls rf rz ra rn rq lt m1 m2 m3 m4 bd (fc.set 6 ((fc.getD 6 0) + (nI 1))) hd sz el s g fm hm so si sh ce ca td wa kp la bf oo bo pw ow tr)) at_X6_cast_2 rfl rfl (Nat.le_of_ble_eq_true rfl) rfl (ab_rvOf w65 rfl) (L2_X6_isOne (by omega) (by omega) (by omega) (by omega)) (by decide) rfl ?_
            refine E_if (t := 14) (b := true) at_X6_cast_5 rfl (by decide) ?_
            refine E_aload_n at_X6_cast_14 rfl ?_
            refine E_aload_n at_X6_cast_15 rfl ?_
            refine E_bipush (x := nI 99) at_X6_cast_16 (by decide) ?_
            refine E_callV (v := some (.int (nI (qPs s 99 (qN s))))) (As := [.ref 65, .int (nI 99)]) (r0 := [.ref 65]) (cs2 := (ww im lf s d k ls rf rz ra rn rq lt m1 m2 m3 m4 bd (fc.set 6 ((fc.getD 6 0) + (nI 1))) hd sz el s g fm hm so si sh ce ca td wa kp la bf oo bo pw ow tr)) at_X6_cast_18 rfl rfl (Nat.le_of_ble_eq_true rfl) rfl (ab_rvOf w65 rfl) (mo_piecesOf w_m I (by omega)) (by decide) rfl ?_
            refine E_callV (v := none) (As := [.ref 65, .int (nI (qPs s 99 (qN s)))]) (r0 := []) (cs2 := (ww im lf s d k ls rf rz ra rn rq lt m1 m2 m3 m4 bd (fc.set 6 ((fc.getD 6 0) + (nI 1))) hd sz el s g fm hm so si sh ce ca td wa kp la (lsF (bst s (qPs s 99 (qN s)) (qN s) (2 ^ qN s))) oo bo pw ow tr)) at_X6_cast_21 rfl rfl (Nat.le_of_ble_eq_true rfl) rfl (ab_rvOf w65 rfl) (w_best (m := qPs s 99 (qN s)) I (by omega) (lr.2.2.2.2.2.2.2.2.2.2.2.2.2.2.2.1)) (by decide) w_lens ?_
            refine E_aload_n at_X6_cast_24 rfl ?_
            refine E_iload_n at_X6_cast_25 rfl ?_
            refine E_iconst (x := nI 0) at_X6_cast_26 (by decide) ?_
            refine E_bipush (x := nI 99) at_X6_cast_27 (by decide) ?_
            refine E_callV (v := some (.int (nI 0))) (As := [.ref 65, .int a2, .int (nI 0), .int (nI 99)]) (r0 := []) (cs2 := (ww im lf s d k ls rf rz ra rn rq lt m1 m2 m3 m4 bd (fc.set 6 ((fc.getD 6 0) + (nI 1))) hd sz el s g fm hm so si sh ce ca td wa kp la (lsF (bst s (qPs s 99 (qN s)) (qN s) (2 ^ qN s))) oo bo pw ow tr)) at_X6_cast_29 rfl rfl (Nat.le_of_ble_eq_true rfl) rfl (ab_rvOf w65 rfl) (L89_X6_isFrom (by omega) (by omega)) (by decide) rfl ?_
            refine E_if (t := 44) (b := true) at_X6_cast_32 rfl (by decide) ?_
            refine E_iconst (x := (-1)) at_X6_cast_44 (by decide) ?_
            refine E_istore_n (L2 := [some (.ref 65), some (.int (nI a1k)), some (.int a2), some (.int (-1))]) at_X6_cast_45 rfl ?_
            refine E_iload_n at_X6_cast_46 rfl ?_
            refine E_iconst (x := (-1)) at_X6_cast_47 (by decide) ?_
            refine E_ic (t := 58) (b := false) at_X6_cast_48 rfl (by decide) ?_
            refine E_aload_n at_X6_cast_51 rfl ?_
            refine E_bipush (x := (-6)) at_X6_cast_52 (by decide) ?_
            refine E_callV (v := some (.int (-6))) (As := [.ref 65, .int (-6)]) (r0 := []) (cs2 := (ww im lf s d k ls rf rz ra rn rq lt m1 m2 m3 m4 bd (fc.set 6 ((fc.getD 6 0) + (nI 1))) hd sz el s g (fm.set 6 ((fm.getD 6 0) + (nI 1))) hm so si sh ce ca td wa kp la (lsF (bst s (qPs s 99 (qN s)) (qN s) (2 ^ qN s))) oo bo pw ow tr)) at_X6_cast_54 rfl rfl (Nat.le_of_ble_eq_true rfl) rfl (ab_rvOf w65 rfl) (L28_X6_no (by omega)) (by decide) w_lens ?_
            exact E_iret at_X6_cast_57 rfl
          · exact ⟨I, rfl, hf, iQ, iM, iT, iS, l_el, (lr.1), (lr.2.1), (lr.2.2.1), (by simp only [List.length_set]; exact (lr.2.2.2.1)), (by simp only [List.length_set]; exact (lr.2.2.2.2.1)), (lr.2.2.2.2.2.1), (lr.2.2.2.2.2.2.1), (lr.2.2.2.2.2.2.2.1), (lr.2.2.2.2.2.2.2.2.1), (lr.2.2.2.2.2.2.2.2.2.1), (lr.2.2.2.2.2.2.2.2.2.2.1), (lr.2.2.2.2.2.2.2.2.2.2.2.1), (lr.2.2.2.2.2.2.2.2.2.2.2.2.1), (lr.2.2.2.2.2.2.2.2.2.2.2.2.2.1), (lr.2.2.2.2.2.2.2.2.2.2.2.2.2.2.1), (lsF_len _), (lr.2.2.2.2.2.2.2.2.2.2.2.2.2.2.2.2.1), (lr.2.2.2.2.2.2.2.2.2.2.2.2.2.2.2.2.2.1), (lr.2.2.2.2.2.2.2.2.2.2.2.2.2.2.2.2.2.2.1), (lr.2.2.2.2.2.2.2.2.2.2.2.2.2.2.2.2.2.2.2.1), (lr.2.2.2.2.2.2.2.2.2.2.2.2.2.2.2.2.2.2.2.2)⟩
      · have er2 : (qR s).toInt = 1 := by rw [er]; rfl
        refine ⟨(-1), (im, lf, s, d, k, ls, rf, rz, ra, rn, rq, lt, m1, m2, m3, m4, bd, (fc.set 1 ((fc.getD 1 0) + (nI 1))), hd, sz, el, s, g, fm, hm, so, si, sh, ce, ca, td, wa, kp, la, bf, oo, bo, pw, ow, tr), (im, lf, s, d, k, ls, rf, rz, ra, rn, rq, lt, m1, m2, m3, m4, bd, (fc.set 1 ((fc.getD 1 0) + (nI 1))), hd, sz, el, s, g, (fm.set 1 ((fm.getD 1 0) + (nI 1))), hm, so, si, sh, ce, ca, td, wa, kp, la, bf, oo, bo, pw, ow, tr), ?_, ?_, ?_⟩
        · show Ev ab_Z0 6 106 [.ref 0, .int (nI a1k), .int a2] (ww im lf s d k ls rf rz ra rn rq lt m1 m2 m3 m4 bd fc hd sz el s g fm hm so si sh ce ca td wa kp la bf oo bo pw ow tr) (some (.int (-1)), (ww im lf s d k ls rf rz ra rn rq lt m1 m2 m3 m4 bd (fc.set 1 ((fc.getD 1 0) + (nI 1))) hd sz el s g fm hm so si sh ce ca td wa kp la bf oo bo pw ow tr))
          refine Ef.in (md := mX5_cast) (L := [some (.ref 0), some (.int (nI a1k)), some (.int a2), none]) rfl (Nat.le_of_ble_eq_true rfl) rfl ?_
          refine E_aload_n at_X5_cast_0 rfl ?_
          refine E_getfield (v := .ref 1) at_X5_cast_1 w0 rfl (by decide) rfl ?_
          refine E_iload_n at_X5_cast_4 rfl ?_
          refine E_callV (v := some (.int (nI 0))) (As := [.ref 1, .int (nI a1k)]) (r0 := []) (cs2 := (ww im lf s d k ls rf rz ra rn rq lt m1 m2 m3 m4 bd fc hd sz el s g fm hm so si sh ce ca td wa kp la bf oo bo pw ow tr)) at_X5_cast_5 rfl rfl (Nat.le_of_ble_eq_true rfl) rfl (ab_rvOf w1 rfl) (L11_X4_isPerson (by omega) (by omega) (by omega) (by omega)) (by decide) rfl ?_
          refine E_if (t := 17) (b := false) at_X5_cast_8 rfl (by decide) ?_
          refine E_aload_n at_X5_cast_11 rfl ?_
          refine E_iconst (x := nI 1) at_X5_cast_12 (by decide) ?_
          refine E_callV (v := some (.int (-1))) (As := [.ref 0, .int (nI 1)]) (r0 := []) (cs2 := (ww im lf s d k ls rf rz ra rn rq lt m1 m2 m3 m4 bd (fc.set 1 ((fc.getD 1 0) + (nI 1))) hd sz el s g fm hm so si sh ce ca td wa kp la bf oo bo pw ow tr)) at_X5_cast_13 rfl rfl (Nat.le_of_ble_eq_true rfl) rfl (ab_rvOf w0 rfl) (L6_X5_refuse (by omega)) (by decide) w_lens ?_
          exact E_iret at_X5_cast_16 rfl
        · show Ev ab_Z0 5 197 [.ref 65, .int (nI a1k), .int a2] (ww im lf s d k ls rf rz ra rn rq lt m1 m2 m3 m4 bd (fc.set 1 ((fc.getD 1 0) + (nI 1))) hd sz el s g fm hm so si sh ce ca td wa kp la bf oo bo pw ow tr) (some (.int (-1)), (ww im lf s d k ls rf rz ra rn rq lt m1 m2 m3 m4 bd (fc.set 1 ((fc.getD 1 0) + (nI 1))) hd sz el s g (fm.set 1 ((fm.getD 1 0) + (nI 1))) hm so si sh ce ca td wa kp la bf oo bo pw ow tr))
          refine Ef.in (md := mX6_cast) (L := [some (.ref 65), some (.int (nI a1k)), some (.int a2), none]) rfl (Nat.le_of_ble_eq_true rfl) rfl ?_
          refine E_aload_n at_X6_cast_0 rfl ?_
          refine E_iload_n at_X6_cast_1 rfl ?_
          refine E_callV (v := some (.int (nI 0))) (As := [.ref 65, .int (nI a1k)]) (r0 := []) (cs2 := (ww im lf s d k ls rf rz ra rn rq lt m1 m2 m3 m4 bd (fc.set 1 ((fc.getD 1 0) + (nI 1))) hd sz el s g fm hm so si sh ce ca td wa kp la bf oo bo pw ow tr)) at_X6_cast_2 rfl rfl (Nat.le_of_ble_eq_true rfl) rfl (ab_rvOf w65 rfl) (L12_X6_isOne (by omega) (by omega) (by omega) (by omega)) (by decide) rfl ?_
          refine E_if (t := 14) (b := false) at_X6_cast_5 rfl (by decide) ?_
          refine E_aload_n at_X6_cast_8 rfl ?_
          refine E_iconst (x := (-1)) at_X6_cast_9 (by decide) ?_
          refine E_callV (v := some (.int (-1))) (As := [.ref 65, .int (-1)]) (r0 := []) (cs2 := (ww im lf s d k ls rf rz ra rn rq lt m1 m2 m3 m4 bd (fc.set 1 ((fc.getD 1 0) + (nI 1))) hd sz el s g (fm.set 1 ((fm.getD 1 0) + (nI 1))) hm so si sh ce ca td wa kp la bf oo bo pw ow tr)) at_X6_cast_10 rfl rfl (Nat.le_of_ble_eq_true rfl) rfl (ab_rvOf w65 rfl) (L8_X6_no (by omega)) (by decide) w_lens ?_
          exact E_iret at_X6_cast_13 rfl
        · exact ⟨I, rfl, hf, iQ, iM, iT, iS, l_el, (lr.1), (lr.2.1), (lr.2.2.1), (by simp only [List.length_set]; exact (lr.2.2.2.1)), (by simp only [List.length_set]; exact (lr.2.2.2.2.1)), (lr.2.2.2.2.2.1), (lr.2.2.2.2.2.2.1), (lr.2.2.2.2.2.2.2.1), (lr.2.2.2.2.2.2.2.2.1), (lr.2.2.2.2.2.2.2.2.2.1), (lr.2.2.2.2.2.2.2.2.2.2.1), (lr.2.2.2.2.2.2.2.2.2.2.2.1), (lr.2.2.2.2.2.2.2.2.2.2.2.2.1), (lr.2.2.2.2.2.2.2.2.2.2.2.2.2.1), (lr.2.2.2.2.2.2.2.2.2.2.2.2.2.2.1), (lr.2.2.2.2.2.2.2.2.2.2.2.2.2.2.2.1), (lr.2.2.2.2.2.2.2.2.2.2.2.2.2.2.2.2.1), (lr.2.2.2.2.2.2.2.2.2.2.2.2.2.2.2.2.2.1), (lr.2.2.2.2.2.2.2.2.2.2.2.2.2.2.2.2.2.2.1), (lr.2.2.2.2.2.2.2.2.2.2.2.2.2.2.2.2.2.2.2.1), (lr.2.2.2.2.2.2.2.2.2.2.2.2.2.2.2.2.2.2.2.2)⟩
    · have er2 : (qR s).toInt = 1 := by rw [er]; rfl
      refine ⟨(-1), (im, lf, s, d, k, ls, rf, rz, ra, rn, rq, lt, m1, m2, m3, m4, bd, (fc.set 1 ((fc.getD 1 0) + (nI 1))), hd, sz, el, s, g, fm, hm, so, si, sh, ce, ca, td, wa, kp, la, bf, oo, bo, pw, ow, tr), (im, lf, s, d, k, ls, rf, rz, ra, rn, rq, lt, m1, m2, m3, m4, bd, (fc.set 1 ((fc.getD 1 0) + (nI 1))), hd, sz, el, s, g, (fm.set 1 ((fm.getD 1 0) + (nI 1))), hm, so, si, sh, ce, ca, td, wa, kp, la, bf, oo, bo, pw, ow, tr), ?_, ?_, ?_⟩
      · show Ev ab_Z0 6 106 [.ref 0, .int a1, .int a2] (ww im lf s d k ls rf rz ra rn rq lt m1 m2 m3 m4 bd fc hd sz el s g fm hm so si sh ce ca td wa kp la bf oo bo pw ow tr) (some (.int (-1)), (ww im lf s d k ls rf rz ra rn rq lt m1 m2 m3 m4 bd (fc.set 1 ((fc.getD 1 0) + (nI 1))) hd sz el s g fm hm so si sh ce ca td wa kp la bf oo bo pw ow tr))
        refine Ef.in (md := mX5_cast) (L := [some (.ref 0), some (.int a1), some (.int a2), none]) rfl (Nat.le_of_ble_eq_true rfl) rfl ?_
        refine E_aload_n at_X5_cast_0 rfl ?_
        refine E_getfield (v := .ref 1) at_X5_cast_1 w0 rfl (by decide) rfl ?_
        refine E_iload_n at_X5_cast_4 rfl ?_
        refine E_callV (v := some (.int (nI 0))) (As := [.ref 1, .int a1]) (r0 := []) (cs2 := (ww im lf s d k ls rf rz ra rn rq lt m1 m2 m3 m4 bd fc hd sz el s g fm hm so si sh ce ca td wa kp la bf oo bo pw ow tr)) at_X5_cast_5 rfl rfl (Nat.le_of_ble_eq_true rfl) rfl (ab_rvOf w1 rfl) (L13_X4_isPerson (by omega) (by omega)) (by decide) rfl ?_
        refine E_if (t := 17) (b := false) at_X5_cast_8 rfl (by decide) ?_
        refine E_aload_n at_X5_cast_11 rfl ?_
        refine E_iconst (x := nI 1) at_X5_cast_12 (by decide) ?_
        refine E_callV (v := some (.int (-1))) (As := [.ref 0, .int (nI 1)]) (r0 := []) (cs2 := (ww im lf s d k ls rf rz ra rn rq lt m1 m2 m3 m4 bd (fc.set 1 ((fc.getD 1 0) + (nI 1))) hd sz el s g fm hm so si sh ce ca td wa kp la bf oo bo pw ow tr)) at_X5_cast_13 rfl rfl (Nat.le_of_ble_eq_true rfl) rfl (ab_rvOf w0 rfl) (L6_X5_refuse (by omega)) (by decide) w_lens ?_
        exact E_iret at_X5_cast_16 rfl
      · show Ev ab_Z0 5 197 [.ref 65, .int a1, .int a2] (ww im lf s d k ls rf rz ra rn rq lt m1 m2 m3 m4 bd (fc.set 1 ((fc.getD 1 0) + (nI 1))) hd sz el s g fm hm so si sh ce ca td wa kp la bf oo bo pw ow tr) (some (.int (-1)), (ww im lf s d k ls rf rz ra rn rq lt m1 m2 m3 m4 bd (fc.set 1 ((fc.getD 1 0) + (nI 1))) hd sz el s g (fm.set 1 ((fm.getD 1 0) + (nI 1))) hm so si sh ce ca td wa kp la bf oo bo pw ow tr))
        refine Ef.in (md := mX6_cast) (L := [some (.ref 65), some (.int a1), some (.int a2), none]) rfl (Nat.le_of_ble_eq_true rfl) rfl ?_
        refine E_aload_n at_X6_cast_0 rfl ?_
        refine E_iload_n at_X6_cast_1 rfl ?_
        refine E_callV (v := some (.int (nI 0))) (As := [.ref 65, .int a1]) (r0 := []) (cs2 := (ww im lf s d k ls rf rz ra rn rq lt m1 m2 m3 m4 bd (fc.set 1 ((fc.getD 1 0) + (nI 1))) hd sz el s g fm hm so si sh ce ca td wa kp la bf oo bo pw ow tr)) at_X6_cast_2 rfl rfl (Nat.le_of_ble_eq_true rfl) rfl (ab_rvOf w65 rfl) (L14_X6_isOne (by omega) (by omega)) (by decide) rfl ?_
        refine E_if (t := 14) (b := false) at_X6_cast_5 rfl (by decide) ?_
        refine E_aload_n at_X6_cast_8 rfl ?_
        refine E_iconst (x := (-1)) at_X6_cast_9 (by decide) ?_
        refine E_callV (v := some (.int (-1))) (As := [.ref 65, .int (-1)]) (r0 := []) (cs2 := (ww im lf s d k ls rf rz ra rn rq lt m1 m2 m3 m4 bd (fc.set 1 ((fc.getD 1 0) + (nI 1))) hd sz el s g (fm.set 1 ((fm.getD 1 0) + (nI 1))) hm so si sh ce ca td wa kp la bf oo bo pw ow tr)) at_X6_cast_10 rfl rfl (Nat.le_of_ble_eq_true rfl) rfl (ab_rvOf w65 rfl) (L8_X6_no (by omega)) (by decide) w_lens ?_
        exact E_iret at_X6_cast_13 rfl
      · exact ⟨I, rfl, hf, iQ, iM, iT, iS, l_el, (lr.1), (lr.2.1), (lr.2.2.1), (by simp only [List.length_set]; exact (lr.2.2.2.1)), (by simp only [List.length_set]; exact (lr.2.2.2.2.1)), (lr.2.2.2.2.2.1), (lr.2.2.2.2.2.2.1), (lr.2.2.2.2.2.2.2.1), (lr.2.2.2.2.2.2.2.2.1), (lr.2.2.2.2.2.2.2.2.2.1), (lr.2.2.2.2.2.2.2.2.2.2.1), (lr.2.2.2.2.2.2.2.2.2.2.2.1), (lr.2.2.2.2.2.2.2.2.2.2.2.2.1), (lr.2.2.2.2.2.2.2.2.2.2.2.2.2.1), (lr.2.2.2.2.2.2.2.2.2.2.2.2.2.2.1), (lr.2.2.2.2.2.2.2.2.2.2.2.2.2.2.2.1), (lr.2.2.2.2.2.2.2.2.2.2.2.2.2.2.2.2.1), (lr.2.2.2.2.2.2.2.2.2.2.2.2.2.2.2.2.2.1), (lr.2.2.2.2.2.2.2.2.2.2.2.2.2.2.2.2.2.2.1), (lr.2.2.2.2.2.2.2.2.2.2.2.2.2.2.2.2.2.2.2.1), (lr.2.2.2.2.2.2.2.2.2.2.2.2.2.2.2.2.2.2.2.2)⟩
