/-! show; by program (wip/tools/op.py) -/
set_option maxHeartbeats 4000000 in
theorem op_show (x : St) (hx : wI x) (a1 : Int32) (a2 : Int32) : ∃ (r : Int32) (x1 x2 : St), Ev ab_Z0 3 80 [.ref 0, .int a1, .int a2] (wt x) (some (.int r), wt x1) ∧ Ev ab_Z0 2 139 [.ref 65, .int a1, .int a2] (wt x1) (some (.int r), wt x2) ∧ wI x2 := by
  obtain ⟨im, lf, s, d, k, ls, rf, rz, ra, rn, rq, lt, m1, m2, m3, m4, bd, fc, hd, sz, el, t, g, fm, hm, so, si, sh, ce, ca, td, wa, kp, la, bf, oo, bo, pw, ow, tr⟩ := x
  obtain ⟨I, ts, hf, iQ, iM, iT, iS, l_el, lr⟩ := hx
  replace lr : Hd _ := lr
  have l_fc := lr.2.2.2.1
  have l_fm := lr.2.2.2.2.1
  have l_hm := lr.2.2.2.2.2.1
  have l_sh := lr.2.2.2.2.2.2.2.2.1
  subst ts
  obtain ⟨⟨i0, i1, i2, i3⟩, ⟨i4, i5, i6, i7, i8⟩, ⟨i9, i10⟩, I1, I2, I3, I4⟩ := id I
  rcases ab_int a1 with ⟨a1k, f0, rfl⟩ | f0
  · by_cases f1 : a1k < 8
    · rcases ab_int a2 with ⟨a2k, f2, rfl⟩ | f2
      · by_cases f3 : a2k < (qN s)
        · rcases iS a1k (by omega) with ⟨u1, u2, u3⟩ | ⟨xq, u1, u2, u3, u4, u5⟩ | ⟨u1, u2, u3, u4, u5, u6⟩
          · refine ⟨(nI 1), (im, lf, s, d, k, ls, rf, rz, ra, rn, rq, lt, m1, m2, m3, m4, bd, fc, (fUp hd a1k (nI a2k)), (fUp sz a1k (nI 0)), el, s, g, fm, hm, so, si, sh, ce, ca, td, wa, kp, la, bf, oo, bo, pw, ow, tr), (im, lf, s, d, k, ls, rf, rz, ra, rn, rq, lt, m1, m2, m3, m4, bd, fc, (fUp hd a1k (nI a2k)), (fUp sz a1k (nI 0)), el, s, g, fm, (hm.set a1k 2), so, si, (sh.set a1k (nI a2k)), ce, ca, td, wa, kp, la, bf, oo, bo, pw, ow, tr), ?_, ?_, ?_⟩
            · show Ev ab_Z0 3 80 [.ref 0, .int (nI a1k), .int (nI a2k)] (ww im lf s d k ls rf rz ra rn rq lt m1 m2 m3 m4 bd fc hd sz el s g fm hm so si sh ce ca td wa kp la bf oo bo pw ow tr) (some (.int (nI 1)), (ww im lf s d k ls rf rz ra rn rq lt m1 m2 m3 m4 bd fc (fUp hd a1k (nI a2k)) (fUp sz a1k (nI 0)) el s g fm hm so si sh ce ca td wa kp la bf oo bo pw ow tr))
              refine Ef.in (md := mX5_show) (L := [some (.ref 0), some (.int (nI a1k)), some (.int (nI a2k))]) rfl (Nat.le_of_ble_eq_true rfl) rfl ?_
              refine E_iload_n at_X5_show_0 rfl ?_
              refine E_callS (v := some (.int (nI 1))) (As := [.int (nI a1k)]) (r0 := []) (cs2 := (ww im lf s d k ls rf rz ra rn rq lt m1 m2 m3 m4 bd fc hd sz el s g fm hm so si sh ce ca td wa kp la bf oo bo pw ow tr)) at_X5_show_1 rfl rfl (Nat.le_of_ble_eq_true rfl) rfl (L39_X5_isShelf (by omega) (by omega) (by omega)) (by decide) rfl ?_
              refine E_if (t := 23) (b := false) at_X5_show_4 rfl (by decide) ?_
              refine E_iload_n at_X5_show_7 rfl ?_
              refine E_iconst (x := (-1)) at_X5_show_8 (by decide) ?_
              refine E_ic (t := 29) (b := false) at_X5_show_9 rfl ((cn_eq (nI_toInt (by omega)) (by decide : (-1 : Int32).toInt = -1)).trans (decide_eq_false (by omega))) ?_
              refine E_aload_n at_X5_show_12 rfl ?_
              refine E_getfield (v := .ref 1) at_X5_show_13 w0 rfl (by decide) rfl ?_
              refine E_iload_n at_X5_show_16 rfl ?_
              refine E_callV (v := some (.int (nI 1))) (As := [.ref 1, .int (nI a2k)]) (r0 := []) (cs2 := (ww im lf s d k ls rf rz ra rn rq lt m1 m2 m3 m4 bd fc hd sz el s g fm hm so si sh ce ca td wa kp la bf oo bo pw ow tr)) at_X5_show_17 rfl rfl (Nat.le_of_ble_eq_true rfl) rfl (ab_rvOf w1 rfl) (L15_X4_isPiece (by omega) (by omega) (by omega) (by omega)) (by decide) rfl ?_
              refine E_if (t := 29) (b := true) at_X5_show_20 rfl (by decide) ?_
              refine E_aload_n at_X5_show_29 rfl ?_
              refine E_getfield (v := .ref 31) at_X5_show_30 w0 rfl (by decide) rfl ?_
              refine E_iload_n at_X5_show_33 rfl ?_
              refine E_aalN (b := 49 + 2 * a1k) at_X5_show_34 w31 (by omega) (w_shs (by omega)) ?_
              refine E_iload_n at_X5_show_35 rfl ?_
              have e1 : Ev ab_Z0 1 31 [.ref (49 + 2 * a1k), .int (nI a2k)] (ww im lf s d k ls rf rz ra rn rq lt m1 m2 m3 m4 bd fc hd sz el s g fm hm so si sh ce ca td wa kp la bf oo bo pw ow tr) (none, (ww im lf s d k ls rf rz ra rn rq lt m1 m2 m3 m4 bd fc (fUp hd a1k (nI a2k)) (fUp sz a1k (nI 0)) el s g fm hm so si sh ce ca td wa kp la bf oo bo pw ow tr)) := by
                refine Ef.in (md := mX3_holdPiece) (L := [some (.ref (49 + 2 * a1k)), some (.int (nI a2k))]) rfl (Nat.le_of_ble_eq_true rfl) rfl ?_
                refine E_aload_n at_X3_holdPiece_0 rfl ?_
                refine E_iload_n at_X3_holdPiece_1 rfl ?_
                refine E_putfield (cs2 := (ww im lf s d k ls rf rz ra rn rq lt m1 m2 m3 m4 bd fc (fUp hd a1k (nI a2k)) (fUp sz a1k (nI 0)) el s g fm hm so si sh ce ca td wa kp la bf oo bo pw ow tr)) at_X3_holdPiece_2 (w_shv (j := a1k) (by omega) u1 u2) rfl (by decide) (Nat.le_of_ble_eq_true rfl) rfl rfl rfl (w_shput (by omega)) ?_
                refine E_aload_n at_X3_holdPiece_5 rfl ?_
                refine E_iconst (x := nI 0) at_X3_holdPiece_6 (by decide) ?_
                refine E_putfield (cs2 := (ww im lf s d k ls rf rz ra rn rq lt m1 m2 m3 m4 bd fc (fUp hd a1k (nI a2k)) (fUp sz a1k (nI 0)) el s g fm hm so si sh ce ca td wa kp la bf oo bo pw ow tr)) at_X3_holdPiece_7 (w_shv (j := a1k) (by omega) fUp_eq fUp_eq) rfl (by decide) (Nat.le_of_ble_eq_true rfl) rfl rfl rfl (w_shput2 (by omega)) ?_
                exact E_vret at_X3_holdPiece_10 rfl
              refine E_callV (v := none) (As := [.ref (49 + 2 * a1k), .int (nI a2k)]) (r0 := []) (cs2 := (ww im lf s d k ls rf rz ra rn rq lt m1 m2 m3 m4 bd fc (fUp hd a1k (nI a2k)) (fUp sz a1k (nI 0)) el s g fm hm so si sh ce ca td wa kp la bf oo bo pw ow tr)) at_X5_show_36 rfl rfl (Nat.le_of_ble_eq_true rfl) rfl (ab_rvOf (w_shv (j := a1k) (by omega) u1 u2) rfl) e1 (by decide) w_lens ?_
              refine E_iload_n at_X5_show_39 rfl ?_
              refine E_iconst (x := (-1)) at_X5_show_40 (by decide) ?_
              refine E_ic (t := 48) (b := true) at_X5_show_41 rfl ((cn_ne (nI_toInt (by omega)) (by decide : (-1 : Int32).toInt = -1)).trans (decide_eq_true (by omega))) ?_
              refine E_iconst (x := nI 1) rfl (by decide) ?_
              exact E_iret at_X5_show_49 rfl
            · show Ev ab_Z0 2 139 [.ref 65, .int (nI a1k), .int (nI a2k)] (ww im lf s d k ls rf rz ra rn rq lt m1 m2 m3 m4 bd fc (fUp hd a1k (nI a2k)) (fUp sz a1k (nI 0)) el s g fm hm so si sh ce ca td wa kp la bf oo bo pw ow tr) (some (.int (nI 1)), (ww im lf s d k ls rf rz ra rn rq lt m1 m2 m3 m4 bd fc (fUp hd a1k (nI a2k)) (fUp sz a1k (nI 0)) el s g fm (hm.set a1k 2) so si (sh.set a1k (nI a2k)) ce ca td wa kp la bf oo bo pw ow tr))
              refine Ef.in (md := mX6_show) (L := [some (.ref 65), some (.int (nI a1k)), some (.int (nI a2k))]) rfl (Nat.le_of_ble_eq_true rfl) rfl ?_
              refine E_aload_n at_X6_show_0 rfl ?_
              refine E_iload_n at_X6_show_1 rfl ?_
              refine E_callV (v := some (.int (nI 1))) (As := [.ref 65, .int (nI a1k)]) (r0 := []) (cs2 := (ww im lf s d k ls rf rz ra rn rq lt m1 m2 m3 m4 bd fc (fUp hd a1k (nI a2k)) (fUp sz a1k (nI 0)) el s g fm hm so si sh ce ca td wa kp la bf oo bo pw ow tr)) at_X6_show_2 rfl rfl (Nat.le_of_ble_eq_true rfl) rfl (ab_rvOf w65 rfl) (L40_X6_isShelf (by omega) (by omega) (by omega)) (by decide) rfl ?_
              refine E_if (t := 21) (b := false) at_X6_show_5 rfl (by decide) ?_
              refine E_iload_n at_X6_show_8 rfl ?_
              refine E_iconst (x := (-1)) at_X6_show_9 (by decide) ?_
              refine E_ic (t := 27) (b := false) at_X6_show_10 rfl ((cn_eq (nI_toInt (by omega)) (by decide : (-1 : Int32).toInt = -1)).trans (decide_eq_false (by omega))) ?_
              refine E_aload_n at_X6_show_13 rfl ?_
              refine E_iload_n at_X6_show_14 rfl ?_
              refine E_callV (v := some (.int (nI 1))) (As := [.ref 65, .int (nI a2k)]) (r0 := []) (cs2 := (ww im lf s d k ls rf rz ra rn rq lt m1 m2 m3 m4 bd fc (fUp hd a1k (nI a2k)) (fUp sz a1k (nI 0)) el s g fm hm so si sh ce ca td wa kp la bf oo bo pw ow tr)) at_X6_show_15 rfl rfl (Nat.le_of_ble_eq_true rfl) rfl (ab_rvOf w65 rfl) (L16_X6_isPiece (by omega) (by omega) (by omega) (by omega)) (by decide) rfl ?_
              refine E_if (t := 27) (b := true) at_X6_show_18 rfl (by decide) ?_
              refine E_aload_n at_X6_show_27 rfl ?_
              refine E_getfield (v := .ref 76) at_X6_show_28 w65 rfl (by decide) rfl ?_
              refine E_iload_n at_X6_show_31 rfl ?_
              refine E_iload_n at_X6_show_32 rfl ?_
              refine E_iconst (x := (-1)) at_X6_show_33 (by decide) ?_
              refine E_ic (t := 41) (b := true) at_X6_show_34 rfl ((cn_ne (nI_toInt (by omega)) (by decide : (-1 : Int32).toInt = -1)).trans (decide_eq_true (by omega))) ?_
              refine E_iconst (x := nI 2) rfl (by decide) ?_
              refine E_iasN (l := hm) (cs2 := (ww im lf s d k ls rf rz ra rn rq lt m1 m2 m3 m4 bd fc (fUp hd a1k (nI a2k)) (fUp sz a1k (nI 0)) el s g fm (hm.set a1k 2) so si sh ce ca td wa kp la bf oo bo pw ow tr)) at_X6_show_42 w76 (by omega) (by omega) rfl ?_
              refine E_aload_n at_X6_show_43 rfl ?_
              refine E_getfield (v := .ref 79) at_X6_show_44 w65 rfl (by decide) rfl ?_
              refine E_iload_n at_X6_show_47 rfl ?_
              refine E_iload_n at_X6_show_48 rfl ?_
              refine E_iasI (l := sh) (cs2 := (ww im lf s d k ls rf rz ra rn rq lt m1 m2 m3 m4 bd fc (fUp hd a1k (nI a2k)) (fUp sz a1k (nI 0)) el s g fm (hm.set a1k 2) so si (sh.set a1k (nI a2k)) ce ca td wa kp la bf oo bo pw ow tr)) at_X6_show_49 w79 (by omega) (by omega) rfl ?_
              refine E_iload_n at_X6_show_50 rfl ?_
              refine E_iconst (x := (-1)) at_X6_show_51 (by decide) ?_
              refine E_ic (t := 59) (b := true) at_X6_show_52 rfl ((cn_ne (nI_toInt (by omega)) (by decide : (-1 : Int32).toInt = -1)).trans (decide_eq_true (by omega))) ?_
              refine E_iconst (x := nI 1) rfl (by decide) ?_
              exact E_iret at_X6_show_60 rfl
            · exact ⟨I, rfl, hf, iQ, iM, iT, (iS_piece (x := a2k) iS (by omega) (by omega) (lr.2.2.2.2.2.1) (lr.2.2.2.2.2.2.2.2.1)), l_el, (lr.1), (lr.2.1), (lr.2.2.1), (lr.2.2.2.1), (lr.2.2.2.2.1), (by simp only [List.length_set]; exact (lr.2.2.2.2.2.1)), (lr.2.2.2.2.2.2.1), (lr.2.2.2.2.2.2.2.1), (by simp only [List.length_set]; exact (lr.2.2.2.2.2.2.2.2.1)), (lr.2.2.2.2.2.2.2.2.2.1), (lr.2.2.2.2.2.2.2.2.2.2.1), (lr.2.2.2.2.2.2.2.2.2.2.2.1), (lr.2.2.2.2.2.2.2.2.2.2.2.2.1), (lr.2.2.2.2.2.2.2.2.2.2.2.2.2.1), (lr.2.2.2.2.2.2.2.2.2.2.2.2.2.2.1), (lr.2.2.2.2.2.2.2.2.2.2.2.2.2.2.2.1), (lr.2.2.2.2.2.2.2.2.2.2.2.2.2.2.2.2.1), (lr.2.2.2.2.2.2.2.2.2.2.2.2.2.2.2.2.2.1), (lr.2.2.2.2.2.2.2.2.2.2.2.2.2.2.2.2.2.2.1), (lr.2.2.2.2.2.2.2.2.2.2.2.2.2.2.2.2.2.2.2.1), (lr.2.2.2.2.2.2.2.2.2.2.2.2.2.2.2.2.2.2.2.2)⟩
          · refine ⟨(nI 1), (im, lf, s, d, k, ls, rf, rz, ra, rn, rq, lt, m1, m2, m3, m4, bd, fc, (fUp hd a1k (nI a2k)), (fUp sz a1k (nI 0)), el, s, g, fm, hm, so, si, sh, ce, ca, td, wa, kp, la, bf, oo, bo, pw, ow, tr), (im, lf, s, d, k, ls, rf, rz, ra, rn, rq, lt, m1, m2, m3, m4, bd, fc, (fUp hd a1k (nI a2k)), (fUp sz a1k (nI 0)), el, s, g, fm, (hm.set a1k 2), so, si, (sh.set a1k (nI a2k)), ce, ca, td, wa, kp, la, bf, oo, bo, pw, ow, tr), ?_, ?_, ?_⟩
            · show Ev ab_Z0 3 80 [.ref 0, .int (nI a1k), .int (nI a2k)] (ww im lf s d k ls rf rz ra rn rq lt m1 m2 m3 m4 bd fc hd sz el s g fm hm so si sh ce ca td wa kp la bf oo bo pw ow tr) (some (.int (nI 1)), (ww im lf s d k ls rf rz ra rn rq lt m1 m2 m3 m4 bd fc (fUp hd a1k (nI a2k)) (fUp sz a1k (nI 0)) el s g fm hm so si sh ce ca td wa kp la bf oo bo pw ow tr))
              refine Ef.in (md := mX5_show) (L := [some (.ref 0), some (.int (nI a1k)), some (.int (nI a2k))]) rfl (Nat.le_of_ble_eq_true rfl) rfl ?_
              refine E_iload_n at_X5_show_0 rfl ?_
              refine E_callS (v := some (.int (nI 1))) (As := [.int (nI a1k)]) (r0 := []) (cs2 := (ww im lf s d k ls rf rz ra rn rq lt m1 m2 m3 m4 bd fc hd sz el s g fm hm so si sh ce ca td wa kp la bf oo bo pw ow tr)) at_X5_show_1 rfl rfl (Nat.le_of_ble_eq_true rfl) rfl (L39_X5_isShelf (by omega) (by omega) (by omega)) (by decide) rfl ?_
              refine E_if (t := 23) (b := false) at_X5_show_4 rfl (by decide) ?_
              refine E_iload_n at_X5_show_7 rfl ?_
              refine E_iconst (x := (-1)) at_X5_show_8 (by decide) ?_
              refine E_ic (t := 29) (b := false) at_X5_show_9 rfl ((cn_eq (nI_toInt (by omega)) (by decide : (-1 : Int32).toInt = -1)).trans (decide_eq_false (by omega))) ?_
              refine E_aload_n at_X5_show_12 rfl ?_
              refine E_getfield (v := .ref 1) at_X5_show_13 w0 rfl (by decide) rfl ?_
              refine E_iload_n at_X5_show_16 rfl ?_
              refine E_callV (v := some (.int (nI 1))) (As := [.ref 1, .int (nI a2k)]) (r0 := []) (cs2 := (ww im lf s d k ls rf rz ra rn rq lt m1 m2 m3 m4 bd fc hd sz el s g fm hm so si sh ce ca td wa kp la bf oo bo pw ow tr)) at_X5_show_17 rfl rfl (Nat.le_of_ble_eq_true rfl) rfl (ab_rvOf w1 rfl) (L15_X4_isPiece (by omega) (by omega) (by omega) (by omega)) (by decide) rfl ?_
              refine E_if (t := 29) (b := true) at_X5_show_20 rfl (by decide) ?_
              refine E_aload_n at_X5_show_29 rfl ?_
              refine E_getfield (v := .ref 31) at_X5_show_30 w0 rfl (by decide) rfl ?_
              refine E_iload_n at_X5_show_33 rfl ?_
              refine E_aalN (b := 49 + 2 * a1k) at_X5_show_34 w31 (by omega) (w_shs (by omega)) ?_
              refine E_iload_n at_X5_show_35 rfl ?_
              have e1 : Ev ab_Z0 1 31 [.ref (49 + 2 * a1k), .int (nI a2k)] (ww im lf s d k ls rf rz ra rn rq lt m1 m2 m3 m4 bd fc hd sz el s g fm hm so si sh ce ca td wa kp la bf oo bo pw ow tr) (none, (ww im lf s d k ls rf rz ra rn rq lt m1 m2 m3 m4 bd fc (fUp hd a1k (nI a2k)) (fUp sz a1k (nI 0)) el s g fm hm so si sh ce ca td wa kp la bf oo bo pw ow tr)) := by
                refine Ef.in (md := mX3_holdPiece) (L := [some (.ref (49 + 2 * a1k)), some (.int (nI a2k))]) rfl (Nat.le_of_ble_eq_true rfl) rfl ?_
                refine E_aload_n at_X3_holdPiece_0 rfl ?_
                refine E_iload_n at_X3_holdPiece_1 rfl ?_
                refine E_putfield (cs2 := (ww im lf s d k ls rf rz ra rn rq lt m1 m2 m3 m4 bd fc (fUp hd a1k (nI a2k)) (fUp sz a1k (nI 0)) el s g fm hm so si sh ce ca td wa kp la bf oo bo pw ow tr)) at_X3_holdPiece_2 (w_shv (j := a1k) (by omega) u2 u3) rfl (by decide) (Nat.le_of_ble_eq_true rfl) rfl rfl rfl (w_shput (by omega)) ?_
                refine E_aload_n at_X3_holdPiece_5 rfl ?_
                refine E_iconst (x := nI 0) at_X3_holdPiece_6 (by decide) ?_
                refine E_putfield (cs2 := (ww im lf s d k ls rf rz ra rn rq lt m1 m2 m3 m4 bd fc (fUp hd a1k (nI a2k)) (fUp sz a1k (nI 0)) el s g fm hm so si sh ce ca td wa kp la bf oo bo pw ow tr)) at_X3_holdPiece_7 (w_shv (j := a1k) (by omega) fUp_eq fUp_eq) rfl (by decide) (Nat.le_of_ble_eq_true rfl) rfl rfl rfl (w_shput2 (by omega)) ?_
                exact E_vret at_X3_holdPiece_10 rfl
              refine E_callV (v := none) (As := [.ref (49 + 2 * a1k), .int (nI a2k)]) (r0 := []) (cs2 := (ww im lf s d k ls rf rz ra rn rq lt m1 m2 m3 m4 bd fc (fUp hd a1k (nI a2k)) (fUp sz a1k (nI 0)) el s g fm hm so si sh ce ca td wa kp la bf oo bo pw ow tr)) at_X5_show_36 rfl rfl (Nat.le_of_ble_eq_true rfl) rfl (ab_rvOf (w_shv (j := a1k) (by omega) u2 u3) rfl) e1 (by decide) w_lens ?_
              refine E_iload_n at_X5_show_39 rfl ?_
              refine E_iconst (x := (-1)) at_X5_show_40 (by decide) ?_
              refine E_ic (t := 48) (b := true) at_X5_show_41 rfl ((cn_ne (nI_toInt (by omega)) (by decide : (-1 : Int32).toInt = -1)).trans (decide_eq_true (by omega))) ?_
              refine E_iconst (x := nI 1) rfl (by decide) ?_
              exact E_iret at_X5_show_49 rfl
            · show Ev ab_Z0 2 139 [.ref 65, .int (nI a1k), .int (nI a2k)] (ww im lf s d k ls rf rz ra rn rq lt m1 m2 m3 m4 bd fc (fUp hd a1k (nI a2k)) (fUp sz a1k (nI 0)) el s g fm hm so si sh ce ca td wa kp la bf oo bo pw ow tr) (some (.int (nI 1)), (ww im lf s d k ls rf rz ra rn rq lt m1 m2 m3 m4 bd fc (fUp hd a1k (nI a2k)) (fUp sz a1k (nI 0)) el s g fm (hm.set a1k 2) so si (sh.set a1k (nI a2k)) ce ca td wa kp la bf oo bo pw ow tr))
              refine Ef.in (md := mX6_show) (L := [some (.ref 65), some (.int (nI a1k)), some (.int (nI a2k))]) rfl (Nat.le_of_ble_eq_true rfl) rfl ?_
              refine E_aload_n at_X6_show_0 rfl ?_
              refine E_iload_n at_X6_show_1 rfl ?_
              refine E_callV (v := some (.int (nI 1))) (As := [.ref 65, .int (nI a1k)]) (r0 := []) (cs2 := (ww im lf s d k ls rf rz ra rn rq lt m1 m2 m3 m4 bd fc (fUp hd a1k (nI a2k)) (fUp sz a1k (nI 0)) el s g fm hm so si sh ce ca td wa kp la bf oo bo pw ow tr)) at_X6_show_2 rfl rfl (Nat.le_of_ble_eq_true rfl) rfl (ab_rvOf w65 rfl) (L40_X6_isShelf (by omega) (by omega) (by omega)) (by decide) rfl ?_
              refine E_if (t := 21) (b := false) at_X6_show_5 rfl (by decide) ?_
              refine E_iload_n at_X6_show_8 rfl ?_
              refine E_iconst (x := (-1)) at_X6_show_9 (by decide) ?_
              refine E_ic (t := 27) (b := false) at_X6_show_10 rfl ((cn_eq (nI_toInt (by omega)) (by decide : (-1 : Int32).toInt = -1)).trans (decide_eq_false (by omega))) ?_
              refine E_aload_n at_X6_show_13 rfl ?_
              refine E_iload_n at_X6_show_14 rfl ?_
              refine E_callV (v := some (.int (nI 1))) (As := [.ref 65, .int (nI a2k)]) (r0 := []) (cs2 := (ww im lf s d k ls rf rz ra rn rq lt m1 m2 m3 m4 bd fc (fUp hd a1k (nI a2k)) (fUp sz a1k (nI 0)) el s g fm hm so si sh ce ca td wa kp la bf oo bo pw ow tr)) at_X6_show_15 rfl rfl (Nat.le_of_ble_eq_true rfl) rfl (ab_rvOf w65 rfl) (L16_X6_isPiece (by omega) (by omega) (by omega) (by omega)) (by decide) rfl ?_
              refine E_if (t := 27) (b := true) at_X6_show_18 rfl (by decide) ?_
              refine E_aload_n at_X6_show_27 rfl ?_
              refine E_getfield (v := .ref 76) at_X6_show_28 w65 rfl (by decide) rfl ?_
              refine E_iload_n at_X6_show_31 rfl ?_
              refine E_iload_n at_X6_show_32 rfl ?_
              refine E_iconst (x := (-1)) at_X6_show_33 (by decide) ?_
              refine E_ic (t := 41) (b := true) at_X6_show_34 rfl ((cn_ne (nI_toInt (by omega)) (by decide : (-1 : Int32).toInt = -1)).trans (decide_eq_true (by omega))) ?_
              refine E_iconst (x := nI 2) rfl (by decide) ?_
              refine E_iasN (l := hm) (cs2 := (ww im lf s d k ls rf rz ra rn rq lt m1 m2 m3 m4 bd fc (fUp hd a1k (nI a2k)) (fUp sz a1k (nI 0)) el s g fm (hm.set a1k 2) so si sh ce ca td wa kp la bf oo bo pw ow tr)) at_X6_show_42 w76 (by omega) (by omega) rfl ?_
              refine E_aload_n at_X6_show_43 rfl ?_
              refine E_getfield (v := .ref 79) at_X6_show_44 w65 rfl (by decide) rfl ?_
              refine E_iload_n at_X6_show_47 rfl ?_
              refine E_iload_n at_X6_show_48 rfl ?_
              refine E_iasI (l := sh) (cs2 := (ww im lf s d k ls rf rz ra rn rq lt m1 m2 m3 m4 bd fc (fUp hd a1k (nI a2k)) (fUp sz a1k (nI 0)) el s g fm (hm.set a1k 2) so si (sh.set a1k (nI a2k)) ce ca td wa kp la bf oo bo pw ow tr)) at_X6_show_49 w79 (by omega) (by omega) rfl ?_
              refine E_iload_n at_X6_show_50 rfl ?_
              refine E_iconst (x := (-1)) at_X6_show_51 (by decide) ?_
              refine E_ic (t := 59) (b := true) at_X6_show_52 rfl ((cn_ne (nI_toInt (by omega)) (by decide : (-1 : Int32).toInt = -1)).trans (decide_eq_true (by omega))) ?_
              refine E_iconst (x := nI 1) rfl (by decide) ?_
              exact E_iret at_X6_show_60 rfl
            · exact ⟨I, rfl, hf, iQ, iM, iT, (iS_piece (x := a2k) iS (by omega) (by omega) (lr.2.2.2.2.2.1) (lr.2.2.2.2.2.2.2.2.1)), l_el, (lr.1), (lr.2.1), (lr.2.2.1), (lr.2.2.2.1), (lr.2.2.2.2.1), (by simp only [List.length_set]; exact (lr.2.2.2.2.2.1)), (lr.2.2.2.2.2.2.1), (lr.2.2.2.2.2.2.2.1), (by simp only [List.length_set]; exact (lr.2.2.2.2.2.2.2.2.1)), (lr.2.2.2.2.2.2.2.2.2.1), (lr.2.2.2.2.2.2.2.2.2.2.1), (lr.2.2.2.2.2.2.2.2.2.2.2.1), (lr.2.2.2.2.2.2.2.2.2.2.2.2.1), (lr.2.2.2.2.2.2.2.2.2.2.2.2.2.1), (lr.2.2.2.2.2.2.2.2.2.2.2.2.2.2.1), (lr.2.2.2.2.2.2.2.2.2.2.2.2.2.2.2.1), (lr.2.2.2.2.2.2.2.2.2.2.2.2.2.2.2.2.1), (lr.2.2.2.2.2.2.2.2.2.2.2.2.2.2.2.2.2.1), (lr.2.2.2.2.2.2.2.2.2.2.2.2.2.2.2.2.2.2.1), (lr.2.2.2.2.2.2.2.2.2.2.2.2.2.2.2.2.2.2.2.1), (lr.2.2.2.2.2.2.2.2.2.2.2.2.2.2.2.2.2.2.2.2)⟩
          · refine ⟨(nI 1), (im, lf, s, d, k, ls, rf, rz, ra, rn, rq, lt, m1, m2, m3, m4, bd, fc, (fUp hd a1k (nI a2k)), (fUp sz a1k (nI 0)), el, s, g, fm, hm, so, si, sh, ce, ca, td, wa, kp, la, bf, oo, bo, pw, ow, tr), (im, lf, s, d, k, ls, rf, rz, ra, rn, rq, lt, m1, m2, m3, m4, bd, fc, (fUp hd a1k (nI a2k)), (fUp sz a1k (nI 0)), el, s, g, fm, (hm.set a1k 2), so, si, (sh.set a1k (nI a2k)), ce, ca, td, wa, kp, la, bf, oo, bo, pw, ow, tr), ?_, ?_, ?_⟩
            · show Ev ab_Z0 3 80 [.ref 0, .int (nI a1k), .int (nI a2k)] (ww im lf s d k ls rf rz ra rn rq lt m1 m2 m3 m4 bd fc hd sz el s g fm hm so si sh ce ca td wa kp la bf oo bo pw ow tr) (some (.int (nI 1)), (ww im lf s d k ls rf rz ra rn rq lt m1 m2 m3 m4 bd fc (fUp hd a1k (nI a2k)) (fUp sz a1k (nI 0)) el s g fm hm so si sh ce ca td wa kp la bf oo bo pw ow tr))
              refine Ef.in (md := mX5_show) (L := [some (.ref 0), some (.int (nI a1k)), some (.int (nI a2k))]) rfl (Nat.le_of_ble_eq_true rfl) rfl ?_
              refine E_iload_n at_X5_show_0 rfl ?_
              refine E_callS (v := some (.int (nI 1))) (As := [.int (nI a1k)]) (r0 := []) (cs2 := (ww im lf s d k ls rf rz ra rn rq lt m1 m2 m3 m4 bd fc hd sz el s g fm hm so si sh ce ca td wa kp la bf oo bo pw ow tr)) at_X5_show_1 rfl rfl (Nat.le_of_ble_eq_true rfl) rfl (L39_X5_isShelf (by omega) (by omega) (by omega)) (by decide) rfl ?_
              refine E_if (t := 23) (b := false) at_X5_show_4 rfl (by decide) ?_
              refine E_iload_n at_X5_show_7 rfl ?_
              refine E_iconst (x := (-1)) at_X5_show_8 (by decide) ?_
              refine E_ic (t := 29) (b := false) at_X5_show_9 rfl ((cn_eq (nI_toInt (by omega)) (by decide : (-1 : Int32).toInt = -1)).trans (decide_eq_false (by omega))) ?_
              refine E_aload_n at_X5_show_12 rfl ?_
              refine E_getfield (v := .ref 1) at_X5_show_13 w0 rfl (by decide) rfl ?_
              refine E_iload_n at_X5_show_16 rfl ?_
              refine E_callV (v := some (.int (nI 1))) (As := [.ref 1, .int (nI a2k)]) (r0 := []) (cs2 := (ww im lf s d k ls rf rz ra rn rq lt m1 m2 m3 m4 bd fc hd sz el s g fm hm so si sh ce ca td wa kp la bf oo bo pw ow tr)) at_X5_show_17 rfl rfl (Nat.le_of_ble_eq_true rfl) rfl (ab_rvOf w1 rfl) (L15_X4_isPiece (by omega) (by omega) (by omega) (by omega)) (by decide) rfl ?_
              refine E_if (t := 29) (b := true) at_X5_show_20 rfl (by decide) ?_
              refine E_aload_n at_X5_show_29 rfl ?_
              refine E_getfield (v := .ref 31) at_X5_show_30 w0 rfl (by decide) rfl ?_
              refine E_iload_n at_X5_show_33 rfl ?_
              refine E_aalN (b := 49 + 2 * a1k) at_X5_show_34 w31 (by omega) (w_shs (by omega)) ?_
              refine E_iload_n at_X5_show_35 rfl ?_
              have e1 : Ev ab_Z0 1 31 [.ref (49 + 2 * a1k), .int (nI a2k)] (ww im lf s d k ls rf rz ra rn rq lt m1 m2 m3 m4 bd fc hd sz el s g fm hm so si sh ce ca td wa kp la bf oo bo pw ow tr) (none, (ww im lf s d k ls rf rz ra rn rq lt m1 m2 m3 m4 bd fc (fUp hd a1k (nI a2k)) (fUp sz a1k (nI 0)) el s g fm hm so si sh ce ca td wa kp la bf oo bo pw ow tr)) := by
                refine Ef.in (md := mX3_holdPiece) (L := [some (.ref (49 + 2 * a1k)), some (.int (nI a2k))]) rfl (Nat.le_of_ble_eq_true rfl) rfl ?_
                refine E_aload_n at_X3_holdPiece_0 rfl ?_
                refine E_iload_n at_X3_holdPiece_1 rfl ?_
                refine E_putfield (cs2 := (ww im lf s d k ls rf rz ra rn rq lt m1 m2 m3 m4 bd fc (fUp hd a1k (nI a2k)) (fUp sz a1k (nI (si.getD a1k 0))) el s g fm hm so si sh ce ca td wa kp la bf oo bo pw ow tr)) at_X3_holdPiece_2 (w_shv (j := a1k) (by omega) u1 u2) rfl (by decide) (Nat.le_of_ble_eq_true rfl) rfl rfl rfl (w_shput (by omega)) ?_
                refine E_aload_n at_X3_holdPiece_5 rfl ?_
                refine E_iconst (x := nI 0) at_X3_holdPiece_6 (by decide) ?_
                refine E_putfield (cs2 := (ww im lf s d k ls rf rz ra rn rq lt m1 m2 m3 m4 bd fc (fUp hd a1k (nI a2k)) (fUp sz a1k (nI 0)) el s g fm hm so si sh ce ca td wa kp la bf oo bo pw ow tr)) at_X3_holdPiece_7 (w_shv (j := a1k) (by omega) fUp_eq fUp_eq) rfl (by decide) (Nat.le_of_ble_eq_true rfl) rfl rfl rfl (w_shput2 (by omega)) ?_
                exact E_vret at_X3_holdPiece_10 rfl
              refine E_callV (v := none) (As := [.ref (49 + 2 * a1k), .int (nI a2k)]) (r0 := []) (cs2 := (ww im lf s d k ls rf rz ra rn rq lt m1 m2 m3 m4 bd fc (fUp hd a1k (nI a2k)) (fUp sz a1k (nI 0)) el s g fm hm so si sh ce ca td wa kp la bf oo bo pw ow tr)) at_X5_show_36 rfl rfl (Nat.le_of_ble_eq_true rfl) rfl (ab_rvOf (w_shv (j := a1k) (by omega) u1 u2) rfl) e1 (by decide) w_lens ?_
              refine E_iload_n at_X5_show_39 rfl ?_
              refine E_iconst (x := (-1)) at_X5_show_40 (by decide) ?_
              refine E_ic (t := 48) (b := true) at_X5_show_41 rfl ((cn_ne (nI_toInt (by omega)) (by decide : (-1 : Int32).toInt = -1)).trans (decide_eq_true (by omega))) ?_
              refine E_iconst (x := nI 1) rfl (by decide) ?_
              exact E_iret at_X5_show_49 rfl
            · show Ev ab_Z0 2 139 [.ref 65, .int (nI a1k), .int (nI a2k)] (ww im lf s d k ls rf rz ra rn rq lt m1 m2 m3 m4 bd fc (fUp hd a1k (nI a2k)) (fUp sz a1k (nI 0)) el s g fm hm so si sh ce ca td wa kp la bf oo bo pw ow tr) (some (.int (nI 1)), (ww im lf s d k ls rf rz ra rn rq lt m1 m2 m3 m4 bd fc (fUp hd a1k (nI a2k)) (fUp sz a1k (nI 0)) el s g fm (hm.set a1k 2) so si (sh.set a1k (nI a2k)) ce ca td wa kp la bf oo bo pw ow tr))
              refine Ef.in (md := mX6_show) (L := [some (.ref 65), some (.int (nI a1k)), some (.int (nI a2k))]) rfl (Nat.le_of_ble_eq_true rfl) rfl ?_
              refine E_aload_n at_X6_show_0 rfl ?_
              refine E_iload_n at_X6_show_1 rfl ?_
              refine E_callV (v := some (.int (nI 1))) (As := [.ref 65, .int (nI a1k)]) (r0 := []) (cs2 := (ww im lf s d k ls rf rz ra rn rq lt m1 m2 m3 m4 bd fc (fUp hd a1k (nI a2k)) (fUp sz a1k (nI 0)) el s g fm hm so si sh ce ca td wa kp la bf oo bo pw ow tr)) at_X6_show_2 rfl rfl (Nat.le_of_ble_eq_true rfl) rfl (ab_rvOf w65 rfl) (L40_X6_isShelf (by omega) (by omega) (by omega)) (by decide) rfl ?_
              refine E_if (t := 21) (b := false) at_X6_show_5 rfl (by decide) ?_
              refine E_iload_n at_X6_show_8 rfl ?_
              refine E_iconst (x := (-1)) at_X6_show_9 (by decide) ?_
              refine E_ic (t := 27) (b := false) at_X6_show_10 rfl ((cn_eq (nI_toInt (by omega)) (by decide : (-1 : Int32).toInt = -1)).trans (decide_eq_false (by omega))) ?_
              refine E_aload_n at_X6_show_13 rfl ?_
              refine E_iload_n at_X6_show_14 rfl ?_
              refine E_callV (v := some (.int (nI 1))) (As := [.ref 65, .int (nI a2k)]) (r0 := []) (cs2 := (ww im lf s d k ls rf rz ra rn rq lt m1 m2 m3 m4 bd fc (fUp hd a1k (nI a2k)) (fUp sz a1k (nI 0)) el s g fm hm so si sh ce ca td wa kp la bf oo bo pw ow tr)) at_X6_show_15 rfl rfl (Nat.le_of_ble_eq_true rfl) rfl (ab_rvOf w65 rfl) (L16_X6_isPiece (by omega) (by omega) (by omega) (by omega)) (by decide) rfl ?_
              refine E_if (t := 27) (b := true) at_X6_show_18 rfl (by decide) ?_
              refine E_aload_n at_X6_show_27 rfl ?_
              refine E_getfield (v := .ref 76) at_X6_show_28 w65 rfl (by decide) rfl ?_
              refine E_iload_n at_X6_show_31 rfl ?_
              refine E_iload_n at_X6_show_32 rfl ?_
              refine E_iconst (x := (-1)) at_X6_show_33 (by decide) ?_
              refine E_ic (t := 41) (b := true) at_X6_show_34 rfl ((cn_ne (nI_toInt (by omega)) (by decide : (-1 : Int32).toInt = -1)).trans (decide_eq_true (by omega))) ?_
              refine E_iconst (x := nI 2) rfl (by decide) ?_
              refine E_iasN (l := hm) (cs2 := (ww im lf s d k ls rf rz ra rn rq lt m1 m2 m3 m4 bd fc (fUp hd a1k (nI a2k)) (fUp sz a1k (nI 0)) el s g fm (hm.set a1k 2) so si sh ce ca td wa kp la bf oo bo pw ow tr)) at_X6_show_42 w76 (by omega) (by omega) rfl ?_
              refine E_aload_n at_X6_show_43 rfl ?_
              refine E_getfield (v := .ref 79) at_X6_show_44 w65 rfl (by decide) rfl ?_
              refine E_iload_n at_X6_show_47 rfl ?_
              refine E_iload_n at_X6_show_48 rfl ?_
              refine E_iasI (l := sh) (cs2 := (ww im lf s d k ls rf rz ra rn rq lt m1 m2 m3 m4 bd fc (fUp hd a1k (nI a2k)) (fUp sz a1k (nI 0)) el s g fm (hm.set a1k 2) so si (sh.set a1k (nI a2k)) ce ca td wa kp la bf oo bo pw ow tr)) at_X6_show_49 w79 (by omega) (by omega) rfl ?_
              refine E_iload_n at_X6_show_50 rfl ?_
              refine E_iconst (x := (-1)) at_X6_show_51 (by decide) ?_
              refine E_ic (t := 59) (b := true) at_X6_show_52 rfl ((cn_ne (nI_toInt (by omega)) (by decide : (-1 : Int32).toInt = -1)).trans (decide_eq_true (by omega))) ?_
              refine E_iconst (x := nI 1) rfl (by decide) ?_
              exact E_iret at_X6_show_60 rfl
            · exact ⟨I, rfl, hf, iQ, iM, iT, (iS_piece (x := a2k) iS (by omega) (by omega) (lr.2.2.2.2.2.1) (lr.2.2.2.2.2.2.2.2.1)), l_el, (lr.1), (lr.2.1), (lr.2.2.1), (lr.2.2.2.1), (lr.2.2.2.2.1), (by simp only [List.length_set]; exact (lr.2.2.2.2.2.1)), (lr.2.2.2.2.2.2.1), (lr.2.2.2.2.2.2.2.1), (by simp only [List.length_set]; exact (lr.2.2.2.2.2.2.2.2.1)), (lr.2.2.2.2.2.2.2.2.2.1), (lr.2.2.2.2.2.2.2.2.2.2.1), (lr.2.2.2.2.2.2.2.2.2.2.2.1), (lr.2.2.2.2.2.2.2.2.2.2.2.2.1), (lr.2.2.2.2.2.2.2.2.2.2.2.2.2.1), (lr.2.2.2.2.2.2.2.2.2.2.2.2.2.2.1), (lr.2.2.2.2.2.2.2.2.2.2.2.2.2.2.2.1), (lr.2.2.2.2.2.2.2.2.2.2.2.2.2.2.2.2.1), (lr.2.2.2.2.2.2.2.2.2.2.2.2.2.2.2.2.2.1), (lr.2.2.2.2.2.2.2.2.2.2.2.2.2.2.2.2.2.2.1), (lr.2.2.2.2.2.2.2.2.2.2.2.2.2.2.2.2.2.2.2.1), (lr.2.2.2.2.2.2.2.2.2.2.2.2.2.2.2.2.2.2.2.2)⟩
        · refine ⟨(-1), (im, lf, s, d, k, ls, rf, rz, ra, rn, rq, lt, m1, m2, m3, m4, bd, (fc.set 1 ((fc.getD 1 0) + (nI 1))), hd, sz, el, s, g, fm, hm, so, si, sh, ce, ca, td, wa, kp, la, bf, oo, bo, pw, ow, tr), (im, lf, s, d, k, ls, rf, rz, ra, rn, rq, lt, m1, m2, m3, m4, bd, (fc.set 1 ((fc.getD 1 0) + (nI 1))), hd, sz, el, s, g, (fm.set 1 ((fm.getD 1 0) + (nI 1))), hm, so, si, sh, ce, ca, td, wa, kp, la, bf, oo, bo, pw, ow, tr), ?_, ?_, ?_⟩
          · show Ev ab_Z0 3 80 [.ref 0, .int (nI a1k), .int (nI a2k)] (ww im lf s d k ls rf rz ra rn rq lt m1 m2 m3 m4 bd fc hd sz el s g fm hm so si sh ce ca td wa kp la bf oo bo pw ow tr) (some (.int (-1)), (ww im lf s d k ls rf rz ra rn rq lt m1 m2 m3 m4 bd (fc.set 1 ((fc.getD 1 0) + (nI 1))) hd sz el s g fm hm so si sh ce ca td wa kp la bf oo bo pw ow tr))
            refine Ef.in (md := mX5_show) (L := [some (.ref 0), some (.int (nI a1k)), some (.int (nI a2k))]) rfl (Nat.le_of_ble_eq_true rfl) rfl ?_
            refine E_iload_n at_X5_show_0 rfl ?_
            refine E_callS (v := some (.int (nI 1))) (As := [.int (nI a1k)]) (r0 := []) (cs2 := (ww im lf s d k ls rf rz ra rn rq lt m1 m2 m3 m4 bd fc hd sz el s g fm hm so si sh ce ca td wa kp la bf oo bo pw ow tr)) at_X5_show_1 rfl rfl (Nat.le_of_ble_eq_true rfl) rfl (L39_X5_isShelf (by omega) (by omega) (by omega)) (by decide) rfl ?_
            refine E_if (t := 23) (b := false) at_X5_show_4 rfl (by decide) ?_
            refine E_iload_n at_X5_show_7 rfl ?_
            refine E_iconst (x := (-1)) at_X5_show_8 (by decide) ?_
            refine E_ic (t := 29) (b := false) at_X5_show_9 rfl ((cn_eq (nI_toInt (by omega)) (by decide : (-1 : Int32).toInt = -1)).trans (decide_eq_false (by omega))) ?_
            refine E_aload_n at_X5_show_12 rfl ?_
            refine E_getfield (v := .ref 1) at_X5_show_13 w0 rfl (by decide) rfl ?_
            refine E_iload_n at_X5_show_16 rfl ?_
            refine E_callV (v := some (.int (nI 0))) (As := [.ref 1, .int (nI a2k)]) (r0 := []) (cs2 := (ww im lf s d k ls rf rz ra rn rq lt m1 m2 m3 m4 bd fc hd sz el s g fm hm so si sh ce ca td wa kp la bf oo bo pw ow tr)) at_X5_show_17 rfl rfl (Nat.le_of_ble_eq_true rfl) rfl (ab_rvOf w1 rfl) (L20_X4_isPiece (by omega) (by omega) (by omega) (by omega)) (by decide) rfl ?_
            refine E_if (t := 29) (b := false) at_X5_show_20 rfl (by decide) ?_
            refine E_aload_n at_X5_show_23 rfl ?_
            refine E_iconst (x := nI 1) at_X5_show_24 (by decide) ?_
            refine E_callV (v := some (.int (-1))) (As := [.ref 0, .int (nI 1)]) (r0 := []) (cs2 := (ww im lf s d k ls rf rz ra rn rq lt m1 m2 m3 m4 bd (fc.set 1 ((fc.getD 1 0) + (nI 1))) hd sz el s g fm hm so si sh ce ca td wa kp la bf oo bo pw ow tr)) at_X5_show_25 rfl rfl (Nat.le_of_ble_eq_true rfl) rfl (ab_rvOf w0 rfl) (L6_X5_refuse (by omega)) (by decide) w_lens ?_
            exact E_iret at_X5_show_28 rfl
          · show Ev ab_Z0 2 139 [.ref 65, .int (nI a1k), .int (nI a2k)] (ww im lf s d k ls rf rz ra rn rq lt m1 m2 m3 m4 bd (fc.set 1 ((fc.getD 1 0) + (nI 1))) hd sz el s g fm hm so si sh ce ca td wa kp la bf oo bo pw ow tr) (some (.int (-1)), (ww im lf s d k ls rf rz ra rn rq lt m1 m2 m3 m4 bd (fc.set 1 ((fc.getD 1 0) + (nI 1))) hd sz el s g (fm.set 1 ((fm.getD 1 0) + (nI 1))) hm so si sh ce ca td wa kp la bf oo bo pw ow tr))
            refine Ef.in (md := mX6_show) (L := [some (.ref 65), some (.int (nI a1k)), some (.int (nI a2k))]) rfl (Nat.le_of_ble_eq_true rfl) rfl ?_
            refine E_aload_n at_X6_show_0 rfl ?_
            refine E_iload_n at_X6_show_1 rfl ?_
            refine E_callV (v := some (.int (nI 1))) (As := [.ref 65, .int (nI a1k)]) (r0 := []) (cs2 := (ww im lf s d k ls rf rz ra rn rq lt m1 m2 m3 m4 bd (fc.set 1 ((fc.getD 1 0) + (nI 1))) hd sz el s g fm hm so si sh ce ca td wa kp la bf oo bo pw ow tr)) at_X6_show_2 rfl rfl (Nat.le_of_ble_eq_true rfl) rfl (ab_rvOf w65 rfl) (L40_X6_isShelf (by omega) (by omega) (by omega)) (by decide) rfl ?_
            refine E_if (t := 21) (b := false) at_X6_show_5 rfl (by decide) ?_
            refine E_iload_n at_X6_show_8 rfl ?_
            refine E_iconst (x := (-1)) at_X6_show_9 (by decide) ?_
            refine E_ic (t := 27) (b := false) at_X6_show_10 rfl ((cn_eq (nI_toInt (by omega)) (by decide : (-1 : Int32).toInt = -1)).trans (decide_eq_false (by omega))) ?_
            refine E_aload_n at_X6_show_13 rfl ?_
            refine E_iload_n at_X6_show_14 rfl ?_
            refine E_callV (v := some (.int (nI 0))) (As := [.ref 65, .int (nI a2k)]) (r0 := []) (cs2 := (ww im lf s d k ls rf rz ra rn rq lt m1 m2 m3 m4 bd (fc.set 1 ((fc.getD 1 0) + (nI 1))) hd sz el s g fm hm so si sh ce ca td wa kp la bf oo bo pw ow tr)) at_X6_show_15 rfl rfl (Nat.le_of_ble_eq_true rfl) rfl (ab_rvOf w65 rfl) (L21_X6_isPiece (by omega) (by omega) (by omega) (by omega)) (by decide) rfl ?_
            refine E_if (t := 27) (b := false) at_X6_show_18 rfl (by decide) ?_
            refine E_aload_n at_X6_show_21 rfl ?_
            refine E_iconst (x := (-1)) at_X6_show_22 (by decide) ?_
            refine E_callV (v := some (.int (-1))) (As := [.ref 65, .int (-1)]) (r0 := []) (cs2 := (ww im lf s d k ls rf rz ra rn rq lt m1 m2 m3 m4 bd (fc.set 1 ((fc.getD 1 0) + (nI 1))) hd sz el s g (fm.set 1 ((fm.getD 1 0) + (nI 1))) hm so si sh ce ca td wa kp la bf oo bo pw ow tr)) at_X6_show_23 rfl rfl (Nat.le_of_ble_eq_true rfl) rfl (ab_rvOf w65 rfl) (L8_X6_no (by omega)) (by decide) w_lens ?_
            exact E_iret at_X6_show_26 rfl
          · exact ⟨I, rfl, hf, iQ, iM, iT, iS, l_el, (lr.1), (lr.2.1), (lr.2.2.1), (by simp only [List.length_set]; exact (lr.2.2.2.1)), (by simp only [List.length_set]; exact (lr.2.2.2.2.1)), (lr.2.2.2.2.2.1), (lr.2.2.2.2.2.2.1), (lr.2.2.2.2.2.2.2.1), (lr.2.2.2.2.2.2.2.2.1), (lr.2.2.2.2.2.2.2.2.2.1), (lr.2.2.2.2.2.2.2.2.2.2.1), (lr.2.2.2.2.2.2.2.2.2.2.2.1), (lr.2.2.2.2.2.2.2.2.2.2.2.2.1), (lr.2.2.2.2.2.2.2.2.2.2.2.2.2.1), (lr.2.2.2.2.2.2.2.2.2.2.2.2.2.2.1), (lr.2.2.2.2.2.2.2.2.2.2.2.2.2.2.2.1), (lr.2.2.2.2.2.2.2.2.2.2.2.2.2.2.2.2.1), (lr.2.2.2.2.2.2.2.2.2.2.2.2.2.2.2.2.2.1), (lr.2.2.2.2.2.2.2.2.2.2.2.2.2.2.2.2.2.2.1), (lr.2.2.2.2.2.2.2.2.2.2.2.2.2.2.2.2.2.2.2.1), (lr.2.2.2.2.2.2.2.2.2.2.2.2.2.2.2.2.2.2.2.2)⟩
      · by_cases f3 : a2.toInt = -1
        · obtain rfl : a2 = (-1) := ab_ieq f3 (by decide)
          rcases iS a1k (by omega) with ⟨u1, u2, u3⟩ | ⟨xq, u1, u2, u3, u4, u5⟩ | ⟨u1, u2, u3, u4, u5, u6⟩
          · refine ⟨(nI 0), (im, lf, s, d, k, ls, rf, rz, ra, rn, rq, lt, m1, m2, m3, m4, bd, fc, (fUp hd a1k (-1)), (fUp sz a1k (nI 0)), el, s, g, fm, hm, so, si, sh, ce, ca, td, wa, kp, la, bf, oo, bo, pw, ow, tr), (im, lf, s, d, k, ls, rf, rz, ra, rn, rq, lt, m1, m2, m3, m4, bd, fc, (fUp hd a1k (-1)), (fUp sz a1k (nI 0)), el, s, g, fm, (hm.set a1k 0), so, si, (sh.set a1k (-1)), ce, ca, td, wa, kp, la, bf, oo, bo, pw, ow, tr), ?_, ?_, ?_⟩
            · show Ev ab_Z0 3 80 [.ref 0, .int (nI a1k), .int (-1)] (ww im lf s d k ls rf rz ra rn rq lt m1 m2 m3 m4 bd fc hd sz el s g fm hm so si sh ce ca td wa kp la bf oo bo pw ow tr) (some (.int (nI 0)), (ww im lf s d k ls rf rz ra rn rq lt m1 m2 m3 m4 bd fc (fUp hd a1k (-1)) (fUp sz a1k (nI 0)) el s g fm hm so si sh ce ca td wa kp la bf oo bo pw ow tr))
              refine Ef.in (md := mX5_show) (L := [some (.ref 0), some (.int (nI a1k)), some (.int (-1))]) rfl (Nat.le_of_ble_eq_true rfl) rfl ?_
              refine E_iload_n at_X5_show_0 rfl ?_
              refine E_callS (v := some (.int (nI 1))) (As := [.int (nI a1k)]) (r0 := []) (cs2 := (ww im lf s d k ls rf rz ra rn rq lt m1 m2 m3 m4 bd fc hd sz el s g fm hm so si sh ce ca td wa kp la bf oo bo pw ow tr)) at_X5_show_1 rfl rfl (Nat.le_of_ble_eq_true rfl) rfl (L39_X5_isShelf (by omega) (by omega) (by omega)) (by decide) rfl ?_
              refine E_if (t := 23) (b := false) at_X5_show_4 rfl (by decide) ?_
              refine E_iload_n at_X5_show_7 rfl ?_
              refine E_iconst (x := (-1)) at_X5_show_8 (by decide) ?_
              refine E_ic (t := 29) (b := true) at_X5_show_9 rfl (by decide) ?_
              refine E_aload_n at_X5_show_29 rfl ?_
              refine E_getfield (v := .ref 31) at_X5_show_30 w0 rfl (by decide) rfl ?_
              refine E_iload_n at_X5_show_33 rfl ?_
              refine E_aalN (b := 49 + 2 * a1k) at_X5_show_34 w31 (by omega) (w_shs (by omega)) ?_
              refine E_iload_n at_X5_show_35 rfl ?_
              have e1 : Ev ab_Z0 1 31 [.ref (49 + 2 * a1k), .int (-1)] (ww im lf s d k ls rf rz ra rn rq lt m1 m2 m3 m4 bd fc hd sz el s g fm hm so si sh ce ca td wa kp la bf oo bo pw ow tr) (none, (ww im lf s d k ls rf rz ra rn rq lt m1 m2 m3 m4 bd fc (fUp hd a1k (-1)) (fUp sz a1k (nI 0)) el s g fm hm so si sh ce ca td wa kp la bf oo bo pw ow tr)) := by
                refine Ef.in (md := mX3_holdPiece) (L := [some (.ref (49 + 2 * a1k)), some (.int (-1))]) rfl (Nat.le_of_ble_eq_true rfl) rfl ?_
                refine E_aload_n at_X3_holdPiece_0 rfl ?_
                refine E_iload_n at_X3_holdPiece_1 rfl ?_
                refine E_putfield (cs2 := (ww im lf s d k ls rf rz ra rn rq lt m1 m2 m3 m4 bd fc (fUp hd a1k (-1)) (fUp sz a1k (nI 0)) el s g fm hm so si sh ce ca td wa kp la bf oo bo pw ow tr)) at_X3_holdPiece_2 (w_shv (j := a1k) (by omega) u1 u2) rfl (by decide) (Nat.le_of_ble_eq_true rfl) rfl rfl rfl (w_shput (by omega)) ?_
                refine E_aload_n at_X3_holdPiece_5 rfl ?_
                refine E_iconst (x := nI 0) at_X3_holdPiece_6 (by decide) ?_
                refine E_putfield (cs2 := (ww im lf s d k ls rf rz ra rn rq lt m1 m2 m3 m4 bd fc (fUp hd a1k (-1)) (fUp sz a1k (nI 0)) el s g fm hm so si sh ce ca td wa kp la bf oo bo pw ow tr)) at_X3_holdPiece_7 (w_shv (j := a1k) (by omega) fUp_eq fUp_eq) rfl (by decide) (Nat.le_of_ble_eq_true rfl) rfl rfl rfl (w_shput2 (by omega)) ?_
                exact E_vret at_X3_holdPiece_10 rfl
              refine E_callV (v := none) (As := [.ref (49 + 2 * a1k), .int (-1)]) (r0 := []) (cs2 := (ww im lf s d k ls rf rz ra rn rq lt m1 m2 m3 m4 bd fc (fUp hd a1k (-1)) (fUp sz a1k (nI 0)) el s g fm hm so si sh ce ca td wa kp la bf oo bo pw ow tr)) at_X5_show_36 rfl rfl (Nat.le_of_ble_eq_true rfl) rfl (ab_rvOf (w_shv (j := a1k) (by omega) u1 u2) rfl) e1 (by decide) w_lens ?_
              refine E_iload_n at_X5_show_39 rfl ?_
              refine E_iconst (x := (-1)) at_X5_show_40 (by decide) ?_
              refine E_ic (t := 48) (b := false) at_X5_show_41 rfl (by decide) ?_
              refine E_iconst (x := nI 0) rfl (by decide) ?_
              refine E_goto (t := 49) rfl rfl ?_
              exact E_iret at_X5_show_49 rfl
            · show Ev ab_Z0 2 139 [.ref 65, .int (nI a1k), .int (-1)] (ww im lf s d k ls rf rz ra rn rq lt m1 m2 m3 m4 bd fc (fUp hd a1k (-1)) (fUp sz a1k (nI 0)) el s g fm hm so si sh ce ca td wa kp la bf oo bo pw ow tr) (some (.int (nI 0)), (ww im lf s d k ls rf rz ra rn rq lt m1 m2 m3 m4 bd fc (fUp hd a1k (-1)) (fUp sz a1k (nI 0)) el s g fm (hm.set a1k 0) so si (sh.set a1k (-1)) ce ca td wa kp la bf oo bo pw ow tr))
              refine Ef.in (md := mX6_show) (L := [some (.ref 65), some (.int (nI a1k)), some (.int (-1))]) rfl (Nat.le_of_ble_eq_true rfl) rfl ?_
              refine E_aload_n at_X6_show_0 rfl ?_
              refine E_iload_n at_X6_show_1 rfl ?_
              refine E_callV (v := some (.int (nI 1))) (As := [.ref 65, .int (nI a1k)]) (r0 := []) (cs2 := (ww im lf s d k ls rf rz ra rn rq lt m1 m2 m3 m4 bd fc (fUp hd a1k (-1)) (fUp sz a1k (nI 0)) el s g fm hm so si sh ce ca td wa kp la bf oo bo pw ow tr)) at_X6_show_2 rfl rfl (Nat.le_of_ble_eq_true rfl) rfl (ab_rvOf w65 rfl) (L40_X6_isShelf (by omega) (by omega) (by omega)) (by decide) rfl ?_
              refine E_if (t := 21) (b := false) at_X6_show_5 rfl (by decide) ?_
              refine E_iload_n at_X6_show_8 rfl ?_
              refine E_iconst (x := (-1)) at_X6_show_9 (by decide) ?_
              refine E_ic (t := 27) (b := true) at_X6_show_10 rfl (by decide) ?_
              refine E_aload_n at_X6_show_27 rfl ?_
              refine E_getfield (v := .ref 76) at_X6_show_28 w65 rfl (by decide) rfl ?_
              refine E_iload_n at_X6_show_31 rfl ?_
              refine E_iload_n at_X6_show_32 rfl ?_
              refine E_iconst (x := (-1)) at_X6_show_33 (by decide) ?_
              refine E_ic (t := 41) (b := false) at_X6_show_34 rfl (by decide) ?_
              refine E_iconst (x := nI 0) rfl (by decide) ?_
              refine E_goto (t := 42) rfl rfl ?_
              refine E_iasN (l := hm) (cs2 := (ww im lf s d k ls rf rz ra rn rq lt m1 m2 m3 m4 bd fc (fUp hd a1k (-1)) (fUp sz a1k (nI 0)) el s g fm (hm.set a1k 0) so si sh ce ca td wa kp la bf oo bo pw ow tr)) at_X6_show_42 w76 (by omega) (by omega) rfl ?_
              refine E_aload_n at_X6_show_43 rfl ?_
              refine E_getfield (v := .ref 79) at_X6_show_44 w65 rfl (by decide) rfl ?_
              refine E_iload_n at_X6_show_47 rfl ?_
              refine E_iload_n at_X6_show_48 rfl ?_
              refine E_iasI (l := sh) (cs2 := (ww im lf s d k ls rf rz ra rn rq lt m1 m2 m3 m4 bd fc (fUp hd a1k (-1)) (fUp sz a1k (nI 0)) el s g fm (hm.set a1k 0) so si (sh.set a1k (-1)) ce ca td wa kp la bf oo bo pw ow tr)) at_X6_show_49 w79 (by omega) (by omega) rfl ?_
              refine E_iload_n at_X6_show_50 rfl ?_
              refine E_iconst (x := (-1)) at_X6_show_51 (by decide) ?_
              refine E_ic (t := 59) (b := false) at_X6_show_52 rfl (by decide) ?_
              refine E_iconst (x := nI 0) rfl (by decide) ?_
              refine E_goto (t := 60) rfl rfl ?_
              exact E_iret at_X6_show_60 rfl
            · exact ⟨I, rfl, hf, iQ, iM, iT, (iS_none iS (by omega) (lr.2.2.2.2.2.1) (lr.2.2.2.2.2.2.2.2.1)), l_el, (lr.1), (lr.2.1), (lr.2.2.1), (lr.2.2.2.1), (lr.2.2.2.2.1), (by simp only [List.length_set]; exact (lr.2.2.2.2.2.1)), (lr.2.2.2.2.2.2.1), (lr.2.2.2.2.2.2.2.1), (by simp only [List.length_set]; exact (lr.2.2.2.2.2.2.2.2.1)), (lr.2.2.2.2.2.2.2.2.2.1), (lr.2.2.2.2.2.2.2.2.2.2.1), (lr.2.2.2.2.2.2.2.2.2.2.2.1), (lr.2.2.2.2.2.2.2.2.2.2.2.2.1), (lr.2.2.2.2.2.2.2.2.2.2.2.2.2.1), (lr.2.2.2.2.2.2.2.2.2.2.2.2.2.2.1), (lr.2.2.2.2.2.2.2.2.2.2.2.2.2.2.2.1), (lr.2.2.2.2.2.2.2.2.2.2.2.2.2.2.2.2.1), (lr.2.2.2.2.2.2.2.2.2.2.2.2.2.2.2.2.2.1), (lr.2.2.2.2.2.2.2.2.2.2.2.2.2.2.2.2.2.2.1), (lr.2.2.2.2.2.2.2.2.2.2.2.2.2.2.2.2.2.2.2.1), (lr.2.2.2.2.2.2.2.2.2.2.2.2.2.2.2.2.2.2.2.2)⟩
          · refine ⟨(nI 0), (im, lf, s, d, k, ls, rf, rz, ra, rn, rq, lt, m1, m2, m3, m4, bd, fc, (fUp hd a1k (-1)), (fUp sz a1k (nI 0)), el, s, g, fm, hm, so, si, sh, ce, ca, td, wa, kp, la, bf, oo, bo, pw, ow, tr), (im, lf, s, d, k, ls, rf, rz, ra, rn, rq, lt, m1, m2, m3, m4, bd, fc, (fUp hd a1k (-1)), (fUp sz a1k (nI 0)), el, s, g, fm, (hm.set a1k 0), so, si, (sh.set a1k (-1)), ce, ca, td, wa, kp, la, bf, oo, bo, pw, ow, tr), ?_, ?_, ?_⟩
            · show Ev ab_Z0 3 80 [.ref 0, .int (nI a1k), .int (-1)] (ww im lf s d k ls rf rz ra rn rq lt m1 m2 m3 m4 bd fc hd sz el s g fm hm so si sh ce ca td wa kp la bf oo bo pw ow tr) (some (.int (nI 0)), (ww im lf s d k ls rf rz ra rn rq lt m1 m2 m3 m4 bd fc (fUp hd a1k (-1)) (fUp sz a1k (nI 0)) el s g fm hm so si sh ce ca td wa kp la bf oo bo pw ow tr))
              refine Ef.in (md := mX5_show) (L := [some (.ref 0), some (.int (nI a1k)), some (.int (-1))]) rfl (Nat.le_of_ble_eq_true rfl) rfl ?_
              refine E_iload_n at_X5_show_0 rfl ?_
              refine E_callS (v := some (.int (nI 1))) (As := [.int (nI a1k)]) (r0 := []) (cs2 := (ww im lf s d k ls rf rz ra rn rq lt m1 m2 m3 m4 bd fc hd sz el s g fm hm so si sh ce ca td wa kp la bf oo bo pw ow tr)) at_X5_show_1 rfl rfl (Nat.le_of_ble_eq_true rfl) rfl (L39_X5_isShelf (by omega) (by omega) (by omega)) (by decide) rfl ?_
              refine E_if (t := 23) (b := false) at_X5_show_4 rfl (by decide) ?_
              refine E_iload_n at_X5_show_7 rfl ?_
              refine E_iconst (x := (-1)) at_X5_show_8 (by decide) ?_
              refine E_ic (t := 29) (b := true) at_X5_show_9 rfl (by decide) ?_
              refine E_aload_n at_X5_show_29 rfl ?_
              refine E_getfield (v := .ref 31) at_X5_show_30 w0 rfl (by decide) rfl ?_
              refine E_iload_n at_X5_show_33 rfl ?_
              refine E_aalN (b := 49 + 2 * a1k) at_X5_show_34 w31 (by omega) (w_shs (by omega)) ?_
              refine E_iload_n at_X5_show_35 rfl ?_
              have e1 : Ev ab_Z0 1 31 [.ref (49 + 2 * a1k), .int (-1)] (ww im lf s d k ls rf rz ra rn rq lt m1 m2 m3 m4 bd fc hd sz el s g fm hm so si sh ce ca td wa kp la bf oo bo pw ow tr) (none, (ww im lf s d k ls rf rz ra rn rq lt m1 m2 m3 m4 bd fc (fUp hd a1k (-1)) (fUp sz a1k (nI 0)) el s g fm hm so si sh ce ca td wa kp la bf oo bo pw ow tr)) := by
                refine Ef.in (md := mX3_holdPiece) (L := [some (.ref (49 + 2 * a1k)), some (.int (-1))]) rfl (Nat.le_of_ble_eq_true rfl) rfl ?_
                refine E_aload_n at_X3_holdPiece_0 rfl ?_
                refine E_iload_n at_X3_holdPiece_1 rfl ?_
                refine E_putfield (cs2 := (ww im lf s d k ls rf rz ra rn rq lt m1 m2 m3 m4 bd fc (fUp hd a1k (-1)) (fUp sz a1k (nI 0)) el s g fm hm so si sh ce ca td wa kp la bf oo bo pw ow tr)) at_X3_holdPiece_2 (w_shv (j := a1k) (by omega) u2 u3) rfl (by decide) (Nat.le_of_ble_eq_true rfl) rfl rfl rfl (w_shput (by omega)) ?_
                refine E_aload_n at_X3_holdPiece_5 rfl ?_
                refine E_iconst (x := nI 0) at_X3_holdPiece_6 (by decide) ?_
                refine E_putfield (cs2 := (ww im lf s d k ls rf rz ra rn rq lt m1 m2 m3 m4 bd fc (fUp hd a1k (-1)) (fUp sz a1k (nI 0)) el s g fm hm so si sh ce ca td wa kp la bf oo bo pw ow tr)) at_X3_holdPiece_7 (w_shv (j := a1k) (by omega) fUp_eq fUp_eq) rfl (by decide) (Nat.le_of_ble_eq_true rfl) rfl rfl rfl (w_shput2 (by omega)) ?_
                exact E_vret at_X3_holdPiece_10 rfl
              refine E_callV (v := none) (As := [.ref (49 + 2 * a1k), .int (-1)]) (r0 := []) (cs2 := (ww im lf s d k ls rf rz ra rn rq lt m1 m2 m3 m4 bd fc (fUp hd a1k (-1)) (fUp sz a1k (nI 0)) el s g fm hm so si sh ce ca td wa kp la bf oo bo pw ow tr)) at_X5_show_36 rfl rfl (Nat.le_of_ble_eq_true rfl) rfl (ab_rvOf (w_shv (j := a1k) (by omega) u2 u3) rfl) e1 (by decide) w_lens ?_
              refine E_iload_n at_X5_show_39 rfl ?_
              refine E_iconst (x := (-1)) at_X5_show_40 (by decide) ?_
              refine E_ic (t := 48) (b := false) at_X5_show_41 rfl (by decide) ?_
              refine E_iconst (x := nI 0) rfl (by decide) ?_
              refine E_goto (t := 49) rfl rfl ?_
              exact E_iret at_X5_show_49 rfl
            · show Ev ab_Z0 2 139 [.ref 65, .int (nI a1k), .int (-1)] (ww im lf s d k ls rf rz ra rn rq lt m1 m2 m3 m4 bd fc (fUp hd a1k (-1)) (fUp sz a1k (nI 0)) el s g fm hm so si sh ce ca td wa kp la bf oo bo pw ow tr) (some (.int (nI 0)), (ww im lf s d k ls rf rz ra rn rq lt m1 m2 m3 m4 bd fc (fUp hd a1k (-1)) (fUp sz a1k (nI 0)) el s g fm (hm.set a1k 0) so si (sh.set a1k (-1)) ce ca td wa kp la bf oo bo pw ow tr))
              refine Ef.in (md := mX6_show) (L := [some (.ref 65), some (.int (nI a1k)), some (.int (-1))]) rfl (Nat.le_of_ble_eq_true rfl) rfl ?_
              refine E_aload_n at_X6_show_0 rfl ?_
              refine E_iload_n at_X6_show_1 rfl ?_
              refine E_callV (v := some (.int (nI 1))) (As := [.ref 65, .int (nI a1k)]) (r0 := []) (cs2 := (ww im lf s d k ls rf rz ra rn rq lt m1 m2 m3 m4 bd fc (fUp hd a1k (-1)) (fUp sz a1k (nI 0)) el s g fm hm so si sh ce ca td wa kp la bf oo bo pw ow tr)) at_X6_show_2 rfl rfl (Nat.le_of_ble_eq_true rfl) rfl (ab_rvOf w65 rfl) (L40_X6_isShelf (by omega) (by omega) (by omega)) (by decide) rfl ?_
              refine E_if (t := 21) (b := false) at_X6_show_5 rfl (by decide) ?_
              refine E_iload_n at_X6_show_8 rfl ?_
              refine E_iconst (x := (-1)) at_X6_show_9 (by decide) ?_
              refine E_ic (t := 27) (b := true) at_X6_show_10 rfl (by decide) ?_
              refine E_aload_n at_X6_show_27 rfl ?_
              refine E_getfield (v := .ref 76) at_X6_show_28 w65 rfl (by decide) rfl ?_
              refine E_iload_n at_X6_show_31 rfl ?_
              refine E_iload_n at_X6_show_32 rfl ?_
              refine E_iconst (x := (-1)) at_X6_show_33 (by decide) ?_
              refine E_ic (t := 41) (b := false) at_X6_show_34 rfl (by decide) ?_
              refine E_iconst (x := nI 0) rfl (by decide) ?_
              refine E_goto (t := 42) rfl rfl ?_
              refine E_iasN (l := hm) (cs2 := (ww im lf s d k ls rf rz ra rn rq lt m1 m2 m3 m4 bd fc (fUp hd a1k (-1)) (fUp sz a1k (nI 0)) el s g fm (hm.set a1k 0) so si sh ce ca td wa kp la bf oo bo pw ow tr)) at_X6_show_42 w76 (by omega) (by omega) rfl ?_
              refine E_aload_n at_X6_show_43 rfl ?_
              refine E_getfield (v := .ref 79) at_X6_show_44 w65 rfl (by decide) rfl ?_
              refine E_iload_n at_X6_show_47 rfl ?_
              refine E_iload_n at_X6_show_48 rfl ?_
              refine E_iasI (l := sh) (cs2 := (ww im lf s d k ls rf rz ra rn rq lt m1 m2 m3 m4 bd fc (fUp hd a1k (-1)) (fUp sz a1k (nI 0)) el s g fm (hm.set a1k 0) so si (sh.set a1k (-1)) ce ca td wa kp la bf oo bo pw ow tr)) at_X6_show_49 w79 (by omega) (by omega) rfl ?_
              refine E_iload_n at_X6_show_50 rfl ?_
              refine E_iconst (x := (-1)) at_X6_show_51 (by decide) ?_
              refine E_ic (t := 59) (b := false) at_X6_show_52 rfl (by decide) ?_
              refine E_iconst (x := nI 0) rfl (by decide) ?_
              refine E_goto (t := 60) rfl rfl ?_
              exact E_iret at_X6_show_60 rfl
            · exact ⟨I, rfl, hf, iQ, iM, iT, (iS_none iS (by omega) (lr.2.2.2.2.2.1) (lr.2.2.2.2.2.2.2.2.1)), l_el, (lr.1), (lr.2.1), (lr.2.2.1), (lr.2.2.2.1), (lr.2.2.2.2.1), (by simp only [List.length_set]; exact (lr.2.2.2.2.2.1)), (lr.2.2.2.2.2.2.1), (lr.2.2.2.2.2.2.2.1), (by simp only [List.length_set]; exact (lr.2.2.2.2.2.2.2.2.1)), (lr.2.2.2.2.2.2.2.2.2.1), (lr.2.2.2.2.2.2.2.2.2.2.1), (lr.2.2.2.2.2.2.2.2.2.2.2.1), (lr.2.2.2.2.2.2.2.2.2.2.2.2.1), (lr.2.2.2.2.2.2.2.2.2.2.2.2.2.1), (lr.2.2.2.2.2.2.2.2.2.2.2.2.2.2.1), (lr.2.2.2.2.2.2.2.2.2.2.2.2.2.2.2.1), (lr.2.2.2.2.2.2.2.2.2.2.2.2.2.2.2.2.1), (lr.2.2.2.2.2.2.2.2.2.2.2.2.2.2.2.2.2.1), (lr.2.2.2.2.2.2.2.2.2.2.2.2.2.2.2.2.2.2.1), (lr.2.2.2.2.2.2.2.2.2.2.2.2.2.2.2.2.2.2.2.1), (lr.2.2.2.2.2.2.2.2.2.2.2.2.2.2.2.2.2.2.2.2)⟩
          · refine ⟨(nI 0), (im, lf, s, d, k, ls, rf, rz, ra, rn, rq, lt, m1, m2, m3, m4, bd, fc, (fUp hd a1k (-1)), (fUp sz a1k (nI 0)), el, s, g, fm, hm, so, si, sh, ce, ca, td, wa, kp, la, bf, oo, bo, pw, ow, tr), (im, lf, s, d, k, ls, rf, rz, ra, rn, rq, lt, m1, m2, m3, m4, bd, fc, (fUp hd a1k (-1)), (fUp sz a1k (nI 0)), el, s, g, fm, (hm.set a1k 0), so, si, (sh.set a1k (-1)), ce, ca, td, wa, kp, la, bf, oo, bo, pw, ow, tr), ?_, ?_, ?_⟩
            · show Ev ab_Z0 3 80 [.ref 0, .int (nI a1k), .int (-1)] (ww im lf s d k ls rf rz ra rn rq lt m1 m2 m3 m4 bd fc hd sz el s g fm hm so si sh ce ca td wa kp la bf oo bo pw ow tr) (some (.int (nI 0)), (ww im lf s d k ls rf rz ra rn rq lt m1 m2 m3 m4 bd fc (fUp hd a1k (-1)) (fUp sz a1k (nI 0)) el s g fm hm so si sh ce ca td wa kp la bf oo bo pw ow tr))
              refine Ef.in (md := mX5_show) (L := [some (.ref 0), some (.int (nI a1k)), some (.int (-1))]) rfl (Nat.le_of_ble_eq_true rfl) rfl ?_
              refine E_iload_n at_X5_show_0 rfl ?_
              refine E_callS (v := some (.int (nI 1))) (As := [.int (nI a1k)]) (r0 := []) (cs2 := (ww im lf s d k ls rf rz ra rn rq lt m1 m2 m3 m4 bd fc hd sz el s g fm hm so si sh ce ca td wa kp la bf oo bo pw ow tr)) at_X5_show_1 rfl rfl (Nat.le_of_ble_eq_true rfl) rfl (L39_X5_isShelf (by omega) (by omega) (by omega)) (by decide) rfl ?_
              refine E_if (t := 23) (b := false) at_X5_show_4 rfl (by decide) ?_
              refine E_iload_n at_X5_show_7 rfl ?_
              refine E_iconst (x := (-1)) at_X5_show_8 (by decide) ?_
              refine E_ic (t := 29) (b := true) at_X5_show_9 rfl (by decide) ?_
              refine E_aload_n at_X5_show_29 rfl ?_
              refine E_getfield (v := .ref 31) at_X5_show_30 w0 rfl (by decide) rfl ?_
              refine E_iload_n at_X5_show_33 rfl ?_
              refine E_aalN (b := 49 + 2 * a1k) at_X5_show_34 w31 (by omega) (w_shs (by omega)) ?_
              refine E_iload_n at_X5_show_35 rfl ?_
              have e1 : Ev ab_Z0 1 31 [.ref (49 + 2 * a1k), .int (-1)] (ww im lf s d k ls rf rz ra rn rq lt m1 m2 m3 m4 bd fc hd sz el s g fm hm so si sh ce ca td wa kp la bf oo bo pw ow tr) (none, (ww im lf s d k ls rf rz ra rn rq lt m1 m2 m3 m4 bd fc (fUp hd a1k (-1)) (fUp sz a1k (nI 0)) el s g fm hm so si sh ce ca td wa kp la bf oo bo pw ow tr)) := by
                refine Ef.in (md := mX3_holdPiece) (L := [some (.ref (49 + 2 * a1k)), some (.int (-1))]) rfl (Nat.le_of_ble_eq_true rfl) rfl ?_
                refine E_aload_n at_X3_holdPiece_0 rfl ?_
                refine E_iload_n at_X3_holdPiece_1 rfl ?_
                refine E_putfield (cs2 := (ww im lf s d k ls rf rz ra rn rq lt m1 m2 m3 m4 bd fc (fUp hd a1k (-1)) (fUp sz a1k (nI (si.getD a1k 0))) el s g fm hm so si sh ce ca td wa kp la bf oo bo pw ow tr)) at_X3_holdPiece_2 (w_shv (j := a1k) (by omega) u1 u2) rfl (by decide) (Nat.le_of_ble_eq_true rfl) rfl rfl rfl (w_shput (by omega)) ?_
                refine E_aload_n at_X3_holdPiece_5 rfl ?_
                refine E_iconst (x := nI 0) at_X3_holdPiece_6 (by decide) ?_
                refine E_putfield (cs2 := (ww im lf s d k ls rf rz ra rn rq lt m1 m2 m3 m4 bd fc (fUp hd a1k (-1)) (fUp sz a1k (nI 0)) el s g fm hm so si sh ce ca td wa kp la bf oo bo pw ow tr)) at_X3_holdPiece_7 (w_shv (j := a1k) (by omega) fUp_eq fUp_eq) rfl (by decide) (Nat.le_of_ble_eq_true rfl) rfl rfl rfl (w_shput2 (by omega)) ?_
                exact E_vret at_X3_holdPiece_10 rfl
              refine E_callV (v := none) (As := [.ref (49 + 2 * a1k), .int (-1)]) (r0 := []) (cs2 := (ww im lf s d k ls rf rz ra rn rq lt m1 m2 m3 m4 bd fc (fUp hd a1k (-1)) (fUp sz a1k (nI 0)) el s g fm hm so si sh ce ca td wa kp la bf oo bo pw ow tr)) at_X5_show_36 rfl rfl (Nat.le_of_ble_eq_true rfl) rfl (ab_rvOf (w_shv (j := a1k) (by omega) u1 u2) rfl) e1 (by decide) w_lens ?_
              refine E_iload_n at_X5_show_39 rfl ?_
              refine E_iconst (x := (-1)) at_X5_show_40 (by decide) ?_
              refine E_ic (t := 48) (b := false) at_X5_show_41 rfl (by decide) ?_
              refine E_iconst (x := nI 0) rfl (by decide) ?_
              refine E_goto (t := 49) rfl rfl ?_
              exact E_iret at_X5_show_49 rfl
            · show Ev ab_Z0 2 139 [.ref 65, .int (nI a1k), .int (-1)] (ww im lf s d k ls rf rz ra rn rq lt m1 m2 m3 m4 bd fc (fUp hd a1k (-1)) (fUp sz a1k (nI 0)) el s g fm hm so si sh ce ca td wa kp la bf oo bo pw ow tr) (some (.int (nI 0)), (ww im lf s d k ls rf rz ra rn rq lt m1 m2 m3 m4 bd fc (fUp hd a1k (-1)) (fUp sz a1k (nI 0)) el s g fm (hm.set a1k 0) so si (sh.set a1k (-1)) ce ca td wa kp la bf oo bo pw ow tr))
              refine Ef.in (md := mX6_show) (L := [some (.ref 65), some (.int (nI a1k)), some (.int (-1))]) rfl (Nat.le_of_ble_eq_true rfl) rfl ?_
              refine E_aload_n at_X6_show_0 rfl ?_
              refine E_iload_n at_X6_show_1 rfl ?_
              refine E_callV (v := some (.int (nI 1))) (As := [.ref 65, .int (nI a1k)]) (r0 := []) (cs2 := (ww im lf s d k ls rf rz ra rn rq lt m1 m2 m3 m4 bd fc (fUp hd a1k (-1)) (fUp sz a1k (nI 0)) el s g fm hm so si sh ce ca td wa kp la bf oo bo pw ow tr)) at_X6_show_2 rfl rfl (Nat.le_of_ble_eq_true rfl) rfl (ab_rvOf w65 rfl) (L40_X6_isShelf (by omega) (by omega) (by omega)) (by decide) rfl ?_
              refine E_if (t := 21) (b := false) at_X6_show_5 rfl (by decide) ?_
              refine E_iload_n at_X6_show_8 rfl ?_
              refine E_iconst (x := (-1)) at_X6_show_9 (by decide) ?_
              refine E_ic (t := 27) (b := true) at_X6_show_10 rfl (by decide) ?_
              refine E_aload_n at_X6_show_27 rfl ?_
              refine E_getfield (v := .ref 76) at_X6_show_28 w65 rfl (by decide) rfl ?_
              refine E_iload_n at_X6_show_31 rfl ?_
              refine E_iload_n at_X6_show_32 rfl ?_
              refine E_iconst (x := (-1)) at_X6_show_33 (by decide) ?_
              refine E_ic (t := 41) (b := false) at_X6_show_34 rfl (by decide) ?_
              refine E_iconst (x := nI 0) rfl (by decide) ?_
              refine E_goto (t := 42) rfl rfl ?_
              refine E_iasN (l := hm) (cs2 := (ww im lf s d k ls rf rz ra rn rq lt m1 m2 m3 m4 bd fc (fUp hd a1k (-1)) (fUp sz a1k (nI 0)) el s g fm (hm.set a1k 0) so si sh ce ca td wa kp la bf oo bo pw ow tr)) at_X6_show_42 w76 (by omega) (by omega) rfl ?_
              refine E_aload_n at_X6_show_43 rfl ?_
              refine E_getfield (v := .ref 79) at_X6_show_44 w65 rfl (by decide) rfl ?_
              refine E_iload_n at_X6_show_47 rfl ?_
              refine E_iload_n at_X6_show_48 rfl ?_
              refine E_iasI (l := sh) (cs2 := (ww im lf s d k ls rf rz ra rn rq lt m1 m2 m3 m4 bd fc (fUp hd a1k (-1)) (fUp sz a1k (nI 0)) el s g fm (hm.set a1k 0) so si (sh.set a1k (-1)) ce ca td wa kp la bf oo bo pw ow tr)) at_X6_show_49 w79 (by omega) (by omega) rfl ?_
              refine E_iload_n at_X6_show_50 rfl ?_
              refine E_iconst (x := (-1)) at_X6_show_51 (by decide) ?_
              refine E_ic (t := 59) (b := false) at_X6_show_52 rfl (by decide) ?_
              refine E_iconst (x := nI 0) rfl (by decide) ?_
              refine E_goto (t := 60) rfl rfl ?_
              exact E_iret at_X6_show_60 rfl
            · exact ⟨I, rfl, hf, iQ, iM, iT, (iS_none iS (by omega) (lr.2.2.2.2.2.1) (lr.2.2.2.2.2.2.2.2.1)), l_el, (lr.1), (lr.2.1), (lr.2.2.1), (lr.2.2.2.1), (lr.2.2.2.2.1), (by simp only [List.length_set]; exact (lr.2.2.2.2.2.1)), (lr.2.2.2.2.2.2.1), (lr.2.2.2.2.2.2.2.1), (by simp only [List.length_set]; exact (lr.2.2.2.2.2.2.2.2.1)), (lr.2.2.2.2.2.2.2.2.2.1), (lr.2.2.2.2.2.2.2.2.2.2.1), (lr.2.2.2.2.2.2.2.2.2.2.2.1), (lr.2.2.2.2.2.2.2.2.2.2.2.2.1), (lr.2.2.2.2.2.2.2.2.2.2.2.2.2.1), (lr.2.2.2.2.2.2.2.2.2.2.2.2.2.2.1), (lr.2.2.2.2.2.2.2.2.2.2.2.2.2.2.2.1), (lr.2.2.2.2.2.2.2.2.2.2.2.2.2.2.2.2.1), (lr.2.2.2.2.2.2.2.2.2.2.2.2.2.2.2.2.2.1), (lr.2.2.2.2.2.2.2.2.2.2.2.2.2.2.2.2.2.2.1), (lr.2.2.2.2.2.2.2.2.2.2.2.2.2.2.2.2.2.2.2.1), (lr.2.2.2.2.2.2.2.2.2.2.2.2.2.2.2.2.2.2.2.2)⟩
        · refine ⟨(-1), (im, lf, s, d, k, ls, rf, rz, ra, rn, rq, lt, m1, m2, m3, m4, bd, (fc.set 1 ((fc.getD 1 0) + (nI 1))), hd, sz, el, s, g, fm, hm, so, si, sh, ce, ca, td, wa, kp, la, bf, oo, bo, pw, ow, tr), (im, lf, s, d, k, ls, rf, rz, ra, rn, rq, lt, m1, m2, m3, m4, bd, (fc.set 1 ((fc.getD 1 0) + (nI 1))), hd, sz, el, s, g, (fm.set 1 ((fm.getD 1 0) + (nI 1))), hm, so, si, sh, ce, ca, td, wa, kp, la, bf, oo, bo, pw, ow, tr), ?_, ?_, ?_⟩
          · show Ev ab_Z0 3 80 [.ref 0, .int (nI a1k), .int a2] (ww im lf s d k ls rf rz ra rn rq lt m1 m2 m3 m4 bd fc hd sz el s g fm hm so si sh ce ca td wa kp la bf oo bo pw ow tr) (some (.int (-1)), (ww im lf s d k ls rf rz ra rn rq lt m1 m2 m3 m4 bd (fc.set 1 ((fc.getD 1 0) + (nI 1))) hd sz el s g fm hm so si sh ce ca td wa kp la bf oo bo pw ow tr))
            refine Ef.in (md := mX5_show) (L := [some (.ref 0), some (.int (nI a1k)), some (.int a2)]) rfl (Nat.le_of_ble_eq_true rfl) rfl ?_
            refine E_iload_n at_X5_show_0 rfl ?_
            refine E_callS (v := some (.int (nI 1))) (As := [.int (nI a1k)]) (r0 := []) (cs2 := (ww im lf s d k ls rf rz ra rn rq lt m1 m2 m3 m4 bd fc hd sz el s g fm hm so si sh ce ca td wa kp la bf oo bo pw ow tr)) at_X5_show_1 rfl rfl (Nat.le_of_ble_eq_true rfl) rfl (L39_X5_isShelf (by omega) (by omega) (by omega)) (by decide) rfl ?_
            refine E_if (t := 23) (b := false) at_X5_show_4 rfl (by decide) ?_
            refine E_iload_n at_X5_show_7 rfl ?_
            refine E_iconst (x := (-1)) at_X5_show_8 (by decide) ?_
            refine E_ic (t := 29) (b := false) at_X5_show_9 rfl ((cn_eq rfl (by decide : (-1 : Int32).toInt = -1)).trans (decide_eq_false (by omega))) ?_
            refine E_aload_n at_X5_show_12 rfl ?_
            refine E_getfield (v := .ref 1) at_X5_show_13 w0 rfl (by decide) rfl ?_
            refine E_iload_n at_X5_show_16 rfl ?_
            refine E_callV (v := some (.int (nI 0))) (As := [.ref 1, .int a2]) (r0 := []) (cs2 := (ww im lf s d k ls rf rz ra rn rq lt m1 m2 m3 m4 bd fc hd sz el s g fm hm so si sh ce ca td wa kp la bf oo bo pw ow tr)) at_X5_show_17 rfl rfl (Nat.le_of_ble_eq_true rfl) rfl (ab_rvOf w1 rfl) (L22_X4_isPiece (by omega) (by omega)) (by decide) rfl ?_
            refine E_if (t := 29) (b := false) at_X5_show_20 rfl (by decide) ?_
            refine E_aload_n at_X5_show_23 rfl ?_
            refine E_iconst (x := nI 1) at_X5_show_24 (by decide) ?_
            refine E_callV (v := some (.int (-1))) (As := [.ref 0, .int (nI 1)]) (r0 := []) (cs2 := (ww im lf s d k ls rf rz ra rn rq lt m1 m2 m3 m4 bd (fc.set 1 ((fc.getD 1 0) + (nI 1))) hd sz el s g fm hm so si sh ce ca td wa kp la bf oo bo pw ow tr)) at_X5_show_25 rfl rfl (Nat.le_of_ble_eq_true rfl) rfl (ab_rvOf w0 rfl) (L6_X5_refuse (by omega)) (by decide) w_lens ?_
            exact E_iret at_X5_show_28 rfl
          · show Ev ab_Z0 2 139 [.ref 65, .int (nI a1k), .int a2] (ww im lf s d k ls rf rz ra rn rq lt m1 m2 m3 m4 bd (fc.set 1 ((fc.getD 1 0) + (nI 1))) hd sz el s g fm hm so si sh ce ca td wa kp la bf oo bo pw ow tr) (some (.int (-1)), (ww im lf s d k ls rf rz ra rn rq lt m1 m2 m3 m4 bd (fc.set 1 ((fc.getD 1 0) + (nI 1))) hd sz el s g (fm.set 1 ((fm.getD 1 0) + (nI 1))) hm so si sh ce ca td wa kp la bf oo bo pw ow tr))
            refine Ef.in (md := mX6_show) (L := [some (.ref 65), some (.int (nI a1k)), some (.int a2)]) rfl (Nat.le_of_ble_eq_true rfl) rfl ?_
            refine E_aload_n at_X6_show_0 rfl ?_
            refine E_iload_n at_X6_show_1 rfl ?_
            refine E_callV (v := some (.int (nI 1))) (As := [.ref 65, .int (nI a1k)]) (r0 := []) (cs2 := (ww im lf s d k ls rf rz ra rn rq lt m1 m2 m3 m4 bd (fc.set 1 ((fc.getD 1 0) + (nI 1))) hd sz el s g fm hm so si sh ce ca td wa kp la bf oo bo pw ow tr)) at_X6_show_2 rfl rfl (Nat.le_of_ble_eq_true rfl) rfl (ab_rvOf w65 rfl) (L40_X6_isShelf (by omega) (by omega) (by omega)) (by decide) rfl ?_
            refine E_if (t := 21) (b := false) at_X6_show_5 rfl (by decide) ?_
            refine E_iload_n at_X6_show_8 rfl ?_
            refine E_iconst (x := (-1)) at_X6_show_9 (by decide) ?_
            refine E_ic (t := 27) (b := false) at_X6_show_10 rfl ((cn_eq rfl (by decide : (-1 : Int32).toInt = -1)).trans (decide_eq_false (by omega))) ?_
            refine E_aload_n at_X6_show_13 rfl ?_
            refine E_iload_n at_X6_show_14 rfl ?_
            refine E_callV (v := some (.int (nI 0))) (As := [.ref 65, .int a2]) (r0 := []) (cs2 := (ww im lf s d k ls rf rz ra rn rq lt m1 m2 m3 m4 bd (fc.set 1 ((fc.getD 1 0) + (nI 1))) hd sz el s g fm hm so si sh ce ca td wa kp la bf oo bo pw ow tr)) at_X6_show_15 rfl rfl (Nat.le_of_ble_eq_true rfl) rfl (ab_rvOf w65 rfl) (L23_X6_isPiece (by omega) (by omega)) (by decide) rfl ?_
            refine E_if (t := 27) (b := false) at_X6_show_18 rfl (by decide) ?_
            refine E_aload_n at_X6_show_21 rfl ?_
            refine E_iconst (x := (-1)) at_X6_show_22 (by decide) ?_
            refine E_callV (v := some (.int (-1))) (As := [.ref 65, .int (-1)]) (r0 := []) (cs2 := (ww im lf s d k ls rf rz ra rn rq lt m1 m2 m3 m4 bd (fc.set 1 ((fc.getD 1 0) + (nI 1))) hd sz el s g (fm.set 1 ((fm.getD 1 0) + (nI 1))) hm so si sh ce ca td wa kp la bf oo bo pw ow tr)) at_X6_show_23 rfl rfl (Nat.le_of_ble_eq_true rfl) rfl (ab_rvOf w65 rfl) (L8_X6_no (by omega)) (by decide) w_lens ?_
            exact E_iret at_X6_show_26 rfl
          · exact ⟨I, rfl, hf, iQ, iM, iT, iS, l_el, (lr.1), (lr.2.1), (lr.2.2.1), (by simp only [List.length_set]; exact (lr.2.2.2.1)), (by simp only [List.length_set]; exact (lr.2.2.2.2.1)), (lr.2.2.2.2.2.1), (lr.2.2.2.2.2.2.1), (lr.2.2.2.2.2.2.2.1), (lr.2.2.2.2.2.2.2.2.1), (lr.2.2.2.2.2.2.2.2.2.1), (lr.2.2.2.2.2.2.2.2.2.2.1), (lr.2.2.2.2.2.2.2.2.2.2.2.1), (lr.2.2.2.2.2.2.2.2.2.2.2.2.1), (lr.2.2.2.2.2.2.2.2.2.2.2.2.2.1), (lr.2.2.2.2.2.2.2.2.2.2.2.2.2.2.1), (lr.2.2.2.2.2.2.2.2.2.2.2.2.2.2.2.1), (lr.2.2.2.2.2.2.2.2.2.2.2.2.2.2.2.2.1), (lr.2.2.2.2.2.2.2.2.2.2.2.2.2.2.2.2.2.1), (lr.2.2.2.2.2.2.2.2.2.2.2.2.2.2.2.2.2.2.1), (lr.2.2.2.2.2.2.2.2.2.2.2.2.2.2.2.2.2.2.2.1), (lr.2.2.2.2.2.2.2.2.2.2.2.2.2.2.2.2.2.2.2.2)⟩
    · refine ⟨(-1), (im, lf, s, d, k, ls, rf, rz, ra, rn, rq, lt, m1, m2, m3, m4, bd, (fc.set 1 ((fc.getD 1 0) + (nI 1))), hd, sz, el, s, g, fm, hm, so, si, sh, ce, ca, td, wa, kp, la, bf, oo, bo, pw, ow, tr), (im, lf, s, d, k, ls, rf, rz, ra, rn, rq, lt, m1, m2, m3, m4, bd, (fc.set 1 ((fc.getD 1 0) + (nI 1))), hd, sz, el, s, g, (fm.set 1 ((fm.getD 1 0) + (nI 1))), hm, so, si, sh, ce, ca, td, wa, kp, la, bf, oo, bo, pw, ow, tr), ?_, ?_, ?_⟩
      · show Ev ab_Z0 3 80 [.ref 0, .int (nI a1k), .int a2] (ww im lf s d k ls rf rz ra rn rq lt m1 m2 m3 m4 bd fc hd sz el s g fm hm so si sh ce ca td wa kp la bf oo bo pw ow tr) (some (.int (-1)), (ww im lf s d k ls rf rz ra rn rq lt m1 m2 m3 m4 bd (fc.set 1 ((fc.getD 1 0) + (nI 1))) hd sz el s g fm hm so si sh ce ca td wa kp la bf oo bo pw ow tr))
        refine Ef.in (md := mX5_show) (L := [some (.ref 0), some (.int (nI a1k)), some (.int a2)]) rfl (Nat.le_of_ble_eq_true rfl) rfl ?_
        refine E_iload_n at_X5_show_0 rfl ?_
        refine E_callS (v := some (.int (nI 0))) (As := [.int (nI a1k)]) (r0 := []) (cs2 := (ww im lf s d k ls rf rz ra rn rq lt m1 m2 m3 m4 bd fc hd sz el s g fm hm so si sh ce ca td wa kp la bf oo bo pw ow tr)) at_X5_show_1 rfl rfl (Nat.le_of_ble_eq_true rfl) rfl (L47_X5_isShelf (by omega) (by omega) (by omega)) (by decide) rfl ?_
        refine E_if (t := 23) (b := true) at_X5_show_4 rfl (by decide) ?_
        refine E_aload_n at_X5_show_23 rfl ?_
        refine E_iconst (x := nI 1) at_X5_show_24 (by decide) ?_
        refine E_callV (v := some (.int (-1))) (As := [.ref 0, .int (nI 1)]) (r0 := []) (cs2 := (ww im lf s d k ls rf rz ra rn rq lt m1 m2 m3 m4 bd (fc.set 1 ((fc.getD 1 0) + (nI 1))) hd sz el s g fm hm so si sh ce ca td wa kp la bf oo bo pw ow tr)) at_X5_show_25 rfl rfl (Nat.le_of_ble_eq_true rfl) rfl (ab_rvOf w0 rfl) (L6_X5_refuse (by omega)) (by decide) w_lens ?_
        exact E_iret at_X5_show_28 rfl
      · show Ev ab_Z0 2 139 [.ref 65, .int (nI a1k), .int a2] (ww im lf s d k ls rf rz ra rn rq lt m1 m2 m3 m4 bd (fc.set 1 ((fc.getD 1 0) + (nI 1))) hd sz el s g fm hm so si sh ce ca td wa kp la bf oo bo pw ow tr) (some (.int (-1)), (ww im lf s d k ls rf rz ra rn rq lt m1 m2 m3 m4 bd (fc.set 1 ((fc.getD 1 0) + (nI 1))) hd sz el s g (fm.set 1 ((fm.getD 1 0) + (nI 1))) hm so si sh ce ca td wa kp la bf oo bo pw ow tr))
        refine Ef.in (md := mX6_show) (L := [some (.ref 65), some (.int (nI a1k)), some (.int a2)]) rfl (Nat.le_of_ble_eq_true rfl) rfl ?_
        refine E_aload_n at_X6_show_0 rfl ?_
        refine E_iload_n at_X6_show_1 rfl ?_
        refine E_callV (v := some (.int (nI 0))) (As := [.ref 65, .int (nI a1k)]) (r0 := []) (cs2 := (ww im lf s d k ls rf rz ra rn rq lt m1 m2 m3 m4 bd (fc.set 1 ((fc.getD 1 0) + (nI 1))) hd sz el s g fm hm so si sh ce ca td wa kp la bf oo bo pw ow tr)) at_X6_show_2 rfl rfl (Nat.le_of_ble_eq_true rfl) rfl (ab_rvOf w65 rfl) (L48_X6_isShelf (by omega) (by omega) (by omega)) (by decide) rfl ?_
        refine E_if (t := 21) (b := true) at_X6_show_5 rfl (by decide) ?_
        refine E_aload_n at_X6_show_21 rfl ?_
        refine E_iconst (x := (-1)) at_X6_show_22 (by decide) ?_
        refine E_callV (v := some (.int (-1))) (As := [.ref 65, .int (-1)]) (r0 := []) (cs2 := (ww im lf s d k ls rf rz ra rn rq lt m1 m2 m3 m4 bd (fc.set 1 ((fc.getD 1 0) + (nI 1))) hd sz el s g (fm.set 1 ((fm.getD 1 0) + (nI 1))) hm so si sh ce ca td wa kp la bf oo bo pw ow tr)) at_X6_show_23 rfl rfl (Nat.le_of_ble_eq_true rfl) rfl (ab_rvOf w65 rfl) (L8_X6_no (by omega)) (by decide) w_lens ?_
        exact E_iret at_X6_show_26 rfl
      · exact ⟨I, rfl, hf, iQ, iM, iT, iS, l_el, (lr.1), (lr.2.1), (lr.2.2.1), (by simp only [List.length_set]; exact (lr.2.2.2.1)), (by simp only [List.length_set]; exact (lr.2.2.2.2.1)), (lr.2.2.2.2.2.1), (lr.2.2.2.2.2.2.1), (lr.2.2.2.2.2.2.2.1), (lr.2.2.2.2.2.2.2.2.1), (lr.2.2.2.2.2.2.2.2.2.1), (lr.2.2.2.2.2.2.2.2.2.2.1), (lr.2.2.2.2.2.2.2.2.2.2.2.1), (lr.2.2.2.2.2.2.2.2.2.2.2.2.1), (lr.2.2.2.2.2.2.2.2.2.2.2.2.2.1), (lr.2.2.2.2.2.2.2.2.2.2.2.2.2.2.1), (lr.2.2.2.2.2.2.2.2.2.2.2.2.2.2.2.1), (lr.2.2.2.2.2.2.2.2.2.2.2.2.2.2.2.2.1), (lr.2.2.2.2.2.2.2.2.2.2.2.2.2.2.2.2.2.1), (lr.2.2.2.2.2.2.2.2.2.2.2.2.2.2.2.2.2.2.1), (lr.2.2.2.2.2.2.2.2.2.2.2.2.2.2.2.2.2.2.2.1), (lr.2.2.2.2.2.2.2.2.2.2.2.2.2.2.2.2.2.2.2.2)⟩
  · refine ⟨(-1), (im, lf, s, d, k, ls, rf, rz, ra, rn, rq, lt, m1, m2, m3, m4, bd, (fc.set 1 ((fc.getD 1 0) + (nI 1))), hd, sz, el, s, g, fm, hm, so, si, sh, ce, ca, td, wa, kp, la, bf, oo, bo, pw, ow, tr), (im, lf, s, d, k, ls, rf, rz, ra, rn, rq, lt, m1, m2, m3, m4, bd, (fc.set 1 ((fc.getD 1 0) + (nI 1))), hd, sz, el, s, g, (fm.set 1 ((fm.getD 1 0) + (nI 1))), hm, so, si, sh, ce, ca, td, wa, kp, la, bf, oo, bo, pw, ow, tr), ?_, ?_, ?_⟩
    · show Ev ab_Z0 3 80 [.ref 0, .int a1, .int a2] (ww im lf s d k ls rf rz ra rn rq lt m1 m2 m3 m4 bd fc hd sz el s g fm hm so si sh ce ca td wa kp la bf oo bo pw ow tr) (some (.int (-1)), (ww im lf s d k ls rf rz ra rn rq lt m1 m2 m3 m4 bd (fc.set 1 ((fc.getD 1 0) + (nI 1))) hd sz el s g fm hm so si sh ce ca td wa kp la bf oo bo pw ow tr))
      refine Ef.in (md := mX5_show) (L := [some (.ref 0), some (.int a1), some (.int a2)]) rfl (Nat.le_of_ble_eq_true rfl) rfl ?_
      refine E_iload_n at_X5_show_0 rfl ?_
      refine E_callS (v := some (.int (nI 0))) (As := [.int a1]) (r0 := []) (cs2 := (ww im lf s d k ls rf rz ra rn rq lt m1 m2 m3 m4 bd fc hd sz el s g fm hm so si sh ce ca td wa kp la bf oo bo pw ow tr)) at_X5_show_1 rfl rfl (Nat.le_of_ble_eq_true rfl) rfl (L49_X5_isShelf (by omega) (by omega)) (by decide) rfl ?_
      refine E_if (t := 23) (b := true) at_X5_show_4 rfl (by decide) ?_
      refine E_aload_n at_X5_show_23 rfl ?_
      refine E_iconst (x := nI 1) at_X5_show_24 (by decide) ?_
      refine E_callV (v := some (.int (-1))) (As := [.ref 0, .int (nI 1)]) (r0 := []) (cs2 := (ww im lf s d k ls rf rz ra rn rq lt m1 m2 m3 m4 bd (fc.set 1 ((fc.getD 1 0) + (nI 1))) hd sz el s g fm hm so si sh ce ca td wa kp la bf oo bo pw ow tr)) at_X5_show_25 rfl rfl (Nat.le_of_ble_eq_true rfl) rfl (ab_rvOf w0 rfl) (L6_X5_refuse (by omega)) (by decide) w_lens ?_
      exact E_iret at_X5_show_28 rfl
    · show Ev ab_Z0 2 139 [.ref 65, .int a1, .int a2] (ww im lf s d k ls rf rz ra rn rq lt m1 m2 m3 m4 bd (fc.set 1 ((fc.getD 1 0) + (nI 1))) hd sz el s g fm hm so si sh ce ca td wa kp la bf oo bo pw ow tr) (some (.int (-1)), (ww im lf s d k ls rf rz ra rn rq lt m1 m2 m3 m4 bd (fc.set 1 ((fc.getD 1 0) + (nI 1))) hd sz el s g (fm.set 1 ((fm.getD 1 0) + (nI 1))) hm so si sh ce ca td wa kp la bf oo bo pw ow tr))
      refine Ef.in (md := mX6_show) (L := [some (.ref 65), some (.int a1), some (.int a2)]) rfl (Nat.le_of_ble_eq_true rfl) rfl ?_
      refine E_aload_n at_X6_show_0 rfl ?_
      refine E_iload_n at_X6_show_1 rfl ?_
      refine E_callV (v := some (.int (nI 0))) (As := [.ref 65, .int a1]) (r0 := []) (cs2 := (ww im lf s d k ls rf rz ra rn rq lt m1 m2 m3 m4 bd (fc.set 1 ((fc.getD 1 0) + (nI 1))) hd sz el s g fm hm so si sh ce ca td wa kp la bf oo bo pw ow tr)) at_X6_show_2 rfl rfl (Nat.le_of_ble_eq_true rfl) rfl (ab_rvOf w65 rfl) (L50_X6_isShelf (by omega) (by omega)) (by decide) rfl ?_
      refine E_if (t := 21) (b := true) at_X6_show_5 rfl (by decide) ?_
      refine E_aload_n at_X6_show_21 rfl ?_
      refine E_iconst (x := (-1)) at_X6_show_22 (by decide) ?_
      refine E_callV (v := some (.int (-1))) (As := [.ref 65, .int (-1)]) (r0 := []) (cs2 := (ww im lf s d k ls rf rz ra rn rq lt m1 m2 m3 m4 bd (fc.set 1 ((fc.getD 1 0) + (nI 1))) hd sz el s g (fm.set 1 ((fm.getD 1 0) + (nI 1))) hm so si sh ce ca td wa kp la bf oo bo pw ow tr)) at_X6_show_23 rfl rfl (Nat.le_of_ble_eq_true rfl) rfl (ab_rvOf w65 rfl) (L8_X6_no (by omega)) (by decide) w_lens ?_
      exact E_iret at_X6_show_26 rfl
    · exact ⟨I, rfl, hf, iQ, iM, iT, iS, l_el, (lr.1), (lr.2.1), (lr.2.2.1), (by simp only [List.length_set]; exact (lr.2.2.2.1)), (by simp only [List.length_set]; exact (lr.2.2.2.2.1)), (lr.2.2.2.2.2.1), (lr.2.2.2.2.2.2.1), (lr.2.2.2.2.2.2.2.1), (lr.2.2.2.2.2.2.2.2.1), (lr.2.2.2.2.2.2.2.2.2.1), (lr.2.2.2.2.2.2.2.2.2.2.1), (lr.2.2.2.2.2.2.2.2.2.2.2.1), (lr.2.2.2.2.2.2.2.2.2.2.2.2.1), (lr.2.2.2.2.2.2.2.2.2.2.2.2.2.1), (lr.2.2.2.2.2.2.2.2.2.2.2.2.2.2.1), (lr.2.2.2.2.2.2.2.2.2.2.2.2.2.2.2.1), (lr.2.2.2.2.2.2.2.2.2.2.2.2.2.2.2.2.1), (lr.2.2.2.2.2.2.2.2.2.2.2.2.2.2.2.2.2.1), (lr.2.2.2.2.2.2.2.2.2.2.2.2.2.2.2.2.2.2.1), (lr.2.2.2.2.2.2.2.2.2.2.2.2.2.2.2.2.2.2.2.1), (lr.2.2.2.2.2.2.2.2.2.2.2.2.2.2.2.2.2.2.2.2)⟩
