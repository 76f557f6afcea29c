/-! tell; by program (wip/tools/op.py) -/
section LM
variable {im : Int32} {lf : Int32} {s : ab_q} {d : ab_q} {k : ab_q} {ls : List Int32} {rf : Int32} {rz : Int32} {ra : Int32} {rn : Int32} {rq : ab_q} {lt : List Int32} {m1 : Int32} {m2 : Int32} {m3 : Int32} {m4 : Int32} {bd : List Int32} {fc : List Int32} {hd : Nat → Int32} {sz : Nat → Int32} {el : Nat → List Int64} {t : ab_q} {g : Nat → Int32} {fm : List Int32} {hm : List Nat} {so : List Nat} {si : List Nat} {sh : List Int32} {ce : List Int64} {ca : List Int64} {td : List Int32} {wa : List Int32} {kp : List Int32} {la : List Int32} {bf : List Int32} {oo : List Int32} {bo : List Int32} {pw : List Int32} {ow : List Int32} {tr : List Int32}
theorem L90_X5_isFrom {x0 : Nat} (h0 : x0 < 2147483648) (h1 : ¬ (x0 < 0)) (h2 : ¬ (7 < x0)) : Ev ab_Z0 1 115 [.int (nI x0), .int (nI 0), .int (nI 7)] (ww im lf s d k ls rf rz ra rn rq lt m1 m2 m3 m4 bd fc hd sz el t g fm hm so si sh ce ca td wa kp la bf oo bo pw ow tr) (some (.int (nI 1)), (ww im lf s d k ls rf rz ra rn rq lt m1 m2 m3 m4 bd fc hd sz el t g fm hm so si sh ce ca td wa kp la bf oo bo pw ow tr)) := by
  refine Ef.in (md := mX5_isFrom) (L := [some (.int (nI x0)), some (.int (nI 0)), some (.int (nI 7))]) rfl (Nat.le_of_ble_eq_true rfl) rfl ?_
  refine E_iload_n at_X5_isFrom_0 rfl ?_
  refine E_iload_n at_X5_isFrom_1 rfl ?_
  refine E_ic (t := 14) (b := false) at_X5_isFrom_2 rfl ((cn_lt (nI_toInt (by omega)) (nI_toInt (by omega))).trans (decide_eq_false (by omega))) ?_
  refine E_iload_n at_X5_isFrom_5 rfl ?_
  refine E_iload_n at_X5_isFrom_6 rfl ?_
  refine E_ic (t := 14) (b := false) at_X5_isFrom_7 rfl ((cn_gt (nI_toInt (by omega)) (nI_toInt (by omega))).trans (decide_eq_false (by omega))) ?_
  refine E_iconst (x := nI 1) at_X5_isFrom_10 (by decide) ?_
  refine E_goto (t := 15) at_X5_isFrom_11 rfl ?_
  exact E_iret at_X5_isFrom_15 rfl
end LM
set_option maxHeartbeats 4000000 in
theorem op_tell (x : St) (hx : wI x) (a1 : Int32) (a2 : Int32) (a3 : Int32) : ∃ (r q : Int32) (x1 x2 : St), Ev ab_Z0 4 87 [.ref 0, .int a1, .int a2, .int a3] (wt x) (some (.int r), wt x1) ∧ Ev ab_Z0 2 152 [.ref 65, .int a1, .int a2, .int a3] (wt x1) (some (.int q), wt x2) ∧ wI x2 := by
  obtain ⟨im, lf, s, d, k, ls, rf, rz, ra, rn, rq, lt, m1, m2, m3, m4, bd, fc, hd, sz, el, t, g, fm, hm, so, si, sh, ce, ca, td, wa, kp, la, bf, oo, bo, pw, ow, tr⟩ := x
  obtain ⟨I, ts, hf, iQ, iM, iT, iS, l_el, lr⟩ := hx
  replace lr : Hd _ := lr
  have l_fc := lr.2.2.2.1
  have l_fm := lr.2.2.2.2.1
  subst ts
  obtain ⟨⟨i0, i1, i2, i3⟩, ⟨i4, i5, i6, i7, i8⟩, ⟨i9, i10⟩, I1, I2, I3, I4⟩ := id I
  rcases ab_int a1 with ⟨a1k, f0, rfl⟩ | f0
  · by_cases f1 : a1k < (qM s)
    · rcases ab_int a2 with ⟨a2k, f2, rfl⟩ | f2
      · by_cases f3 : a2k = 2
        · subst f3
          rcases ab_int a3 with ⟨a3k, f4, rfl⟩ | f4
          · by_cases f5 : a3k < 8
            · have := I2 a1k (by omega)
              refine ⟨(nI ((qW s).getD a1k 0)), (nI ((qW s).getD a1k 0)), (im, lf, (qs_W s ((qW s).set a1k a3k)), d, k, ls, rf, rz, ra, rn, rq, lt, m1, m2, m3, m4, bd, fc, hd, sz, el, s, g, fm, hm, so, si, sh, ce, ca, td, wa, kp, la, bf, oo, bo, pw, ow, tr), (im, lf, (qs_W s ((qW s).set a1k a3k)), d, k, ls, rf, rz, ra, rn, rq, lt, m1, m2, m3, m4, bd, fc, hd, sz, el, (qs_W s ((qW s).set a1k a3k)), g, fm, hm, so, si, sh, ce, ca, td, wa, kp, la, bf, oo, bo, pw, ow, tr), ?_, ?_, ?_⟩
              · show Ev ab_Z0 4 87 [.ref 0, .int (nI a1k), .int (nI 2), .int (nI a3k)] (ww im lf s d k ls rf rz ra rn rq lt m1 m2 m3 m4 bd fc hd sz el s g fm hm so si sh ce ca td wa kp la bf oo bo pw ow tr) (some (.int (nI ((qW s).getD a1k 0))), (ww im lf (qs_W s ((qW s).set a1k a3k)) d k ls rf rz ra rn rq lt m1 m2 m3 m4 bd fc hd sz el s g fm hm so si sh ce ca td wa kp la bf oo bo pw ow tr))
                refine Ef.in (md := mX5_tell) (L := [some (.ref 0), some (.int (nI a1k)), some (.int (nI 2)), some (.int (nI a3k))]) rfl (Nat.le_of_ble_eq_true rfl) rfl ?_
                refine E_aload_n at_X5_tell_0 rfl ?_
                refine E_getfield (v := .ref 1) at_X5_tell_1 w0 rfl (by decide) rfl ?_
                refine E_iload_n at_X5_tell_4 rfl ?_
                refine E_callV (v := some (.int (nI 1))) (As := [.ref 1, .int (nI a1k)]) (r0 := []) (cs2 := (ww im lf s d k ls rf rz ra rn rq lt m1 m2 m3 m4 bd fc hd sz el s g fm hm so si sh ce ca td wa kp la bf oo bo pw ow tr)) at_X5_tell_5 rfl rfl (Nat.le_of_ble_eq_true rfl) rfl (ab_rvOf w1 rfl) (L0_X4_isPerson (by omega) (by omega) (by omega) (by omega)) (by decide) rfl ?_
                refine E_if (t := 23) (b := false) at_X5_tell_8 rfl (by decide) ?_
                refine E_iload_n at_X5_tell_11 rfl ?_
                refine E_iconst (x := nI 2) at_X5_tell_12 (by decide) ?_
                refine E_ic (t := 29) (b := false) at_X5_tell_13 rfl (by decide) ?_
                refine E_iload_n rfl rfl ?_
                refine E_callS (v := some (.int (nI 1))) (As := [.int (nI a3k)]) (r0 := []) (cs2 := (ww im lf s d k ls rf rz ra rn rq lt m1 m2 m3 m4 bd fc hd sz el s g fm hm so si sh ce ca td wa kp la bf oo bo pw ow tr)) rfl rfl rfl (Nat.le_of_ble_eq_true rfl) rfl (L1_X4_isWish (by omega) (by omega) (by omega)) (by decide) rfl ?_
                refine E_if (t := 29) (b := true) rfl rfl (by decide) ?_
                refine E_iload_n at_X5_tell_29 rfl ?_
                refine E_tsIn (off := 58) (t := 88) at_X5_tell_30 (by decide) rfl rfl ?_
                refine E_aload_n rfl rfl ?_
                refine E_aload_n rfl rfl ?_
                refine E_getfield (v := .ref 1) rfl w0 rfl (by decide) rfl ?_
                refine E_getfield (v := .ref 8) rfl w1 rfl (by decide) rfl ?_
                refine E_iload_n rfl rfl ?_
                refine E_iload_n rfl rfl ?_
                refine E_bipush (x := nI 7) rfl (by decide) ?_
                have e1 : Ev ab_Z0 3 121 [.ref 0, .ref 8, .int (nI a1k), .int (nI a3k), .int (nI 7)] (ww im lf s d k ls rf rz ra rn rq lt m1 m2 m3 m4 bd fc hd sz el s g fm hm so si sh ce ca td wa kp la bf oo bo pw ow tr) (some (.int (nI ((qW s).getD a1k 0))), (ww im lf (qs_W s ((qW s).set a1k a3k)) d k ls rf rz ra rn rq lt m1 m2 m3 m4 bd fc hd sz el s g fm hm so si sh ce ca td wa kp la bf oo bo pw ow tr)) := by
                  refine Ef.in (md := mX5_tellOne) (L := [some (.ref 0), some (.ref 8), some (.int (nI a1k)), some (.int (nI a3k)), some (.int (nI 7)), none]) rfl (Nat.le_of_ble_eq_true rfl) rfl ?_
                  refine E_iload_n at_X5_tellOne_0 rfl ?_
                  refine E_iconst (x := nI 0) at_X5_tellOne_1 (by decide) ?_
                  refine E_iload at_X5_tellOne_2 rfl ?_
                  refine E_callS (v := some (.int (nI 1))) (As := [.int (nI a3k), .int (nI 0), .int (nI 7)]) (r0 := []) (cs2 := (ww im lf s d k ls rf rz ra rn rq lt m1 m2 m3 m4 bd fc hd sz el s g fm hm so si sh ce ca td wa kp la bf oo bo pw ow tr)) at_X5_tellOne_4 rfl rfl (Nat.le_of_ble_eq_true rfl) rfl (L90_X5_isFrom (by omega) (by omega) (by omega)) (by decide) rfl ?_
                  refine E_if (t := 17) (b := true) at_X5_tellOne_7 rfl (by decide) ?_
                  refine E_aload_n rfl rfl ?_
                  refine E_iload_n rfl rfl ?_
                  refine E_ialN (l := qW s) (v := (qW s).getD a1k 0) rfl w8 (by omega) (by omega) rfl ?_
                  refine E_istore (L2 := [some (.ref 0), some (.ref 8), some (.int (nI a1k)), some (.int (nI a3k)), some (.int (nI 7)), some (.int (nI ((qW s).getD a1k 0)))]) rfl rfl ?_
                  refine E_aload_n rfl rfl ?_
                  refine E_iload_n rfl rfl ?_
                  refine E_iload_n rfl rfl ?_
                  refine E_iasN (l := qW s) (cs2 := (ww im lf (qs_W s ((qW s).set a1k a3k)) d k ls rf rz ra rn rq lt m1 m2 m3 m4 bd fc hd sz el s g fm hm so si sh ce ca td wa kp la bf oo bo pw ow tr)) rfl w8 (by omega) (by omega) w_pt1_W ?_
                  refine E_iload rfl rfl ?_
                  exact E_iret rfl rfl
                refine E_callV (v := some (.int (nI ((qW s).getD a1k 0)))) (As := [.ref 0, .ref 8, .int (nI a1k), .int (nI a3k), .int (nI 7)]) (r0 := []) (cs2 := (ww im lf (qs_W s ((qW s).set a1k a3k)) d k ls rf rz ra rn rq lt m1 m2 m3 m4 bd fc hd sz el s g fm hm so si sh ce ca td wa kp la bf oo bo pw ow tr)) rfl rfl rfl (Nat.le_of_ble_eq_true rfl) rfl (ab_rvOf w0 rfl) e1 (by decide) w_lens ?_
                exact E_iret rfl rfl
              · show Ev ab_Z0 2 152 [.ref 65, .int (nI a1k), .int (nI 2), .int (nI a3k)] (ww im lf (qs_W s ((qW s).set a1k a3k)) d k ls rf rz ra rn rq lt m1 m2 m3 m4 bd fc hd sz el s g fm hm so si sh ce ca td wa kp la bf oo bo pw ow tr) (some (.int (nI ((qW s).getD a1k 0))), (ww im lf (qs_W s ((qW s).set a1k a3k)) d k ls rf rz ra rn rq lt m1 m2 m3 m4 bd fc hd sz el (qs_W s ((qW s).set a1k a3k)) g fm hm so si sh ce ca td wa kp la bf oo bo pw ow tr))
                refine Ef.in (md := mX6_tell) (L := [some (.ref 65), some (.int (nI a1k)), some (.int (nI 2)), some (.int (nI a3k)), none]) rfl (Nat.le_of_ble_eq_true rfl) rfl ?_
                refine E_aload_n at_X6_tell_0 rfl ?_
                refine E_iload_n at_X6_tell_1 rfl ?_
                refine E_callV (v := some (.int (nI 1))) (As := [.ref 65, .int (nI a1k)]) (r0 := []) (cs2 := (ww im lf (qs_W s ((qW s).set a1k a3k)) d k ls rf rz ra rn rq lt m1 m2 m3 m4 bd fc hd sz el s g fm hm so si sh ce ca td wa kp la bf oo bo pw ow tr)) at_X6_tell_2 rfl rfl (Nat.le_of_ble_eq_true rfl) rfl (ab_rvOf w65 rfl) (L2_X6_isOne (by omega) (by omega) (by omega) (by omega)) (by decide) rfl ?_
                refine E_if (t := 14) (b := true) at_X6_tell_5 rfl (by decide) ?_
                refine E_iload_n at_X6_tell_14 rfl ?_
                refine E_if (t := 53) (b := false) at_X6_tell_15 rfl (by decide) ?_
                refine E_iload_n at_X6_tell_18 rfl ?_
                refine E_iconst (x := nI 2) at_X6_tell_19 (by decide) ?_
                refine E_ic (t := 53) (b := false) at_X6_tell_20 rfl (by decide) ?_
                refine E_aload_n at_X6_tell_23 rfl ?_
                refine E_iload_n at_X6_tell_24 rfl ?_
                refine E_iconst (x := nI 0) at_X6_tell_25 (by decide) ?_
                refine E_iload_n at_X6_tell_26 rfl ?_
                refine E_if (t := 35) (b := true) at_X6_tell_27 rfl (by decide) ?_
                refine E_iload_n at_X6_tell_35 rfl ?_
                refine E_iconst (x := nI 1) at_X6_tell_36 (by decide) ?_
                refine E_ic (t := 45) (b := true) at_X6_tell_37 rfl (by decide) ?_
                refine E_bipush (x := nI 7) rfl (by decide) ?_
                refine E_callV (v := some (.int (nI 1))) (As := [.ref 65, .int (nI a3k), .int (nI 0), .int (nI 7)]) (r0 := []) (cs2 := (ww im lf (qs_W s ((qW s).set a1k a3k)) d k ls rf rz ra rn rq lt m1 m2 m3 m4 bd fc hd sz el s g fm hm so si sh ce ca td wa kp la bf oo bo pw ow tr)) at_X6_tell_47 rfl rfl (Nat.le_of_ble_eq_true rfl) rfl (ab_rvOf w65 rfl) (L3_X6_isFrom (by omega) (by omega) (by omega)) (by decide) rfl ?_
                refine E_if (t := 60) (b := true) at_X6_tell_50 rfl (by decide) ?_
                refine E_iload_n rfl rfl ?_
                refine E_if (t := 73) (b := true) rfl rfl (by decide) ?_
                refine E_iload_n rfl rfl ?_
                refine E_iconst (x := nI 1) rfl (by decide) ?_
                refine E_ic (t := 87) (b := true) rfl rfl (by decide) ?_
                refine E_aload_n rfl rfl ?_
                refine E_getfield (v := .ref 73) rfl w65 rfl (by decide) rfl ?_
                refine E_iload_n rfl rfl ?_
                refine E_ialN (l := qW s) (v := (qW s).getD a1k 0) rfl w73 (by omega) (by omega) rfl ?_
                refine E_istore (L2 := [some (.ref 65), some (.int (nI a1k)), some (.int (nI 2)), some (.int (nI a3k)), some (.int (nI ((qW s).getD a1k 0)))]) rfl rfl ?_
                refine E_iload_n rfl rfl ?_
                refine E_if (t := 109) (b := true) rfl rfl (by decide) ?_
                refine E_iload_n rfl rfl ?_
                refine E_iconst (x := nI 1) rfl (by decide) ?_
                refine E_ic (t := 124) (b := true) rfl rfl (by decide) ?_
                refine E_aload_n rfl rfl ?_
                refine E_getfield (v := .ref 73) rfl w65 rfl (by decide) rfl ?_
                refine E_iload_n rfl rfl ?_
                refine E_iload_n rfl rfl ?_
                refine E_iasN (l := qW s) (cs2 := (ww im lf (qs_W s ((qW s).set a1k a3k)) d k ls rf rz ra rn rq lt m1 m2 m3 m4 bd fc hd sz el (qs_W s ((qW s).set a1k a3k)) g fm hm so si sh ce ca td wa kp la bf oo bo pw ow tr)) rfl w73 (by omega) (by omega) w_pt65_W ?_
                refine E_iload rfl rfl ?_
                exact E_iret rfl rfl
              · exact ⟨(kW I (by omega)), rfl, hf, iQ, iM, iT, iS, l_el, (lr.1), (lr.2.1), (lr.2.2.1), (lr.2.2.2.1), (lr.2.2.2.2.1), (lr.2.2.2.2.2.1), (lr.2.2.2.2.2.2.1), (lr.2.2.2.2.2.2.2.1), (lr.2.2.2.2.2.2.2.2.1), (lr.2.2.2.2.2.2.2.2.2.1), (lr.2.2.2.2.2.2.2.2.2.2.1), (lr.2.2.2.2.2.2.2.2.2.2.2.1), (lr.2.2.2.2.2.2.2.2.2.2.2.2.1), (lr.2.2.2.2.2.2.2.2.2.2.2.2.2.1), (lr.2.2.2.2.2.2.2.2.2.2.2.2.2.2.1), (lr.2.2.2.2.2.2.2.2.2.2.2.2.2.2.2.1), (lr.2.2.2.2.2.2.2.2.2.2.2.2.2.2.2.2.1), (lr.2.2.2.2.2.2.2.2.2.2.2.2.2.2.2.2.2.1), (lr.2.2.2.2.2.2.2.2.2.2.2.2.2.2.2.2.2.2.1), (lr.2.2.2.2.2.2.2.2.2.2.2.2.2.2.2.2.2.2.2.1), (lr.2.2.2.2.2.2.2.2.2.2.2.2.2.2.2.2.2.2.2.2)⟩
            · refine ⟨(-1), (-6), (im, lf, s, d, k, ls, rf, rz, ra, rn, rq, lt, m1, m2, m3, m4, bd, (fc.set 1 ((fc.getD 1 0) + (nI 1))), hd, sz, el, s, g, fm, hm, so, si, sh, ce, ca, td, wa, kp, la, bf, oo, bo, pw, ow, tr), (im, lf, s, d, k, ls, rf, rz, ra, rn, rq, lt, m1, m2, m3, m4, bd, (fc.set 1 ((fc.getD 1 0) + (nI 1))), hd, sz, el, s, g, (fm.set 6 ((fm.getD 6 0) + (nI 1))), hm, so, si, sh, ce, ca, td, wa, kp, la, bf, oo, bo, pw, ow, tr), ?_, ?_, ?_⟩
              · show Ev ab_Z0 4 87 [.ref 0, .int (nI a1k), .int (nI 2), .int (nI a3k)] (ww im lf s d k ls rf rz ra rn rq lt m1 m2 m3 m4 bd fc hd sz el s g fm hm so si sh ce ca td wa kp la bf oo bo pw ow tr) (some (.int (-1)), (ww im lf s d k ls rf rz ra rn rq lt m1 m2 m3 m4 bd (fc.set 1 ((fc.getD 1 0) + (nI 1))) hd sz el s g fm hm so si sh ce ca td wa kp la bf oo bo pw ow tr))
                refine Ef.in (md := mX5_tell) (L := [some (.ref 0), some (.int (nI a1k)), some (.int (nI 2)), some (.int (nI a3k))]) rfl (Nat.le_of_ble_eq_true rfl) rfl ?_
                refine E_aload_n at_X5_tell_0 rfl ?_
                refine E_getfield (v := .ref 1) at_X5_tell_1 w0 rfl (by decide) rfl ?_
                refine E_iload_n at_X5_tell_4 rfl ?_
                refine E_callV (v := some (.int (nI 1))) (As := [.ref 1, .int (nI a1k)]) (r0 := []) (cs2 := (ww im lf s d k ls rf rz ra rn rq lt m1 m2 m3 m4 bd fc hd sz el s g fm hm so si sh ce ca td wa kp la bf oo bo pw ow tr)) at_X5_tell_5 rfl rfl (Nat.le_of_ble_eq_true rfl) rfl (ab_rvOf w1 rfl) (L0_X4_isPerson (by omega) (by omega) (by omega) (by omega)) (by decide) rfl ?_
                refine E_if (t := 23) (b := false) at_X5_tell_8 rfl (by decide) ?_
                refine E_iload_n at_X5_tell_11 rfl ?_
                refine E_iconst (x := nI 2) at_X5_tell_12 (by decide) ?_
                refine E_ic (t := 29) (b := false) at_X5_tell_13 rfl (by decide) ?_
                refine E_iload_n rfl rfl ?_
                refine E_callS (v := some (.int (nI 0))) (As := [.int (nI a3k)]) (r0 := []) (cs2 := (ww im lf s d k ls rf rz ra rn rq lt m1 m2 m3 m4 bd fc hd sz el s g fm hm so si sh ce ca td wa kp la bf oo bo pw ow tr)) rfl rfl rfl (Nat.le_of_ble_eq_true rfl) rfl (L4_X4_isWish (by omega) (by omega) (by omega)) (by decide) rfl ?_
                refine E_if (t := 29) (b := false) rfl rfl (by decide) ?_
                refine E_aload_n at_X5_tell_23 rfl ?_
                refine E_iconst (x := nI 1) at_X5_tell_24 (by decide) ?_
                refine E_callV (v := some (.int (-1))) (As := [.ref 0, .int (nI 1)]) (r0 := []) (cs2 := (ww im lf s d k ls rf rz ra rn rq lt m1 m2 m3 m4 bd (fc.set 1 ((fc.getD 1 0) + (nI 1))) hd sz el s g fm hm so si sh ce ca td wa kp la bf oo bo pw ow tr)) at_X5_tell_25 rfl rfl (Nat.le_of_ble_eq_true rfl) rfl (ab_rvOf w0 rfl) (L6_X5_refuse (by omega)) (by decide) w_lens ?_
                exact E_iret at_X5_tell_28 rfl
              · show Ev ab_Z0 2 152 [.ref 65, .int (nI a1k), .int (nI 2), .int (nI a3k)] (ww im lf s d k ls rf rz ra rn rq lt m1 m2 m3 m4 bd (fc.set 1 ((fc.getD 1 0) + (nI 1))) hd sz el s g fm hm so si sh ce ca td wa kp la bf oo bo pw ow tr) (some (.int (-6)), (ww im lf s d k ls rf rz ra rn rq lt m1 m2 m3 m4 bd (fc.set 1 ((fc.getD 1 0) + (nI 1))) hd sz el s g (fm.set 6 ((fm.getD 6 0) + (nI 1))) hm so si sh ce ca td wa kp la bf oo bo pw ow tr))
                refine Ef.in (md := mX6_tell) (L := [some (.ref 65), some (.int (nI a1k)), some (.int (nI 2)), some (.int (nI a3k)), none]) rfl (Nat.le_of_ble_eq_true rfl) rfl ?_
                refine E_aload_n at_X6_tell_0 rfl ?_
                refine E_iload_n at_X6_tell_1 rfl ?_
                refine E_callV (v := some (.int (nI 1))) (As := [.ref 65, .int (nI a1k)]) (r0 := []) (cs2 := (ww im lf s d k ls rf rz ra rn rq lt m1 m2 m3 m4 bd (fc.set 1 ((fc.getD 1 0) + (nI 1))) hd sz el s g fm hm so si sh ce ca td wa kp la bf oo bo pw ow tr)) at_X6_tell_2 rfl rfl (Nat.le_of_ble_eq_true rfl) rfl (ab_rvOf w65 rfl) (L2_X6_isOne (by omega) (by omega) (by omega) (by omega)) (by decide) rfl ?_
                refine E_if (t := 14) (b := true) at_X6_tell_5 rfl (by decide) ?_
                refine E_iload_n at_X6_tell_14 rfl ?_
                refine E_if (t := 53) (b := false) at_X6_tell_15 rfl (by decide) ?_
                refine E_iload_n at_X6_tell_18 rfl ?_
                refine E_iconst (x := nI 2) at_X6_tell_19 (by decide) ?_
                refine E_ic (t := 53) (b := false) at_X6_tell_20 rfl (by decide) ?_
                refine E_aload_n at_X6_tell_23 rfl ?_
                refine E_iload_n at_X6_tell_24 rfl ?_
                refine E_iconst (x := nI 0) at_X6_tell_25 (by decide) ?_
                refine E_iload_n at_X6_tell_26 rfl ?_
                refine E_if (t := 35) (b := true) at_X6_tell_27 rfl (by decide) ?_
                refine E_iload_n at_X6_tell_35 rfl ?_
                refine E_iconst (x := nI 1) at_X6_tell_36 (by decide) ?_
                refine E_ic (t := 45) (b := true) at_X6_tell_37 rfl (by decide) ?_
                refine E_bipush (x := nI 7) rfl (by decide) ?_
                refine E_callV (v := some (.int (nI 0))) (As := [.ref 65, .int (nI a3k), .int (nI 0), .int (nI 7)]) (r0 := []) (cs2 := (ww im lf s d k ls rf rz ra rn rq lt m1 m2 m3 m4 bd (fc.set 1 ((fc.getD 1 0) + (nI 1))) hd sz el s g fm hm so si sh ce ca td wa kp la bf oo bo pw ow tr)) at_X6_tell_47 rfl rfl (Nat.le_of_ble_eq_true rfl) rfl (ab_rvOf w65 rfl) (L7_X6_isFrom (by omega) (by omega) (by omega)) (by decide) rfl ?_
                refine E_if (t := 60) (b := false) at_X6_tell_50 rfl (by decide) ?_
                refine E_aload_n at_X6_tell_53 rfl ?_
                refine E_bipush (x := (-6)) at_X6_tell_54 (by decide) ?_
                refine E_callV (v := some (.int (-6))) (As := [.ref 65, .int (-6)]) (r0 := []) (cs2 := (ww im lf s d k ls rf rz ra rn rq lt m1 m2 m3 m4 bd (fc.set 1 ((fc.getD 1 0) + (nI 1))) hd sz el s g (fm.set 6 ((fm.getD 6 0) + (nI 1))) hm so si sh ce ca td wa kp la bf oo bo pw ow tr)) at_X6_tell_56 rfl rfl (Nat.le_of_ble_eq_true rfl) rfl (ab_rvOf w65 rfl) (L28_X6_no (by omega)) (by decide) w_lens ?_
                exact E_iret at_X6_tell_59 rfl
              · exact ⟨I, rfl, hf, iQ, iM, iT, iS, l_el, (lr.1), (lr.2.1), (lr.2.2.1), (by simp only [List.length_set]; exact (lr.2.2.2.1)), (by simp only [List.length_set]; exact (lr.2.2.2.2.1)), (lr.2.2.2.2.2.1), (lr.2.2.2.2.2.2.1), (lr.2.2.2.2.2.2.2.1), (lr.2.2.2.2.2.2.2.2.1), (lr.2.2.2.2.2.2.2.2.2.1), (lr.2.2.2.2.2.2.2.2.2.2.1), (lr.2.2.2.2.2.2.2.2.2.2.2.1), (lr.2.2.2.2.2.2.2.2.2.2.2.2.1), (lr.2.2.2.2.2.2.2.2.2.2.2.2.2.1), (lr.2.2.2.2.2.2.2.2.2.2.2.2.2.2.1), (lr.2.2.2.2.2.2.2.2.2.2.2.2.2.2.2.1), (lr.2.2.2.2.2.2.2.2.2.2.2.2.2.2.2.2.1), (lr.2.2.2.2.2.2.2.2.2.2.2.2.2.2.2.2.2.1), (lr.2.2.2.2.2.2.2.2.2.2.2.2.2.2.2.2.2.2.1), (lr.2.2.2.2.2.2.2.2.2.2.2.2.2.2.2.2.2.2.2.1), (lr.2.2.2.2.2.2.2.2.2.2.2.2.2.2.2.2.2.2.2.2)⟩
          · refine ⟨(-1), (-6), (im, lf, s, d, k, ls, rf, rz, ra, rn, rq, lt, m1, m2, m3, m4, bd, (fc.set 1 ((fc.getD 1 0) + (nI 1))), hd, sz, el, s, g, fm, hm, so, si, sh, ce, ca, td, wa, kp, la, bf, oo, bo, pw, ow, tr), (im, lf, s, d, k, ls, rf, rz, ra, rn, rq, lt, m1, m2, m3, m4, bd, (fc.set 1 ((fc.getD 1 0) + (nI 1))), hd, sz, el, s, g, (fm.set 6 ((fm.getD 6 0) + (nI 1))), hm, so, si, sh, ce, ca, td, wa, kp, la, bf, oo, bo, pw, ow, tr), ?_, ?_, ?_⟩
            · show Ev ab_Z0 4 87 [.ref 0, .int (nI a1k), .int (nI 2), .int a3] (ww im lf s d k ls rf rz ra rn rq lt m1 m2 m3 m4 bd fc hd sz el s g fm hm so si sh ce ca td wa kp la bf oo bo pw ow tr) (some (.int (-1)), (ww im lf s d k ls rf rz ra rn rq lt m1 m2 m3 m4 bd (fc.set 1 ((fc.getD 1 0) + (nI 1))) hd sz el s g fm hm so si sh ce ca td wa kp la bf oo bo pw ow tr))
              refine Ef.in (md := mX5_tell) (L := [some (.ref 0), some (.int (nI a1k)), some (.int (nI 2)), some (.int a3)]) rfl (Nat.le_of_ble_eq_true rfl) rfl ?_
              refine E_aload_n at_X5_tell_0 rfl ?_
              refine E_getfield (v := .ref 1) at_X5_tell_1 w0 rfl (by decide) rfl ?_
              refine E_iload_n at_X5_tell_4 rfl ?_
              refine E_callV (v := some (.int (nI 1))) (As := [.ref 1, .int (nI a1k)]) (r0 := []) (cs2 := (ww im lf s d k ls rf rz ra rn rq lt m1 m2 m3 m4 bd fc hd sz el s g fm hm so si sh ce ca td wa kp la bf oo bo pw ow tr)) at_X5_tell_5 rfl rfl (Nat.le_of_ble_eq_true rfl) rfl (ab_rvOf w1 rfl) (L0_X4_isPerson (by omega) (by omega) (by omega) (by omega)) (by decide) rfl ?_
              refine E_if (t := 23) (b := false) at_X5_tell_8 rfl (by decide) ?_
              refine E_iload_n at_X5_tell_11 rfl ?_
              refine E_iconst (x := nI 2) at_X5_tell_12 (by decide) ?_
              refine E_ic (t := 29) (b := false) at_X5_tell_13 rfl (by decide) ?_
              refine E_iload_n rfl rfl ?_
              refine E_callS (v := some (.int (nI 0))) (As := [.int a3]) (r0 := []) (cs2 := (ww im lf s d k ls rf rz ra rn rq lt m1 m2 m3 m4 bd fc hd sz el s g fm hm so si sh ce ca td wa kp la bf oo bo pw ow tr)) rfl rfl rfl (Nat.le_of_ble_eq_true rfl) rfl (L9_X4_isWish (by omega) (by omega)) (by decide) rfl ?_
              refine E_if (t := 29) (b := false) rfl rfl (by decide) ?_
              refine E_aload_n at_X5_tell_23 rfl ?_
              refine E_iconst (x := nI 1) at_X5_tell_24 (by decide) ?_
              refine E_callV (v := some (.int (-1))) (As := [.ref 0, .int (nI 1)]) (r0 := []) (cs2 := (ww im lf s d k ls rf rz ra rn rq lt m1 m2 m3 m4 bd (fc.set 1 ((fc.getD 1 0) + (nI 1))) hd sz el s g fm hm so si sh ce ca td wa kp la bf oo bo pw ow tr)) at_X5_tell_25 rfl rfl (Nat.le_of_ble_eq_true rfl) rfl (ab_rvOf w0 rfl) (L6_X5_refuse (by omega)) (by decide) w_lens ?_
              exact E_iret at_X5_tell_28 rfl
            · show Ev ab_Z0 2 152 [.ref 65, .int (nI a1k), .int (nI 2), .int a3] (ww im lf s d k ls rf rz ra rn rq lt m1 m2 m3 m4 bd (fc.set 1 ((fc.getD 1 0) + (nI 1))) hd sz el s g fm hm so si sh ce ca td wa kp la bf oo bo pw ow tr) (some (.int (-6)), (ww im lf s d k ls rf rz ra rn rq lt m1 m2 m3 m4 bd (fc.set 1 ((fc.getD 1 0) + (nI 1))) hd sz el s g (fm.set 6 ((fm.getD 6 0) + (nI 1))) hm so si sh ce ca td wa kp la bf oo bo pw ow tr))
              refine Ef.in (md := mX6_tell) (L := [some (.ref 65), some (.int (nI a1k)), some (.int (nI 2)), some (.int a3), none]) rfl (Nat.le_of_ble_eq_true rfl) rfl ?_
              refine E_aload_n at_X6_tell_0 rfl ?_
              refine E_iload_n at_X6_tell_1 rfl ?_
              refine E_callV (v := some (.int (nI 1))) (As := [.ref 65, .int (nI a1k)]) (r0 := []) (cs2 := (ww im lf s d k ls rf rz ra rn rq lt m1 m2 m3 m4 bd (fc.set 1 ((fc.getD 1 0) + (nI 1))) hd sz el s g fm hm so si sh ce ca td wa kp la bf oo bo pw ow tr)) at_X6_tell_2 rfl rfl (Nat.le_of_ble_eq_true rfl) rfl (ab_rvOf w65 rfl) (L2_X6_isOne (by omega) (by omega) (by omega) (by omega)) (by decide) rfl ?_
              refine E_if (t := 14) (b := true) at_X6_tell_5 rfl (by decide) ?_
              refine E_iload_n at_X6_tell_14 rfl ?_
              refine E_if (t := 53) (b := false) at_X6_tell_15 rfl (by decide) ?_
              refine E_iload_n at_X6_tell_18 rfl ?_
              refine E_iconst (x := nI 2) at_X6_tell_19 (by decide) ?_
              refine E_ic (t := 53) (b := false) at_X6_tell_20 rfl (by decide) ?_
              refine E_aload_n at_X6_tell_23 rfl ?_
              refine E_iload_n at_X6_tell_24 rfl ?_
              refine E_iconst (x := nI 0) at_X6_tell_25 (by decide) ?_
              refine E_iload_n at_X6_tell_26 rfl ?_
              refine E_if (t := 35) (b := true) at_X6_tell_27 rfl (by decide) ?_
              refine E_iload_n at_X6_tell_35 rfl ?_
              refine E_iconst (x := nI 1) at_X6_tell_36 (by decide) ?_
              refine E_ic (t := 45) (b := true) at_X6_tell_37 rfl (by decide) ?_
              refine E_bipush (x := nI 7) rfl (by decide) ?_
              refine E_callV (v := some (.int (nI 0))) (As := [.ref 65, .int a3, .int (nI 0), .int (nI 7)]) (r0 := []) (cs2 := (ww im lf s d k ls rf rz ra rn rq lt m1 m2 m3 m4 bd (fc.set 1 ((fc.getD 1 0) + (nI 1))) hd sz el s g fm hm so si sh ce ca td wa kp la bf oo bo pw ow tr)) at_X6_tell_47 rfl rfl (Nat.le_of_ble_eq_true rfl) rfl (ab_rvOf w65 rfl) (L10_X6_isFrom (by omega) (by omega)) (by decide) rfl ?_
              refine E_if (t := 60) (b := false) at_X6_tell_50 rfl (by decide) ?_
              refine E_aload_n at_X6_tell_53 rfl ?_
              refine E_bipush (x := (-6)) at_X6_tell_54 (by decide) ?_
              refine E_callV (v := some (.int (-6))) (As := [.ref 65, .int (-6)]) (r0 := []) (cs2 := (ww im lf s d k ls rf rz ra rn rq lt m1 m2 m3 m4 bd (fc.set 1 ((fc.getD 1 0) + (nI 1))) hd sz el s g (fm.set 6 ((fm.getD 6 0) + (nI 1))) hm so si sh ce ca td wa kp la bf oo bo pw ow tr)) at_X6_tell_56 rfl rfl (Nat.le_of_ble_eq_true rfl) rfl (ab_rvOf w65 rfl) (L28_X6_no (by omega)) (by decide) w_lens ?_
              exact E_iret at_X6_tell_59 rfl
            · exact ⟨I, rfl, hf, iQ, iM, iT, iS, l_el, (lr.1), (lr.2.1), (lr.2.2.1), (by simp only [List.length_set]; exact (lr.2.2.2.1)), (by simp only [List.length_set]; exact (lr.2.2.2.2.1)), (lr.2.2.2.2.2.1), (lr.2.2.2.2.2.2.1), (lr.2.2.2.2.2.2.2.1), (lr.2.2.2.2.2.2.2.2.1), (lr.2.2.2.2.2.2.2.2.2.1), (lr.2.2.2.2.2.2.2.2.2.2.1), (lr.2.2.2.2.2.2.2.2.2.2.2.1), (lr.2.2.2.2.2.2.2.2.2.2.2.2.1), (lr.2.2.2.2.2.2.2.2.2.2.2.2.2.1), (lr.2.2.2.2.2.2.2.2.2.2.2.2.2.2.1), (lr.2.2.2.2.2.2.2.2.2.2.2.2.2.2.2.1), (lr.2.2.2.2.2.2.2.2.2.2.2.2.2.2.2.2.1), (lr.2.2.2.2.2.2.2.2.2.2.2.2.2.2.2.2.2.1), (lr.2.2.2.2.2.2.2.2.2.2.2.2.2.2.2.2.2.2.1), (lr.2.2.2.2.2.2.2.2.2.2.2.2.2.2.2.2.2.2.2.1), (lr.2.2.2.2.2.2.2.2.2.2.2.2.2.2.2.2.2.2.2.2)⟩
        · by_cases f4 : a2k = 0
          · subst f4
            rcases ab_int a3 with ⟨a3k, f5, rfl⟩ | f5
            · by_cases f6 : 99 < a3k
              · refine ⟨(-6), (-6), (im, lf, s, d, k, ls, rf, rz, ra, rn, rq, lt, m1, m2, m3, m4, bd, (fc.set 6 ((fc.getD 6 0) + (nI 1))), hd, sz, el, s, g, fm, hm, so, si, sh, ce, ca, td, wa, kp, la, bf, oo, bo, pw, ow, tr), (im, lf, s, d, k, ls, rf, rz, ra, rn, rq, lt, m1, m2, m3, m4, bd, (fc.set 6 ((fc.getD 6 0) + (nI 1))), hd, sz, el, s, g, (fm.set 6 ((fm.getD 6 0) + (nI 1))), hm, so, si, sh, ce, ca, td, wa, kp, la, bf, oo, bo, pw, ow, tr), ?_, ?_, ?_⟩
                · show Ev ab_Z0 4 87 [.ref 0, .int (nI a1k), .int (nI 0), .int (nI a3k)] (ww im lf s d k ls rf rz ra rn rq lt m1 m2 m3 m4 bd fc hd sz el s g fm hm so si sh ce ca td wa kp la bf oo bo pw ow tr) (some (.int (-6)), (ww im lf s d k ls rf rz ra rn rq lt m1 m2 m3 m4 bd (fc.set 6 ((fc.getD 6 0) + (nI 1))) hd sz el s g fm hm so si sh ce ca td wa kp la bf oo bo pw ow tr))
                  refine Ef.in (md := mX5_tell) (L := [some (.ref 0), some (.int (nI a1k)), some (.int (nI 0)), some (.int (nI a3k))]) rfl (Nat.le_of_ble_eq_true rfl) rfl ?_
                  refine E_aload_n at_X5_tell_0 rfl ?_
                  refine E_getfield (v := .ref 1) at_X5_tell_1 w0 rfl (by decide) rfl ?_
                  refine E_iload_n at_X5_tell_4 rfl ?_
                  refine E_callV (v := some (.int (nI 1))) (As := [.ref 1, .int (nI a1k)]) (r0 := []) (cs2 := (ww im lf s d k ls rf rz ra rn rq lt m1 m2 m3 m4 bd fc hd sz el s g fm hm so si sh ce ca td wa kp la bf oo bo pw ow tr)) at_X5_tell_5 rfl rfl (Nat.le_of_ble_eq_true rfl) rfl (ab_rvOf w1 rfl) (L0_X4_isPerson (by omega) (by omega) (by omega) (by omega)) (by decide) rfl ?_
                  refine E_if (t := 23) (b := false) at_X5_tell_8 rfl (by decide) ?_
                  refine E_iload_n at_X5_tell_11 rfl ?_
                  refine E_iconst (x := nI 2) at_X5_tell_12 (by decide) ?_
                  refine E_ic (t := 29) (b := true) at_X5_tell_13 rfl (by decide) ?_
                  refine E_iload_n at_X5_tell_29 rfl ?_
                  refine E_tsIn (off := 26) (t := 56) at_X5_tell_30 (by decide) rfl rfl ?_
                  refine E_aload_n rfl rfl ?_
                  refine E_aload_n rfl rfl ?_
                  refine E_getfield (v := .ref 1) rfl w0 rfl (by decide) rfl ?_
                  refine E_getfield (v := .ref 6) rfl w1 rfl (by decide) rfl ?_
                  refine E_iload_n rfl rfl ?_
                  refine E_iload_n rfl rfl ?_
                  refine E_bipush (x := nI 99) rfl (by decide) ?_
                  have e1 : Ev ab_Z0 3 121 [.ref 0, .ref 6, .int (nI a1k), .int (nI a3k), .int (nI 99)] (ww im lf s d k ls rf rz ra rn rq lt m1 m2 m3 m4 bd fc hd sz el s g fm hm so si sh ce ca td wa kp la bf oo bo pw ow tr) (some (.int (-6)), (ww im lf s d k ls rf rz ra rn rq lt m1 m2 m3 m4 bd (fc.set 6 ((fc.getD 6 0) + (nI 1))) hd sz el s g fm hm so si sh ce ca td wa kp la bf oo bo pw ow tr)) := by
                    refine Ef.in (md := mX5_tellOne) (L := [some (.ref 0), some (.ref 6), some (.int (nI a1k)), some (.int (nI a3k)), some (.int (nI 99)), none]) rfl (Nat.le_of_ble_eq_true rfl) rfl ?_
                    refine E_iload_n at_X5_tellOne_0 rfl ?_
                    refine E_iconst (x := nI 0) at_X5_tellOne_1 (by decide) ?_
                    refine E_iload at_X5_tellOne_2 rfl ?_
                    refine E_callS (v := some (.int (nI 0))) (As := [.int (nI a3k), .int (nI 0), .int (nI 99)]) (r0 := []) (cs2 := (ww im lf s d k ls rf rz ra rn rq lt m1 m2 m3 m4 bd fc hd sz el s g fm hm so si sh ce ca td wa kp la bf oo bo pw ow tr)) at_X5_tellOne_4 rfl rfl (Nat.le_of_ble_eq_true rfl) rfl (L82_X5_isFrom (by omega) (by omega) (by omega)) (by decide) rfl ?_
                    refine E_if (t := 17) (b := false) at_X5_tellOne_7 rfl (by decide) ?_
                    refine E_aload_n at_X5_tellOne_10 rfl ?_
                    refine E_bipush (x := nI 6) at_X5_tellOne_11 (by decide) ?_
                    refine E_callV (v := some (.int (-6))) (As := [.ref 0, .int (nI 6)]) (r0 := []) (cs2 := (ww im lf s d k ls rf rz ra rn rq lt m1 m2 m3 m4 bd (fc.set 6 ((fc.getD 6 0) + (nI 1))) hd sz el s g fm hm so si sh ce ca td wa kp la bf oo bo pw ow tr)) at_X5_tellOne_13 rfl rfl (Nat.le_of_ble_eq_true rfl) rfl (ab_rvOf w0 rfl) (L26_X5_refuse (by omega)) (by decide) w_lens ?_
                    exact E_iret at_X5_tellOne_16 rfl
                  refine E_callV (v := some (.int (-6))) (As := [.ref 0, .ref 6, .int (nI a1k), .int (nI a3k), .int (nI 99)]) (r0 := []) (cs2 := (ww im lf s d k ls rf rz ra rn rq lt m1 m2 m3 m4 bd (fc.set 6 ((fc.getD 6 0) + (nI 1))) hd sz el s g fm hm so si sh ce ca td wa kp la bf oo bo pw ow tr)) rfl rfl rfl (Nat.le_of_ble_eq_true rfl) rfl (ab_rvOf w0 rfl) e1 (by decide) w_lens ?_
                  exact E_iret rfl rfl
                · show Ev ab_Z0 2 152 [.ref 65, .int (nI a1k), .int (nI 0), .int (nI a3k)] (ww im lf s d k ls rf rz ra rn rq lt m1 m2 m3 m4 bd (fc.set 6 ((fc.getD 6 0) + (nI 1))) hd sz el s g fm hm so si sh ce ca td wa kp la bf oo bo pw ow tr) (some (.int (-6)), (ww im lf s d k ls rf rz ra rn rq lt m1 m2 m3 m4 bd (fc.set 6 ((fc.getD 6 0) + (nI 1))) hd sz el s g (fm.set 6 ((fm.getD 6 0) + (nI 1))) hm so si sh ce ca td wa kp la bf oo bo pw ow tr))
                  refine Ef.in (md := mX6_tell) (L := [some (.ref 65), some (.int (nI a1k)), some (.int (nI 0)), some (.int (nI a3k)), none]) rfl (Nat.le_of_ble_eq_true rfl) rfl ?_
                  refine E_aload_n at_X6_tell_0 rfl ?_
                  refine E_iload_n at_X6_tell_1 rfl ?_
                  refine E_callV (v := some (.int (nI 1))) (As := [.ref 65, .int (nI a1k)]) (r0 := []) (cs2 := (ww im lf s d k ls rf rz ra rn rq lt m1 m2 m3 m4 bd (fc.set 6 ((fc.getD 6 0) + (nI 1))) hd sz el s g fm hm so si sh ce ca td wa kp la bf oo bo pw ow tr)) at_X6_tell_2 rfl rfl (Nat.le_of_ble_eq_true rfl) rfl (ab_rvOf w65 rfl) (L2_X6_isOne (by omega) (by omega) (by omega) (by omega)) (by decide) rfl ?_
                  refine E_if (t := 14) (b := true) at_X6_tell_5 rfl (by decide) ?_
                  refine E_iload_n at_X6_tell_14 rfl ?_
                  refine E_if (t := 53) (b := false) at_X6_tell_15 rfl (by decide) ?_
                  refine E_iload_n at_X6_tell_18 rfl ?_
                  refine E_iconst (x := nI 2) at_X6_tell_19 (by decide) ?_
                  refine E_ic (t := 53) (b := false) at_X6_tell_20 rfl (by decide) ?_
                  refine E_aload_n at_X6_tell_23 rfl ?_
                  refine E_iload_n at_X6_tell_24 rfl ?_
                  refine E_iconst (x := nI 0) at_X6_tell_25 (by decide) ?_
                  refine E_iload_n at_X6_tell_26 rfl ?_
                  refine E_if (t := 35) (b := false) at_X6_tell_27 rfl (by decide) ?_
                  refine E_bipush (x := nI 99) rfl (by decide) ?_
                  refine E_goto (t := 47) rfl rfl ?_
                  refine E_callV (v := some (.int (nI 0))) (As := [.ref 65, .int (nI a3k), .int (nI 0), .int (nI 99)]) (r0 := []) (cs2 := (ww im lf s d k ls rf rz ra rn rq lt m1 m2 m3 m4 bd (fc.set 6 ((fc.getD 6 0) + (nI 1))) hd sz el s g fm hm so si sh ce ca td wa kp la bf oo bo pw ow tr)) at_X6_tell_47 rfl rfl (Nat.le_of_ble_eq_true rfl) rfl (ab_rvOf w65 rfl) (L83_X6_isFrom (by omega) (by omega) (by omega)) (by decide) rfl ?_
                  refine E_if (t := 60) (b := false) at_X6_tell_50 rfl (by decide) ?_
                  refine E_aload_n at_X6_tell_53 rfl ?_
                  refine E_bipush (x := (-6)) at_X6_tell_54 (by decide) ?_
                  refine E_callV (v := some (.int (-6))) (As := [.ref 65, .int (-6)]) (r0 := []) (cs2 := (ww im lf s d k ls rf rz ra rn rq lt m1 m2 m3 m4 bd (fc.set 6 ((fc.getD 6 0) + (nI 1))) hd sz el s g (fm.set 6 ((fm.getD 6 0) + (nI 1))) hm so si sh ce ca td wa kp la bf oo bo pw ow tr)) at_X6_tell_56 rfl rfl (Nat.le_of_ble_eq_true rfl) rfl (ab_rvOf w65 rfl) (L28_X6_no (by omega)) (by decide) w_lens ?_
                  exact E_iret at_X6_tell_59 rfl
                · exact ⟨I, rfl, hf, iQ, iM, iT, iS, l_el, (lr.1), (lr.2.1), (lr.2.2.1), (by simp only [List.length_set]; exact (lr.2.2.2.1)), (by simp only [List.length_set]; exact (lr.2.2.2.2.1)), (lr.2.2.2.2.2.1), (lr.2.2.2.2.2.2.1), (lr.2.2.2.2.2.2.2.1), (lr.2.2.2.2.2.2.2.2.1), (lr.2.2.2.2.2.2.2.2.2.1), (lr.2.2.2.2.2.2.2.2.2.2.1), (lr.2.2.2.2.2.2.2.2.2.2.2.1), (lr.2.2.2.2.2.2.2.2.2.2.2.2.1), (lr.2.2.2.2.2.2.2.2.2.2.2.2.2.1), (lr.2.2.2.2.2.2.2.2.2.2.2.2.2.2.1), (lr.2.2.2.2.2.2.2.2.2.2.2.2.2.2.2.1), (lr.2.2.2.2.2.2.2.2.2.2.2.2.2.2.2.2.1), (lr.2.2.2.2.2.2.2.2.2.2.2.2.2.2.2.2.2.1), (lr.2.2.2.2.2.2.2.2.2.2.2.2.2.2.2.2.2.2.1), (lr.2.2.2.2.2.2.2.2.2.2.2.2.2.2.2.2.2.2.2.1), (lr.2.2.2.2.2.2.2.2.2.2.2.2.2.2.2.2.2.2.2.2)⟩
              · have := I2 a1k (by omega)
                refine ⟨(nI ((qU s).getD a1k 0)), (nI ((qU s).getD a1k 0)), (im, lf, (qs_U s ((qU s).set a1k a3k)), d, k, ls, rf, rz, ra, rn, rq, lt, m1, m2, m3, m4, bd, fc, hd, sz, el, s, g, fm, hm, so, si, sh, ce, ca, td, wa, kp, la, bf, oo, bo, pw, ow, tr), (im, lf, (qs_U s ((qU s).set a1k a3k)), d, k, ls, rf, rz, ra, rn, rq, lt, m1, m2, m3, m4, bd, fc, hd, sz, el, (qs_U s ((qU s).set a1k a3k)), g, fm, hm, so, si, sh, ce, ca, td, wa, kp, la, bf, oo, bo, pw, ow, tr), ?_, ?_, ?_⟩
                · show Ev ab_Z0 4 87 [.ref 0, .int (nI a1k), .int (nI 0), .int (nI a3k)] (ww im lf s d k ls rf rz ra rn rq lt m1 m2 m3 m4 bd fc hd sz el s g fm hm so si sh ce ca td wa kp la bf oo bo pw ow tr) (some (.int (nI ((qU s).getD a1k 0))), (ww im lf (qs_U s ((qU s).set a1k a3k)) d k ls rf rz ra rn rq lt m1 m2 m3 m4 bd fc hd sz el s g fm hm so si sh ce ca td wa kp la bf oo bo pw ow tr))
                  refine Ef.in (md := mX5_tell) (L := [some (.ref 0), some (.int (nI a1k)), some (.int (nI 0)), some (.int (nI a3k))]) rfl (Nat.le_of_ble_eq_true rfl) rfl ?_
                  refine E_aload_n at_X5_tell_0 rfl ?_
                  refine E_getfield (v := .ref 1) at_X5_tell_1 w0 rfl (by decide) rfl ?_
                  refine E_iload_n at_X5_tell_4 rfl ?_
                  refine E_callV (v := some (.int (nI 1))) (As := [.ref 1, .int (nI a1k)]) (r0 := []) (cs2 := (ww im lf s d k ls rf rz ra rn rq lt m1 m2 m3 m4 bd fc hd sz el s g fm hm so si sh ce ca td wa kp la bf oo bo pw ow tr)) at_X5_tell_5 rfl rfl (Nat.le_of_ble_eq_true rfl) rfl (ab_rvOf w1 rfl) (L0_X4_isPerson (by omega) (by omega) (by omega) (by omega)) (by decide) rfl ?_
                  refine E_if (t := 23) (b := false) at_X5_tell_8 rfl (by decide) ?_
                  refine E_iload_n at_X5_tell_11 rfl ?_
                  refine E_iconst (x := nI 2) at_X5_tell_12 (by decide) ?_
                  refine E_ic (t := 29) (b := true) at_X5_tell_13 rfl (by decide) ?_
                  refine E_iload_n at_X5_tell_29 rfl ?_
                  refine E_tsIn (off := 26) (t := 56) at_X5_tell_30 (by decide) rfl rfl ?_
                  refine E_aload_n rfl rfl ?_
                  refine E_aload_n rfl rfl ?_
                  refine E_getfield (v := .ref 1) rfl w0 rfl (by decide) rfl ?_
                  refine E_getfield (v := .ref 6) rfl w1 rfl (by decide) rfl ?_
                  refine E_iload_n rfl rfl ?_
                  refine E_iload_n rfl rfl ?_
                  refine E_bipush (x := nI 99) rfl (by decide) ?_
                  have e1 : Ev ab_Z0 3 121 [.ref 0, .ref 6, .int (nI a1k), .int (nI a3k), .int (nI 99)] (ww im lf s d k ls rf rz ra rn rq lt m1 m2 m3 m4 bd fc hd sz el s g fm hm so si sh ce ca td wa kp la bf oo bo pw ow tr) (some (.int (nI ((qU s).getD a1k 0))), (ww im lf (qs_U s ((qU s).set a1k a3k)) d k ls rf rz ra rn rq lt m1 m2 m3 m4 bd fc hd sz el s g fm hm so si sh ce ca td wa kp la bf oo bo pw ow tr)) := by
                    refine Ef.in (md := mX5_tellOne) (L := [some (.ref 0), some (.ref 6), some (.int (nI a1k)), some (.int (nI a3k)), some (.int (nI 99)), none]) rfl (Nat.le_of_ble_eq_true rfl) rfl ?_
                    refine E_iload_n at_X5_tellOne_0 rfl ?_
                    refine E_iconst (x := nI 0) at_X5_tellOne_1 (by decide) ?_
                    refine E_iload at_X5_tellOne_2 rfl ?_
                    refine E_callS (v := some (.int (nI 1))) (As := [.int (nI a3k), .int (nI 0), .int (nI 99)]) (r0 := []) (cs2 := (ww im lf s d k ls rf rz ra rn rq lt m1 m2 m3 m4 bd fc hd sz el s g fm hm so si sh ce ca td wa kp la bf oo bo pw ow tr)) at_X5_tellOne_4 rfl rfl (Nat.le_of_ble_eq_true rfl) rfl (L84_X5_isFrom (by omega) (by omega) (by omega)) (by decide) rfl ?_
                    refine E_if (t := 17) (b := true) at_X5_tellOne_7 rfl (by decide) ?_
                    refine E_aload_n rfl rfl ?_
                    refine E_iload_n rfl rfl ?_
                    refine E_ialN (l := qU s) (v := (qU s).getD a1k 0) rfl w6 (by omega) (by omega) rfl ?_
                    refine E_istore (L2 := [some (.ref 0), some (.ref 6), some (.int (nI a1k)), some (.int (nI a3k)), some (.int (nI 99)), some (.int (nI ((qU s).getD a1k 0)))]) rfl rfl ?_
                    refine E_aload_n rfl rfl ?_
                    refine E_iload_n rfl rfl ?_
                    refine E_iload_n rfl rfl ?_
                    refine E_iasN (l := qU s) (cs2 := (ww im lf (qs_U s ((qU s).set a1k a3k)) d k ls rf rz ra rn rq lt m1 m2 m3 m4 bd fc hd sz el s g fm hm so si sh ce ca td wa kp la bf oo bo pw ow tr)) rfl w6 (by omega) (by omega) w_pt1_U ?_
                    refine E_iload rfl rfl ?_
                    exact E_iret rfl rfl
                  refine E_callV (v := some (.int (nI ((qU s).getD a1k 0)))) (As := [.ref 0, .ref 6, .int (nI a1k), .int (nI a3k), .int (nI 99)]) (r0 := []) (cs2 := (ww im lf (qs_U s ((qU s).set a1k a3k)) d k ls rf rz ra rn rq lt m1 m2 m3 m4 bd fc hd sz el s g fm hm so si sh ce ca td wa kp la bf oo bo pw ow tr)) rfl rfl rfl (Nat.le_of_ble_eq_true rfl) rfl (ab_rvOf w0 rfl) e1 (by decide) w_lens ?_
                  exact E_iret rfl rfl
                · show Ev ab_Z0 2 152 [.ref 65, .int (nI a1k), .int (nI 0), .int (nI a3k)] (ww im lf (qs_U s ((qU s).set a1k a3k)) d k ls rf rz ra rn rq lt m1 m2 m3 m4 bd fc hd sz el s g fm hm so si sh ce ca td wa kp la bf oo bo pw ow tr) (some (.int (nI ((qU s).getD a1k 0))), (ww im lf (qs_U s ((qU s).set a1k a3k)) d k ls rf rz ra rn rq lt m1 m2 m3 m4 bd fc hd sz el (qs_U s ((qU s).set a1k a3k)) g fm hm so si sh ce ca td wa kp la bf oo bo pw ow tr))
                  refine Ef.in (md := mX6_tell) (L := [some (.ref 65), some (.int (nI a1k)), some (.int (nI 0)), some (.int (nI a3k)), none]) rfl (Nat.le_of_ble_eq_true rfl) rfl ?_
                  refine E_aload_n at_X6_tell_0 rfl ?_
                  refine E_iload_n at_X6_tell_1 rfl ?_
                  refine E_callV (v := some (.int (nI 1))) (As := [.ref 65, .int (nI a1k)]) (r0 := []) (cs2 := (ww im lf (qs_U s ((qU s).set a1k a3k)) d k ls rf rz ra rn rq lt m1 m2 m3 m4 bd fc hd sz el s g fm hm so si sh ce ca td wa kp la bf oo bo pw ow tr)) at_X6_tell_2 rfl rfl (Nat.le_of_ble_eq_true rfl) rfl (ab_rvOf w65 rfl) (L2_X6_isOne (by omega) (by omega) (by omega) (by omega)) (by decide) rfl ?_
                  refine E_if (t := 14) (b := true) at_X6_tell_5 rfl (by decide) ?_
                  refine E_iload_n at_X6_tell_14 rfl ?_
                  refine E_if (t := 53) (b := false) at_X6_tell_15 rfl (by decide) ?_
                  refine E_iload_n at_X6_tell_18 rfl ?_
                  refine E_iconst (x := nI 2) at_X6_tell_19 (by decide) ?_
                  refine E_ic (t := 53) (b := false) at_X6_tell_20 rfl (by decide) ?_
                  refine E_aload_n at_X6_tell_23 rfl ?_
                  refine E_iload_n at_X6_tell_24 rfl ?_
                  refine E_iconst (x := nI 0) at_X6_tell_25 (by decide) ?_
                  refine E_iload_n at_X6_tell_26 rfl ?_
                  refine E_if (t := 35) (b := false) at_X6_tell_27 rfl (by decide) ?_
                  refine E_bipush (x := nI 99) rfl (by decide) ?_
                  refine E_goto (t := 47) rfl rfl ?_
                  refine E_callV (v := some (.int (nI 1))) (As := [.ref 65, .int (nI a3k), .int (nI 0), .int (nI 99)]) (r0 := []) (cs2 := (ww im lf (qs_U s ((qU s).set a1k a3k)) d k ls rf rz ra rn rq lt m1 m2 m3 m4 bd fc hd sz el s g fm hm so si sh ce ca td wa kp la bf oo bo pw ow tr)) at_X6_tell_47 rfl rfl (Nat.le_of_ble_eq_true rfl) rfl (ab_rvOf w65 rfl) (L85_X6_isFrom (by omega) (by omega) (by omega)) (by decide) rfl ?_
                  refine E_if (t := 60) (b := true) at_X6_tell_50 rfl (by decide) ?_
                  refine E_iload_n rfl rfl ?_
                  refine E_if (t := 73) (b := false) rfl rfl (by decide) ?_
                  refine E_aload_n rfl rfl ?_
                  refine E_getfield (v := .ref 71) rfl w65 rfl (by decide) rfl ?_
                  refine E_iload_n rfl rfl ?_
                  refine E_ialN (l := qU s) (v := (qU s).getD a1k 0) rfl w71 (by omega) (by omega) rfl ?_
                  refine E_goto (t := 93) rfl rfl ?_
                  refine E_istore (L2 := [some (.ref 65), some (.int (nI a1k)), some (.int (nI 0)), some (.int (nI a3k)), some (.int (nI ((qU s).getD a1k 0)))]) rfl rfl ?_
                  refine E_iload_n rfl rfl ?_
                  refine E_if (t := 109) (b := false) rfl rfl (by decide) ?_
                  refine E_aload_n rfl rfl ?_
                  refine E_getfield (v := .ref 71) rfl w65 rfl (by decide) rfl ?_
                  refine E_iload_n rfl rfl ?_
                  refine E_iload_n rfl rfl ?_
                  refine E_iasN (l := qU s) (cs2 := (ww im lf (qs_U s ((qU s).set a1k a3k)) d k ls rf rz ra rn rq lt m1 m2 m3 m4 bd fc hd sz el (qs_U s ((qU s).set a1k a3k)) g fm hm so si sh ce ca td wa kp la bf oo bo pw ow tr)) rfl w71 (by omega) (by omega) w_pt65_U ?_
                  refine E_goto (t := 131) rfl rfl ?_
                  refine E_iload rfl rfl ?_
                  exact E_iret rfl rfl
                · exact ⟨(kU I (by omega)), rfl, hf, iQ, iM, iT, iS, l_el, (lr.1), (lr.2.1), (lr.2.2.1), (lr.2.2.2.1), (lr.2.2.2.2.1), (lr.2.2.2.2.2.1), (lr.2.2.2.2.2.2.1), (lr.2.2.2.2.2.2.2.1), (lr.2.2.2.2.2.2.2.2.1), (lr.2.2.2.2.2.2.2.2.2.1), (lr.2.2.2.2.2.2.2.2.2.2.1), (lr.2.2.2.2.2.2.2.2.2.2.2.1), (lr.2.2.2.2.2.2.2.2.2.2.2.2.1), (lr.2.2.2.2.2.2.2.2.2.2.2.2.2.1), (lr.2.2.2.2.2.2.2.2.2.2.2.2.2.2.1), (lr.2.2.2.2.2.2.2.2.2.2.2.2.2.2.2.1), (lr.2.2.2.2.2.2.2.2.2.2.2.2.2.2.2.2.1), (lr.2.2.2.2.2.2.2.2.2.2.2.2.2.2.2.2.2.1), (lr.2.2.2.2.2.2.2.2.2.2.2.2.2.2.2.2.2.2.1), (lr.2.2.2.2.2.2.2.2.2.2.2.2.2.2.2.2.2.2.2.1), (lr.2.2.2.2.2.2.2.2.2.2.2.2.2.2.2.2.2.2.2.2)⟩
            · refine ⟨(-6), (-6), (im, lf, s, d, k, ls, rf, rz, ra, rn, rq, lt, m1, m2, m3, m4, bd, (fc.set 6 ((fc.getD 6 0) + (nI 1))), hd, sz, el, s, g, fm, hm, so, si, sh, ce, ca, td, wa, kp, la, bf, oo, bo, pw, ow, tr), (im, lf, s, d, k, ls, rf, rz, ra, rn, rq, lt, m1, m2, m3, m4, bd, (fc.set 6 ((fc.getD 6 0) + (nI 1))), hd, sz, el, s, g, (fm.set 6 ((fm.getD 6 0) + (nI 1))), hm, so, si, sh, ce, ca, td, wa, kp, la, bf, oo, bo, pw, ow, tr), ?_, ?_, ?_⟩
              · show Ev ab_Z0 4 87 [.ref 0, .int (nI a1k), .int (nI 0), .int a3] (ww im lf s d k ls rf rz ra rn rq lt m1 m2 m3 m4 bd fc hd sz el s g fm hm so si sh ce ca td wa kp la bf oo bo pw ow tr) (some (.int (-6)), (ww im lf s d k ls rf rz ra rn rq lt m1 m2 m3 m4 bd (fc.set 6 ((fc.getD 6 0) + (nI 1))) hd sz el s g fm hm so si sh ce ca td wa kp la bf oo bo pw ow tr))
                refine Ef.in (md := mX5_tell) (L := [some (.ref 0), some (.int (nI a1k)), some (.int (nI 0)), some (.int a3)]) rfl (Nat.le_of_ble_eq_true rfl) rfl ?_
                refine E_aload_n at_X5_tell_0 rfl ?_
                refine E_getfield (v := .ref 1) at_X5_tell_1 w0 rfl (by decide) rfl ?_
                refine E_iload_n at_X5_tell_4 rfl ?_
                refine E_callV (v := some (.int (nI 1))) (As := [.ref 1, .int (nI a1k)]) (r0 := []) (cs2 := (ww im lf s d k ls rf rz ra rn rq lt m1 m2 m3 m4 bd fc hd sz el s g fm hm so si sh ce ca td wa kp la bf oo bo pw ow tr)) at_X5_tell_5 rfl rfl (Nat.le_of_ble_eq_true rfl) rfl (ab_rvOf w1 rfl) (L0_X4_isPerson (by omega) (by omega) (by omega) (by omega)) (by decide) rfl ?_
                refine E_if (t := 23) (b := false) at_X5_tell_8 rfl (by decide) ?_
                refine E_iload_n at_X5_tell_11 rfl ?_
                refine E_iconst (x := nI 2) at_X5_tell_12 (by decide) ?_
                refine E_ic (t := 29) (b := true) at_X5_tell_13 rfl (by decide) ?_
                refine E_iload_n at_X5_tell_29 rfl ?_
                refine E_tsIn (off := 26) (t := 56) at_X5_tell_30 (by decide) rfl rfl ?_
                refine E_aload_n rfl rfl ?_
                refine E_aload_n rfl rfl ?_
                refine E_getfield (v := .ref 1) rfl w0 rfl (by decide) rfl ?_
                refine E_getfield (v := .ref 6) rfl w1 rfl (by decide) rfl ?_
                refine E_iload_n rfl rfl ?_
                refine E_iload_n rfl rfl ?_
                refine E_bipush (x := nI 99) rfl (by decide) ?_
                have e1 : Ev ab_Z0 3 121 [.ref 0, .ref 6, .int (nI a1k), .int a3, .int (nI 99)] (ww im lf s d k ls rf rz ra rn rq lt m1 m2 m3 m4 bd fc hd sz el s g fm hm so si sh ce ca td wa kp la bf oo bo pw ow tr) (some (.int (-6)), (ww im lf s d k ls rf rz ra rn rq lt m1 m2 m3 m4 bd (fc.set 6 ((fc.getD 6 0) + (nI 1))) hd sz el s g fm hm so si sh ce ca td wa kp la bf oo bo pw ow tr)) := by
                  refine Ef.in (md := mX5_tellOne) (L := [some (.ref 0), some (.ref 6), some (.int (nI a1k)), some (.int a3), some (.int (nI 99)), none]) rfl (Nat.le_of_ble_eq_true rfl) rfl ?_
                  refine E_iload_n at_X5_tellOne_0 rfl ?_
                  refine E_iconst (x := nI 0) at_X5_tellOne_1 (by decide) ?_
                  refine E_iload at_X5_tellOne_2 rfl ?_
                  refine E_callS (v := some (.int (nI 0))) (As := [.int a3, .int (nI 0), .int (nI 99)]) (r0 := []) (cs2 := (ww im lf s d k ls rf rz ra rn rq lt m1 m2 m3 m4 bd fc hd sz el s g fm hm so si sh ce ca td wa kp la bf oo bo pw ow tr)) at_X5_tellOne_4 rfl rfl (Nat.le_of_ble_eq_true rfl) rfl (L88_X5_isFrom (by omega) (by omega)) (by decide) rfl ?_
                  refine E_if (t := 17) (b := false) at_X5_tellOne_7 rfl (by decide) ?_
                  refine E_aload_n at_X5_tellOne_10 rfl ?_
                  refine E_bipush (x := nI 6) at_X5_tellOne_11 (by decide) ?_
                  refine E_callV (v := some (.int (-6))) (As := [.ref 0, .int (nI 6)]) (r0 := []) (cs2 := (ww im lf s d k ls rf rz ra rn rq lt m1 m2 m3 m4 bd (fc.set 6 ((fc.getD 6 0) + (nI 1))) hd sz el s g fm hm so si sh ce ca td wa kp la bf oo bo pw ow tr)) at_X5_tellOne_13 rfl rfl (Nat.le_of_ble_eq_true rfl) rfl (ab_rvOf w0 rfl) (L26_X5_refuse (by omega)) (by decide) w_lens ?_
                  exact E_iret at_X5_tellOne_16 rfl
                refine E_callV (v := some (.int (-6))) (As := [.ref 0, .ref 6, .int (nI a1k), .int a3, .int (nI 99)]) (r0 := []) (cs2 := (ww im lf s d k ls rf rz ra rn rq lt m1 m2 m3 m4 bd (fc.set 6 ((fc.getD 6 0) + (nI 1))) hd sz el s g fm hm so si sh ce ca td wa kp la bf oo bo pw ow tr)) rfl rfl rfl (Nat.le_of_ble_eq_true rfl) rfl (ab_rvOf w0 rfl) e1 (by decide) w_lens ?_
                exact E_iret rfl rfl
              · show Ev ab_Z0 2 152 [.ref 65, .int (nI a1k), .int (nI 0), .int a3] (ww im lf s d k ls rf rz ra rn rq lt m1 m2 m3 m4 bd (fc.set 6 ((fc.getD 6 0) + (nI 1))) hd sz el s g fm hm so si sh ce ca td wa kp la bf oo bo pw ow tr) (some (.int (-6)), (ww im lf s d k ls rf rz ra rn rq lt m1 m2 m3 m4 bd (fc.set 6 ((fc.getD 6 0) + (nI 1))) hd sz el s g (fm.set 6 ((fm.getD 6 0) + (nI 1))) hm so si sh ce ca td wa kp la bf oo bo pw ow tr))
                refine Ef.in (md := mX6_tell) (L := [some (.ref 65), some (.int (nI a1k)), some (.int (nI 0)), some (.int a3), none]) rfl (Nat.le_of_ble_eq_true rfl) rfl ?_
                refine E_aload_n at_X6_tell_0 rfl ?_
                refine E_iload_n at_X6_tell_1 rfl ?_
                refine E_callV (v := some (.int (nI 1))) (As := [.ref 65, .int (nI a1k)]) (r0 := []) (cs2 := (ww im lf s d k ls rf rz ra rn rq lt m1 m2 m3 m4 bd (fc.set 6 ((fc.getD 6 0) + (nI 1))) hd sz el s g fm hm so si sh ce ca td wa kp la bf oo bo pw ow tr)) at_X6_tell_2 rfl rfl (Nat.le_of_ble_eq_true rfl) rfl (ab_rvOf w65 rfl) (L2_X6_isOne (by omega) (by omega) (by omega) (by omega)) (by decide) rfl ?_
                refine E_if (t := 14) (b := true) at_X6_tell_5 rfl (by decide) ?_
                refine E_iload_n at_X6_tell_14 rfl ?_
                refine E_if (t := 53) (b := false) at_X6_tell_15 rfl (by decide) ?_
                refine E_iload_n at_X6_tell_18 rfl ?_
                refine E_iconst (x := nI 2) at_X6_tell_19 (by decide) ?_
                refine E_ic (t := 53) (b := false) at_X6_tell_20 rfl (by decide) ?_
                refine E_aload_n at_X6_tell_23 rfl ?_
                refine E_iload_n at_X6_tell_24 rfl ?_
                refine E_iconst (x := nI 0) at_X6_tell_25 (by decide) ?_
                refine E_iload_n at_X6_tell_26 rfl ?_
                refine E_if (t := 35) (b := false) at_X6_tell_27 rfl (by decide) ?_
                refine E_bipush (x := nI 99) rfl (by decide) ?_
                refine E_goto (t := 47) rfl rfl ?_
                refine E_callV (v := some (.int (nI 0))) (As := [.ref 65, .int a3, .int (nI 0), .int (nI 99)]) (r0 := []) (cs2 := (ww im lf s d k ls rf rz ra rn rq lt m1 m2 m3 m4 bd (fc.set 6 ((fc.getD 6 0) + (nI 1))) hd sz el s g fm hm so si sh ce ca td wa kp la bf oo bo pw ow tr)) at_X6_tell_47 rfl rfl (Nat.le_of_ble_eq_true rfl) rfl (ab_rvOf w65 rfl) (L89_X6_isFrom (by omega) (by omega)) (by decide) rfl ?_
                refine E_if (t := 60) (b := false) at_X6_tell_50 rfl (by decide) ?_
                refine E_aload_n at_X6_tell_53 rfl ?_
                refine E_bipush (x := (-6)) at_X6_tell_54 (by decide) ?_
                refine E_callV (v := some (.int (-6))) (As := [.ref 65, .int (-6)]) (r0 := []) (cs2 := (ww im lf s d k ls rf rz ra rn rq lt m1 m2 m3 m4 bd (fc.set 6 ((fc.getD 6 0) + (nI 1))) hd sz el s g (fm.set 6 ((fm.getD 6 0) + (nI 1))) hm so si sh ce ca td wa kp la bf oo bo pw ow tr)) at_X6_tell_56 rfl rfl (Nat.le_of_ble_eq_true rfl) rfl (ab_rvOf w65 rfl) (L28_X6_no (by omega)) (by decide) w_lens ?_
                exact E_iret at_X6_tell_59 rfl
              · exact ⟨I, rfl, hf, iQ, iM, iT, iS, l_el, (lr.1), (lr.2.1), (lr.2.2.1), (by simp only [List.length_set]; exact (lr.2.2.2.1)), (by simp only [List.length_set]; exact (lr.2.2.2.2.1)), (lr.2.2.2.2.2.1), (lr.2.2.2.2.2.2.1), (lr.2.2.2.2.2.2.2.1), (lr.2.2.2.2.2.2.2.2.1), (lr.2.2.2.2.2.2.2.2.2.1), (lr.2.2.2.2.2.2.2.2.2.2.1), (lr.2.2.2.2.2.2.2.2.2.2.2.1), (lr.2.2.2.2.2.2.2.2.2.2.2.2.1), (lr.2.2.2.2.2.2.2.2.2.2.2.2.2.1), (lr.2.2.2.2.2.2.2.2.2.2.2.2.2.2.1), (lr.2.2.2.2.2.2.2.2.2.2.2.2.2.2.2.1), (lr.2.2.2.2.2.2.2.2.2.2.2.2.2.2.2.2.1), (lr.2.2.2.2.2.2.2.2.2.2.2.2.2.2.2.2.2.1), (lr.2.2.2.2.2.2.2.2.2.2.2.2.2.2.2.2.2.2.1), (lr.2.2.2.2.2.2.2.2.2.2.2.2.2.2.2.2.2.2.2.1), (lr.2.2.2.2.2.2.2.2.2.2.2.2.2.2.2.2.2.2.2.2)⟩
          · by_cases f5 : a2k = 1
            · subst f5
              rcases ab_int a3 with ⟨a3k, f6, rfl⟩ | f6
              · by_cases f7 : 9 < a3k
                · refine ⟨(-6), (-6), (im, lf, s, d, k, ls, rf, rz, ra, rn, rq, lt, m1, m2, m3, m4, bd, (fc.set 6 ((fc.getD 6 0) + (nI 1))), hd, sz, el, s, g, fm, hm, so, si, sh, ce, ca, td, wa, kp, la, bf, oo, bo, pw, ow, tr), (im, lf, s, d, k, ls, rf, rz, ra, rn, rq, lt, m1, m2, m3, m4, bd, (fc.set 6 ((fc.getD 6 0) + (nI 1))), hd, sz, el, s, g, (fm.set 6 ((fm.getD 6 0) + (nI 1))), hm, so, si, sh, ce, ca, td, wa, kp, la, bf, oo, bo, pw, ow, tr), ?_, ?_, ?_⟩
                  · show Ev ab_Z0 4 87 [.ref 0, .int (nI a1k), .int (nI 1), .int (nI a3k)] (ww im lf s d k ls rf rz ra rn rq lt m1 m2 m3 m4 bd fc hd sz el s g fm hm so si sh ce ca td wa kp la bf oo bo pw ow tr) (some (.int (-6)), (ww im lf s d k ls rf rz ra rn rq lt m1 m2 m3 m4 bd (fc.set 6 ((fc.getD 6 0) + (nI 1))) hd sz el s g fm hm so si sh ce ca td wa kp la bf oo bo pw ow tr))
                    refine Ef.in (md := mX5_tell) (L := [some (.ref 0), some (.int (nI a1k)), some (.int (nI 1)), some (.int (nI a3k))]) rfl (Nat.le_of_ble_eq_true rfl) rfl ?_
                    refine E_aload_n at_X5_tell_0 rfl ?_
                    refine E_getfield (v := .ref 1) at_X5_tell_1 w0 rfl (by decide) rfl ?_
                    refine E_iload_n at_X5_tell_4 rfl ?_
                    refine E_callV (v := some (.int (nI 1))) (As := [.ref 1, .int (nI a1k)]) (r0 := []) (cs2 := (ww im lf s d k ls rf rz ra rn rq lt m1 m2 m3 m4 bd fc hd sz el s g fm hm so si sh ce ca td wa kp la bf oo bo pw ow tr)) at_X5_tell_5 rfl rfl (Nat.le_of_ble_eq_true rfl) rfl (ab_rvOf w1 rfl) (L0_X4_isPerson (by omega) (by omega) (by omega) (by omega)) (by decide) rfl ?_
                    refine E_if (t := 23) (b := false) at_X5_tell_8 rfl (by decide) ?_
                    refine E_iload_n at_X5_tell_11 rfl ?_
                    refine E_iconst (x := nI 2) at_X5_tell_12 (by decide) ?_
                    refine E_ic (t := 29) (b := true) at_X5_tell_13 rfl (by decide) ?_
                    refine E_iload_n at_X5_tell_29 rfl ?_
                    refine E_tsIn (off := 42) (t := 72) at_X5_tell_30 (by decide) rfl rfl ?_
                    refine E_aload_n rfl rfl ?_
                    refine E_aload_n rfl rfl ?_
                    refine E_getfield (v := .ref 1) rfl w0 rfl (by decide) rfl ?_
                    refine E_getfield (v := .ref 7) rfl w1 rfl (by decide) rfl ?_
                    refine E_iload_n rfl rfl ?_
                    refine E_iload_n rfl rfl ?_
                    refine E_bipush (x := nI 9) rfl (by decide) ?_
                    have e1 : Ev ab_Z0 3 121 [.ref 0, .ref 7, .int (nI a1k), .int (nI a3k), .int (nI 9)] (ww im lf s d k ls rf rz ra rn rq lt m1 m2 m3 m4 bd fc hd sz el s g fm hm so si sh ce ca td wa kp la bf oo bo pw ow tr) (some (.int (-6)), (ww im lf s d k ls rf rz ra rn rq lt m1 m2 m3 m4 bd (fc.set 6 ((fc.getD 6 0) + (nI 1))) hd sz el s g fm hm so si sh ce ca td wa kp la bf oo bo pw ow tr)) := by
                      refine Ef.in (md := mX5_tellOne) (L := [some (.ref 0), some (.ref 7), some (.int (nI a1k)), some (.int (nI a3k)), some (.int (nI 9)), none]) rfl (Nat.le_of_ble_eq_true rfl) rfl ?_
                      refine E_iload_n at_X5_tellOne_0 rfl ?_
                      refine E_iconst (x := nI 0) at_X5_tellOne_1 (by decide) ?_
                      refine E_iload at_X5_tellOne_2 rfl ?_
                      refine E_callS (v := some (.int (nI 0))) (As := [.int (nI a3k), .int (nI 0), .int (nI 9)]) (r0 := []) (cs2 := (ww im lf s d k ls rf rz ra rn rq lt m1 m2 m3 m4 bd fc hd sz el s g fm hm so si sh ce ca td wa kp la bf oo bo pw ow tr)) at_X5_tellOne_4 rfl rfl (Nat.le_of_ble_eq_true rfl) rfl (L66_X5_isFrom (by omega) (by omega) (by omega)) (by decide) rfl ?_
                      refine E_if (t := 17) (b := false) at_X5_tellOne_7 rfl (by decide) ?_
                      refine E_aload_n at_X5_tellOne_10 rfl ?_
                      refine E_bipush (x := nI 6) at_X5_tellOne_11 (by decide) ?_
                      refine E_callV (v := some (.int (-6))) (As := [.ref 0, .int (nI 6)]) (r0 := []) (cs2 := (ww im lf s d k ls rf rz ra rn rq lt m1 m2 m3 m4 bd (fc.set 6 ((fc.getD 6 0) + (nI 1))) hd sz el s g fm hm so si sh ce ca td wa kp la bf oo bo pw ow tr)) at_X5_tellOne_13 rfl rfl (Nat.le_of_ble_eq_true rfl) rfl (ab_rvOf w0 rfl) (L26_X5_refuse (by omega)) (by decide) w_lens ?_
                      exact E_iret at_X5_tellOne_16 rfl
                    refine E_callV (v := some (.int (-6))) (As := [.ref 0, .ref 7, .int (nI a1k), .int (nI a3k), .int (nI 9)]) (r0 := []) (cs2 := (ww im lf s d k ls rf rz ra rn rq lt m1 m2 m3 m4 bd (fc.set 6 ((fc.getD 6 0) + (nI 1))) hd sz el s g fm hm so si sh ce ca td wa kp la bf oo bo pw ow tr)) rfl rfl rfl (Nat.le_of_ble_eq_true rfl) rfl (ab_rvOf w0 rfl) e1 (by decide) w_lens ?_
                    exact E_iret rfl rfl
                  · show Ev ab_Z0 2 152 [.ref 65, .int (nI a1k), .int (nI 1), .int (nI a3k)] (ww im lf s d k ls rf rz ra rn rq lt m1 m2 m3 m4 bd (fc.set 6 ((fc.getD 6 0) + (nI 1))) hd sz el s g fm hm so si sh ce ca td wa kp la bf oo bo pw ow tr) (some (.int (-6)), (ww im lf s d k ls rf rz ra rn rq lt m1 m2 m3 m4 bd (fc.set 6 ((fc.getD 6 0) + (nI 1))) hd sz el s g (fm.set 6 ((fm.getD 6 0) + (nI 1))) hm so si sh ce ca td wa kp la bf oo bo pw ow tr))
                    refine Ef.in (md := mX6_tell) (L := [some (.ref 65), some (.int (nI a1k)), some (.int (nI 1)), some (.int (nI a3k)), none]) rfl (Nat.le_of_ble_eq_true rfl) rfl ?_
                    refine E_aload_n at_X6_tell_0 rfl ?_
                    refine E_iload_n at_X6_tell_1 rfl ?_
                    refine E_callV (v := some (.int (nI 1))) (As := [.ref 65, .int (nI a1k)]) (r0 := []) (cs2 := (ww im lf s d k ls rf rz ra rn rq lt m1 m2 m3 m4 bd (fc.set 6 ((fc.getD 6 0) + (nI 1))) hd sz el s g fm hm so si sh ce ca td wa kp la bf oo bo pw ow tr)) at_X6_tell_2 rfl rfl (Nat.le_of_ble_eq_true rfl) rfl (ab_rvOf w65 rfl) (L2_X6_isOne (by omega) (by omega) (by omega) (by omega)) (by decide) rfl ?_
                    refine E_if (t := 14) (b := true) at_X6_tell_5 rfl (by decide) ?_
                    refine E_iload_n at_X6_tell_14 rfl ?_
                    refine E_if (t := 53) (b := false) at_X6_tell_15 rfl (by decide) ?_
                    refine E_iload_n at_X6_tell_18 rfl ?_
                    refine E_iconst (x := nI 2) at_X6_tell_19 (by decide) ?_
                    refine E_ic (t := 53) (b := false) at_X6_tell_20 rfl (by decide) ?_
                    refine E_aload_n at_X6_tell_23 rfl ?_
                    refine E_iload_n at_X6_tell_24 rfl ?_
                    refine E_iconst (x := nI 0) at_X6_tell_25 (by decide) ?_
                    refine E_iload_n at_X6_tell_26 rfl ?_
                    refine E_if (t := 35) (b := true) at_X6_tell_27 rfl (by decide) ?_
                    refine E_iload_n at_X6_tell_35 rfl ?_
                    refine E_iconst (x := nI 1) at_X6_tell_36 (by decide) ?_
                    refine E_ic (t := 45) (b := false) at_X6_tell_37 rfl (by decide) ?_
                    refine E_bipush (x := nI 9) rfl (by decide) ?_
                    refine E_goto (t := 47) rfl rfl ?_
                    refine E_callV (v := some (.int (nI 0))) (As := [.ref 65, .int (nI a3k), .int (nI 0), .int (nI 9)]) (r0 := []) (cs2 := (ww im lf s d k ls rf rz ra rn rq lt m1 m2 m3 m4 bd (fc.set 6 ((fc.getD 6 0) + (nI 1))) hd sz el s g fm hm so si sh ce ca td wa kp la bf oo bo pw ow tr)) at_X6_tell_47 rfl rfl (Nat.le_of_ble_eq_true rfl) rfl (ab_rvOf w65 rfl) (L67_X6_isFrom (by omega) (by omega) (by omega)) (by decide) rfl ?_
                    refine E_if (t := 60) (b := false) at_X6_tell_50 rfl (by decide) ?_
                    refine E_aload_n at_X6_tell_53 rfl ?_
                    refine E_bipush (x := (-6)) at_X6_tell_54 (by decide) ?_
                    refine E_callV (v := some (.int (-6))) (As := [.ref 65, .int (-6)]) (r0 := []) (cs2 := (ww im lf s d k ls rf rz ra rn rq lt m1 m2 m3 m4 bd (fc.set 6 ((fc.getD 6 0) + (nI 1))) hd sz el s g (fm.set 6 ((fm.getD 6 0) + (nI 1))) hm so si sh ce ca td wa kp la bf oo bo pw ow tr)) at_X6_tell_56 rfl rfl (Nat.le_of_ble_eq_true rfl) rfl (ab_rvOf w65 rfl) (L28_X6_no (by omega)) (by decide) w_lens ?_
                    exact E_iret at_X6_tell_59 rfl
                  · exact ⟨I, rfl, hf, iQ, iM, iT, iS, l_el, (lr.1), (lr.2.1), (lr.2.2.1), (by simp only [List.length_set]; exact (lr.2.2.2.1)), (by simp only [List.length_set]; exact (lr.2.2.2.2.1)), (lr.2.2.2.2.2.1), (lr.2.2.2.2.2.2.1), (lr.2.2.2.2.2.2.2.1), (lr.2.2.2.2.2.2.2.2.1), (lr.2.2.2.2.2.2.2.2.2.1), (lr.2.2.2.2.2.2.2.2.2.2.1), (lr.2.2.2.2.2.2.2.2.2.2.2.1), (lr.2.2.2.2.2.2.2.2.2.2.2.2.1), (lr.2.2.2.2.2.2.2.2.2.2.2.2.2.1), (lr.2.2.2.2.2.2.2.2.2.2.2.2.2.2.1), (lr.2.2.2.2.2.2.2.2.2.2.2.2.2.2.2.1), (lr.2.2.2.2.2.2.2.2.2.2.2.2.2.2.2.2.1), (lr.2.2.2.2.2.2.2.2.2.2.2.2.2.2.2.2.2.1), (lr.2.2.2.2.2.2.2.2.2.2.2.2.2.2.2.2.2.2.1), (lr.2.2.2.2.2.2.2.2.2.2.2.2.2.2.2.2.2.2.2.1), (lr.2.2.2.2.2.2.2.2.2.2.2.2.2.2.2.2.2.2.2.2)⟩
                · have := I2 a1k (by omega)
                  refine ⟨(nI ((qL s).getD a1k 0)), (nI ((qL s).getD a1k 0)), (im, lf, (qs_L s ((qL s).set a1k a3k)), d, k, ls, rf, rz, ra, rn, rq, lt, m1, m2, m3, m4, bd, fc, hd, sz, el, s, g, fm, hm, so, si, sh, ce, ca, td, wa, kp, la, bf, oo, bo, pw, ow, tr), (im, lf, (qs_L s ((qL s).set a1k a3k)), d, k, ls, rf, rz, ra, rn, rq, lt, m1, m2, m3, m4, bd, fc, hd, sz, el, (qs_L s ((qL s).set a1k a3k)), g, fm, hm, so, si, sh, ce, ca, td, wa, kp, la, bf, oo, bo, pw, ow, tr), ?_, ?_, ?_⟩
                  · show Ev ab_Z0 4 87 [.ref 0, .int (nI a1k), .int (nI 1), .int (nI a3k)] (ww im lf s d k ls rf rz ra rn rq lt m1 m2 m3 m4 bd fc hd sz el s g fm hm so si sh ce ca td wa kp la bf oo bo pw ow tr) (some (.int (nI ((qL s).getD a1k 0))), (ww im lf (qs_L s ((qL s).set a1k a3k)) d k ls rf rz ra rn rq lt m1 m2 m3 m4 bd fc hd sz el s g fm hm so si sh ce ca td wa kp la bf oo bo pw ow tr))
                    refine Ef.in (md := mX5_tell) (L := [some (.ref 0), some (.int (nI a1k)), some (.int (nI 1)), some (.int (nI a3k))]) rfl (Nat.le_of_ble_eq_true rfl) rfl ?_
                    refine E_aload_n at_X5_tell_0 rfl ?_
                    refine E_getfield (v := .ref 1) at_X5_tell_1 w0 rfl (by decide) rfl ?_
                    refine E_iload_n at_X5_tell_4 rfl ?_
                    refine E_callV (v := some (.int (nI 1))) (As := [.ref 1, .int (nI a1k)]) (r0 := []) (cs2 := (ww im lf s d k ls rf rz ra rn rq lt m1 m2 m3 m4 bd fc hd sz el s g fm hm so si sh ce ca td wa kp la bf oo bo pw ow tr)) at_X5_tell_5 rfl rfl (Nat.le_of_ble_eq_true rfl) rfl (ab_rvOf w1 rfl) (L0_X4_isPerson (by omega) (by omega) (by omega) (by omega)) (by decide) rfl ?_
                    refine E_if (t := 23) (b := false) at_X5_tell_8 rfl (by decide) ?_
                    refine E_iload_n at_X5_tell_11 rfl ?_
                    refine E_iconst (x := nI 2) at_X5_tell_12 (by decide) ?_
                    refine E_ic (t := 29) (b := true) at_X5_tell_13 rfl (by decide) ?_
                    refine E_iload_n at_X5_tell_29 rfl ?_
                    refine E_tsIn (off := 42) (t := 72) at_X5_tell_30 (by decide) rfl rfl ?_
                    refine E_aload_n rfl rfl ?_
                    refine E_aload_n rfl rfl ?_
                    refine E_getfield (v := .ref 1) rfl w0 rfl (by decide) rfl ?_
                    refine E_getfield (v := .ref 7) rfl w1 rfl (by decide) rfl ?_
                    refine E_iload_n rfl rfl ?_
                    refine E_iload_n rfl rfl ?_
                    refine E_bipush (x := nI 9) rfl (by decide) ?_
                    have e1 : Ev ab_Z0 3 121 [.ref 0, .ref 7, .int (nI a1k), .int (nI a3k), .int (nI 9)] (ww im lf s d k ls rf rz ra rn rq lt m1 m2 m3 m4 bd fc hd sz el s g fm hm so si sh ce ca td wa kp la bf oo bo pw ow tr) (some (.int (nI ((qL s).getD a1k 0))), (ww im lf (qs_L s ((qL s).set a1k a3k)) d k ls rf rz ra rn rq lt m1 m2 m3 m4 bd fc hd sz el s g fm hm so si sh ce ca td wa kp la bf oo bo pw ow tr)) := by
                      refine Ef.in (md := mX5_tellOne) (L := [some (.ref 0), some (.ref 7), some (.int (nI a1k)), some (.int (nI a3k)), some (.int (nI 9)), none]) rfl (Nat.le_of_ble_eq_true rfl) rfl ?_
                      refine E_iload_n at_X5_tellOne_0 rfl ?_
                      refine E_iconst (x := nI 0) at_X5_tellOne_1 (by decide) ?_
                      refine E_iload at_X5_tellOne_2 rfl ?_
                      refine E_callS (v := some (.int (nI 1))) (As := [.int (nI a3k), .int (nI 0), .int (nI 9)]) (r0 := []) (cs2 := (ww im lf s d k ls rf rz ra rn rq lt m1 m2 m3 m4 bd fc hd sz el s g fm hm so si sh ce ca td wa kp la bf oo bo pw ow tr)) at_X5_tellOne_4 rfl rfl (Nat.le_of_ble_eq_true rfl) rfl (L68_X5_isFrom (by omega) (by omega) (by omega)) (by decide) rfl ?_
                      refine E_if (t := 17) (b := true) at_X5_tellOne_7 rfl (by decide) ?_
                      refine E_aload_n rfl rfl ?_
                      refine E_iload_n rfl rfl ?_
                      refine E_ialN (l := qL s) (v := (qL s).getD a1k 0) rfl w7 (by omega) (by omega) rfl ?_
                      refine E_istore (L2 := [some (.ref 0), some (.ref 7), some (.int (nI a1k)), some (.int (nI a3k)), some (.int (nI 9)), some (.int (nI ((qL s).getD a1k 0)))]) rfl rfl ?_
                      refine E_aload_n rfl rfl ?_
                      refine E_iload_n rfl rfl ?_
                      refine E_iload_n rfl rfl ?_
                      refine E_iasN (l := qL s) (cs2 := (ww im lf (qs_L s ((qL s).set a1k a3k)) d k ls rf rz ra rn rq lt m1 m2 m3 m4 bd fc hd sz el s g fm hm so si sh ce ca td wa kp la bf oo bo pw ow tr)) rfl w7 (by omega) (by omega) w_pt1_L ?_
                      refine E_iload rfl rfl ?_
                      exact E_iret rfl rfl
                    refine E_callV (v := some (.int (nI ((qL s).getD a1k 0)))) (As := [.ref 0, .ref 7, .int (nI a1k), .int (nI a3k), .int (nI 9)]) (r0 := []) (cs2 := (ww im lf (qs_L s ((qL s).set a1k a3k)) d k ls rf rz ra rn rq lt m1 m2 m3 m4 bd fc hd sz el s g fm hm so si sh ce ca td wa kp la bf oo bo pw ow tr)) rfl rfl rfl (Nat.le_of_ble_eq_true rfl) rfl (ab_rvOf w0 rfl) e1 (by decide) w_lens ?_
                    exact E_iret rfl rfl
                  · show Ev ab_Z0 2 152 [.ref 65, .int (nI a1k), .int (nI 1), .int (nI a3k)] (ww im lf (qs_L s ((qL s).set a1k a3k)) d k ls rf rz ra rn rq lt m1 m2 m3 m4 bd fc hd sz el s g fm hm so si sh ce ca td wa kp la bf oo bo pw ow tr) (some (.int (nI ((qL s).getD a1k 0))), (ww im lf (qs_L s ((qL s).set a1k a3k)) d k ls rf rz ra rn rq lt m1 m2 m3 m4 bd fc hd sz el (qs_L s ((qL s).set a1k a3k)) g fm hm so si sh ce ca td wa kp la bf oo bo pw ow tr))
                    refine Ef.in (md := mX6_tell) (L := [some (.ref 65), some (.int (nI a1k)), some (.int (nI 1)), some (.int (nI a3k)), none]) rfl (Nat.le_of_ble_eq_true rfl) rfl ?_
                    refine E_aload_n at_X6_tell_0 rfl ?_
                    refine E_iload_n at_X6_tell_1 rfl ?_
                    refine E_callV (v := some (.int (nI 1))) (As := [.ref 65, .int (nI a1k)]) (r0 := []) (cs2 := (ww im lf (qs_L s ((qL s).set a1k a3k)) d k ls rf rz ra rn rq lt m1 m2 m3 m4 bd fc hd sz el s g fm hm so si sh ce ca td wa kp la bf oo bo pw ow tr)) at_X6_tell_2 rfl rfl (Nat.le_of_ble_eq_true rfl) rfl (ab_rvOf w65 rfl) (L2_X6_isOne (by omega) (by omega) (by omega) (by omega)) (by decide) rfl ?_
                    refine E_if (t := 14) (b := true) at_X6_tell_5 rfl (by decide) ?_
                    refine E_iload_n at_X6_tell_14 rfl ?_
                    refine E_if (t := 53) (b := false) at_X6_tell_15 rfl (by decide) ?_
                    refine E_iload_n at_X6_tell_18 rfl ?_
                    refine E_iconst (x := nI 2) at_X6_tell_19 (by decide) ?_
                    refine E_ic (t := 53) (b := false) at_X6_tell_20 rfl (by decide) ?_
                    refine E_aload_n at_X6_tell_23 rfl ?_
                    refine E_iload_n at_X6_tell_24 rfl ?_
                    refine E_iconst (x := nI 0) at_X6_tell_25 (by decide) ?_
                    refine E_iload_n at_X6_tell_26 rfl ?_
                    refine E_if (t := 35) (b := true) at_X6_tell_27 rfl (by decide) ?_
                    refine E_iload_n at_X6_tell_35 rfl ?_
                    refine E_iconst (x := nI 1) at_X6_tell_36 (by decide) ?_
                    refine E_ic (t := 45) (b := false) at_X6_tell_37 rfl (by decide) ?_
                    refine E_bipush (x := nI 9) rfl (by decide) ?_
                    refine E_goto (t := 47) rfl rfl ?_
                    refine E_callV (v := some (.int (nI 1))) (As := [.ref 65, .int (nI a3k), .int (nI 0), .int (nI 9)]) (r0 := []) (cs2 := (ww im lf (qs_L s ((qL s).set a1k a3k)) d k ls rf rz ra rn rq lt m1 m2 m3 m4 bd fc hd sz el s g fm hm so si sh ce ca td wa kp la bf oo bo pw ow tr)) at_X6_tell_47 rfl rfl (Nat.le_of_ble_eq_true rfl) rfl (ab_rvOf w65 rfl) (L70_X6_isFrom (by omega) (by omega) (by omega)) (by decide) rfl ?_
                    refine E_if (t := 60) (b := true) at_X6_tell_50 rfl (by decide) ?_
                    refine E_iload_n rfl rfl ?_
                    refine E_if (t := 73) (b := true) rfl rfl (by decide) ?_
                    refine E_iload_n rfl rfl ?_
                    refine E_iconst (x := nI 1) rfl (by decide) ?_
                    refine E_ic (t := 87) (b := false) rfl rfl (by decide) ?_
                    refine E_aload_n rfl rfl ?_
                    refine E_getfield (v := .ref 72) rfl w65 rfl (by decide) rfl ?_
                    refine E_iload_n rfl rfl ?_
                    refine E_ialN (l := qL s) (v := (qL s).getD a1k 0) rfl w72 (by omega) (by omega) rfl ?_
                    refine E_goto (t := 93) rfl rfl ?_
                    refine E_istore (L2 := [some (.ref 65), some (.int (nI a1k)), some (.int (nI 1)), some (.int (nI a3k)), some (.int (nI ((qL s).getD a1k 0)))]) rfl rfl ?_
                    refine E_iload_n rfl rfl ?_
                    refine E_if (t := 109) (b := true) rfl rfl (by decide) ?_
                    refine E_iload_n rfl rfl ?_
                    refine E_iconst (x := nI 1) rfl (by decide) ?_
                    refine E_ic (t := 124) (b := false) rfl rfl (by decide) ?_
                    refine E_aload_n rfl rfl ?_
                    refine E_getfield (v := .ref 72) rfl w65 rfl (by decide) rfl ?_
                    refine E_iload_n rfl rfl ?_
                    refine E_iload_n rfl rfl ?_
                    refine E_iasN (l := qL s) (cs2 := (ww im lf (qs_L s ((qL s).set a1k a3k)) d k ls rf rz ra rn rq lt m1 m2 m3 m4 bd fc hd sz el (qs_L s ((qL s).set a1k a3k)) g fm hm so si sh ce ca td wa kp la bf oo bo pw ow tr)) rfl w72 (by omega) (by omega) w_pt65_L ?_
                    refine E_goto (t := 131) rfl rfl ?_
                    refine E_iload rfl rfl ?_
                    exact E_iret rfl rfl
                  · exact ⟨(kL I (by omega)), rfl, hf, iQ, iM, iT, iS, l_el, (lr.1), (lr.2.1), (lr.2.2.1), (lr.2.2.2.1), (lr.2.2.2.2.1), (lr.2.2.2.2.2.1), (lr.2.2.2.2.2.2.1), (lr.2.2.2.2.2.2.2.1), (lr.2.2.2.2.2.2.2.2.1), (lr.2.2.2.2.2.2.2.2.2.1), (lr.2.2.2.2.2.2.2.2.2.2.1), (lr.2.2.2.2.2.2.2.2.2.2.2.1), (lr.2.2.2.2.2.2.2.2.2.2.2.2.1), (lr.2.2.2.2.2.2.2.2.2.2.2.2.2.1), (lr.2.2.2.2.2.2.2.2.2.2.2.2.2.2.1), (lr.2.2.2.2.2.2.2.2.2.2.2.2.2.2.2.1), (lr.2.2.2.2.2.2.2.2.2.2.2.2.2.2.2.2.1), (lr.2.2.2.2.2.2.2.2.2.2.2.2.2.2.2.2.2.1), (lr.2.2.2.2.2.2.2.2.2.2.2.2.2.2.2.2.2.2.1), (lr.2.2.2.2.2.2.2.2.2.2.2.2.2.2.2.2.2.2.2.1), (lr.2.2.2.2.2.2.2.2.2.2.2.2.2.2.2.2.2.2.2.2)⟩
              · refine ⟨(-6), (-6), (im, lf, s, d, k, ls, rf, rz, ra, rn, rq, lt, m1, m2, m3, m4, bd, (fc.set 6 ((fc.getD 6 0) + (nI 1))), hd, sz, el, s, g, fm, hm, so, si, sh, ce, ca, td, wa, kp, la, bf, oo, bo, pw, ow, tr), (im, lf, s, d, k, ls, rf, rz, ra, rn, rq, lt, m1, m2, m3, m4, bd, (fc.set 6 ((fc.getD 6 0) + (nI 1))), hd, sz, el, s, g, (fm.set 6 ((fm.getD 6 0) + (nI 1))), hm, so, si, sh, ce, ca, td, wa, kp, la, bf, oo, bo, pw, ow, tr), ?_, ?_, ?_⟩
                · show Ev ab_Z0 4 87 [.ref 0, .int (nI a1k), .int (nI 1), .int a3] (ww im lf s d k ls rf rz ra rn rq lt m1 m2 m3 m4 bd fc hd sz el s g fm hm so si sh ce ca td wa kp la bf oo bo pw ow tr) (some (.int (-6)), (ww im lf s d k ls rf rz ra rn rq lt m1 m2 m3 m4 bd (fc.set 6 ((fc.getD 6 0) + (nI 1))) hd sz el s g fm hm so si sh ce ca td wa kp la bf oo bo pw ow tr))
                  refine Ef.in (md := mX5_tell) (L := [some (.ref 0), some (.int (nI a1k)), some (.int (nI 1)), some (.int a3)]) rfl (Nat.le_of_ble_eq_true rfl) rfl ?_
                  refine E_aload_n at_X5_tell_0 rfl ?_
                  refine E_getfield (v := .ref 1) at_X5_tell_1 w0 rfl (by decide) rfl ?_
                  refine E_iload_n at_X5_tell_4 rfl ?_
                  refine E_callV (v := some (.int (nI 1))) (As := [.ref 1, .int (nI a1k)]) (r0 := []) (cs2 := (ww im lf s d k ls rf rz ra rn rq lt m1 m2 m3 m4 bd fc hd sz el s g fm hm so si sh ce ca td wa kp la bf oo bo pw ow tr)) at_X5_tell_5 rfl rfl (Nat.le_of_ble_eq_true rfl) rfl (ab_rvOf w1 rfl) (L0_X4_isPerson (by omega) (by omega) (by omega) (by omega)) (by decide) rfl ?_
                  refine E_if (t := 23) (b := false) at_X5_tell_8 rfl (by decide) ?_
                  refine E_iload_n at_X5_tell_11 rfl ?_
                  refine E_iconst (x := nI 2) at_X5_tell_12 (by decide) ?_
                  refine E_ic (t := 29) (b := true) at_X5_tell_13 rfl (by decide) ?_
                  refine E_iload_n at_X5_tell_29 rfl ?_
                  refine E_tsIn (off := 42) (t := 72) at_X5_tell_30 (by decide) rfl rfl ?_
                  refine E_aload_n rfl rfl ?_
                  refine E_aload_n rfl rfl ?_
                  refine E_getfield (v := .ref 1) rfl w0 rfl (by decide) rfl ?_
                  refine E_getfield (v := .ref 7) rfl w1 rfl (by decide) rfl ?_
                  refine E_iload_n rfl rfl ?_
                  refine E_iload_n rfl rfl ?_
                  refine E_bipush (x := nI 9) rfl (by decide) ?_
                  have e1 : Ev ab_Z0 3 121 [.ref 0, .ref 7, .int (nI a1k), .int a3, .int (nI 9)] (ww im lf s d k ls rf rz ra rn rq lt m1 m2 m3 m4 bd fc hd sz el s g fm hm so si sh ce ca td wa kp la bf oo bo pw ow tr) (some (.int (-6)), (ww im lf s d k ls rf rz ra rn rq lt m1 m2 m3 m4 bd (fc.set 6 ((fc.getD 6 0) + (nI 1))) hd sz el s g fm hm so si sh ce ca td wa kp la bf oo bo pw ow tr)) := by
                    refine Ef.in (md := mX5_tellOne) (L := [some (.ref 0), some (.ref 7), some (.int (nI a1k)), some (.int a3), some (.int (nI 9)), none]) rfl (Nat.le_of_ble_eq_true rfl) rfl ?_
                    refine E_iload_n at_X5_tellOne_0 rfl ?_
                    refine E_iconst (x := nI 0) at_X5_tellOne_1 (by decide) ?_
                    refine E_iload at_X5_tellOne_2 rfl ?_
                    refine E_callS (v := some (.int (nI 0))) (As := [.int a3, .int (nI 0), .int (nI 9)]) (r0 := []) (cs2 := (ww im lf s d k ls rf rz ra rn rq lt m1 m2 m3 m4 bd fc hd sz el s g fm hm so si sh ce ca td wa kp la bf oo bo pw ow tr)) at_X5_tellOne_4 rfl rfl (Nat.le_of_ble_eq_true rfl) rfl (L80_X5_isFrom (by omega) (by omega)) (by decide) rfl ?_
                    refine E_if (t := 17) (b := false) at_X5_tellOne_7 rfl (by decide) ?_
                    refine E_aload_n at_X5_tellOne_10 rfl ?_
                    refine E_bipush (x := nI 6) at_X5_tellOne_11 (by decide) ?_
                    refine E_callV (v := some (.int (-6))) (As := [.ref 0, .int (nI 6)]) (r0 := []) (cs2 := (ww im lf s d k ls rf rz ra rn rq lt m1 m2 m3 m4 bd (fc.set 6 ((fc.getD 6 0) + (nI 1))) hd sz el s g fm hm so si sh ce ca td wa kp la bf oo bo pw ow tr)) at_X5_tellOne_13 rfl rfl (Nat.le_of_ble_eq_true rfl) rfl (ab_rvOf w0 rfl) (L26_X5_refuse (by omega)) (by decide) w_lens ?_
                    exact E_iret at_X5_tellOne_16 rfl
                  refine E_callV (v := some (.int (-6))) (As := [.ref 0, .ref 7, .int (nI a1k), .int a3, .int (nI 9)]) (r0 := []) (cs2 := (ww im lf s d k ls rf rz ra rn rq lt m1 m2 m3 m4 bd (fc.set 6 ((fc.getD 6 0) + (nI 1))) hd sz el s g fm hm so si sh ce ca td wa kp la bf oo bo pw ow tr)) rfl rfl rfl (Nat.le_of_ble_eq_true rfl) rfl (ab_rvOf w0 rfl) e1 (by decide) w_lens ?_
                  exact E_iret rfl rfl
                · show Ev ab_Z0 2 152 [.ref 65, .int (nI a1k), .int (nI 1), .int a3] (ww im lf s d k ls rf rz ra rn rq lt m1 m2 m3 m4 bd (fc.set 6 ((fc.getD 6 0) + (nI 1))) hd sz el s g fm hm so si sh ce ca td wa kp la bf oo bo pw ow tr) (some (.int (-6)), (ww im lf s d k ls rf rz ra rn rq lt m1 m2 m3 m4 bd (fc.set 6 ((fc.getD 6 0) + (nI 1))) hd sz el s g (fm.set 6 ((fm.getD 6 0) + (nI 1))) hm so si sh ce ca td wa kp la bf oo bo pw ow tr))
                  refine Ef.in (md := mX6_tell) (L := [some (.ref 65), some (.int (nI a1k)), some (.int (nI 1)), some (.int a3), none]) rfl (Nat.le_of_ble_eq_true rfl) rfl ?_
                  refine E_aload_n at_X6_tell_0 rfl ?_
                  refine E_iload_n at_X6_tell_1 rfl ?_
                  refine E_callV (v := some (.int (nI 1))) (As := [.ref 65, .int (nI a1k)]) (r0 := []) (cs2 := (ww im lf s d k ls rf rz ra rn rq lt m1 m2 m3 m4 bd (fc.set 6 ((fc.getD 6 0) + (nI 1))) hd sz el s g fm hm so si sh ce ca td wa kp la bf oo bo pw ow tr)) at_X6_tell_2 rfl rfl (Nat.le_of_ble_eq_true rfl) rfl (ab_rvOf w65 rfl) (L2_X6_isOne (by omega) (by omega) (by omega) (by omega)) (by decide) rfl ?_
                  refine E_if (t := 14) (b := true) at_X6_tell_5 rfl (by decide) ?_
                  refine E_iload_n at_X6_tell_14 rfl ?_
                  refine E_if (t := 53) (b := false) at_X6_tell_15 rfl (by decide) ?_
                  refine E_iload_n at_X6_tell_18 rfl ?_
                  refine E_iconst (x := nI 2) at_X6_tell_19 (by decide) ?_
                  refine E_ic (t := 53) (b := false) at_X6_tell_20 rfl (by decide) ?_
                  refine E_aload_n at_X6_tell_23 rfl ?_
                  refine E_iload_n at_X6_tell_24 rfl ?_
                  refine E_iconst (x := nI 0) at_X6_tell_25 (by decide) ?_
                  refine E_iload_n at_X6_tell_26 rfl ?_
                  refine E_if (t := 35) (b := true) at_X6_tell_27 rfl (by decide) ?_
                  refine E_iload_n at_X6_tell_35 rfl ?_
                  refine E_iconst (x := nI 1) at_X6_tell_36 (by decide) ?_
                  refine E_ic (t := 45) (b := false) at_X6_tell_37 rfl (by decide) ?_
                  refine E_bipush (x := nI 9) rfl (by decide) ?_
                  refine E_goto (t := 47) rfl rfl ?_
                  refine E_callV (v := some (.int (nI 0))) (As := [.ref 65, .int a3, .int (nI 0), .int (nI 9)]) (r0 := []) (cs2 := (ww im lf s d k ls rf rz ra rn rq lt m1 m2 m3 m4 bd (fc.set 6 ((fc.getD 6 0) + (nI 1))) hd sz el s g fm hm so si sh ce ca td wa kp la bf oo bo pw ow tr)) at_X6_tell_47 rfl rfl (Nat.le_of_ble_eq_true rfl) rfl (ab_rvOf w65 rfl) (L81_X6_isFrom (by omega) (by omega)) (by decide) rfl ?_
                  refine E_if (t := 60) (b := false) at_X6_tell_50 rfl (by decide) ?_
                  refine E_aload_n at_X6_tell_53 rfl ?_
                  refine E_bipush (x := (-6)) at_X6_tell_54 (by decide) ?_
                  refine E_callV (v := some (.int (-6))) (As := [.ref 65, .int (-6)]) (r0 := []) (cs2 := (ww im lf s d k ls rf rz ra rn rq lt m1 m2 m3 m4 bd (fc.set 6 ((fc.getD 6 0) + (nI 1))) hd sz el s g (fm.set 6 ((fm.getD 6 0) + (nI 1))) hm so si sh ce ca td wa kp la bf oo bo pw ow tr)) at_X6_tell_56 rfl rfl (Nat.le_of_ble_eq_true rfl) rfl (ab_rvOf w65 rfl) (L28_X6_no (by omega)) (by decide) w_lens ?_
                  exact E_iret at_X6_tell_59 rfl
                · exact ⟨I, rfl, hf, iQ, iM, iT, iS, l_el, (lr.1), (lr.2.1), (lr.2.2.1), (by simp only [List.length_set]; exact (lr.2.2.2.1)), (by simp only [List.length_set]; exact (lr.2.2.2.2.1)), (lr.2.2.2.2.2.1), (lr.2.2.2.2.2.2.1), (lr.2.2.2.2.2.2.2.1), (lr.2.2.2.2.2.2.2.2.1), (lr.2.2.2.2.2.2.2.2.2.1), (lr.2.2.2.2.2.2.2.2.2.2.1), (lr.2.2.2.2.2.2.2.2.2.2.2.1), (lr.2.2.2.2.2.2.2.2.2.2.2.2.1), (lr.2.2.2.2.2.2.2.2.2.2.2.2.2.1), (lr.2.2.2.2.2.2.2.2.2.2.2.2.2.2.1), (lr.2.2.2.2.2.2.2.2.2.2.2.2.2.2.2.1), (lr.2.2.2.2.2.2.2.2.2.2.2.2.2.2.2.2.1), (lr.2.2.2.2.2.2.2.2.2.2.2.2.2.2.2.2.2.1), (lr.2.2.2.2.2.2.2.2.2.2.2.2.2.2.2.2.2.2.1), (lr.2.2.2.2.2.2.2.2.2.2.2.2.2.2.2.2.2.2.2.1), (lr.2.2.2.2.2.2.2.2.2.2.2.2.2.2.2.2.2.2.2.2)⟩
            · refine ⟨(-6), (-6), (im, lf, s, d, k, ls, rf, rz, ra, rn, rq, lt, m1, m2, m3, m4, bd, (fc.set 6 ((fc.getD 6 0) + (nI 1))), hd, sz, el, s, g, fm, hm, so, si, sh, ce, ca, td, wa, kp, la, bf, oo, bo, pw, ow, tr), (im, lf, s, d, k, ls, rf, rz, ra, rn, rq, lt, m1, m2, m3, m4, bd, (fc.set 6 ((fc.getD 6 0) + (nI 1))), hd, sz, el, s, g, (fm.set 6 ((fm.getD 6 0) + (nI 1))), hm, so, si, sh, ce, ca, td, wa, kp, la, bf, oo, bo, pw, ow, tr), ?_, ?_, ?_⟩
              · show Ev ab_Z0 4 87 [.ref 0, .int (nI a1k), .int (nI a2k), .int a3] (ww im lf s d k ls rf rz ra rn rq lt m1 m2 m3 m4 bd fc hd sz el s g fm hm so si sh ce ca td wa kp la bf oo bo pw ow tr) (some (.int (-6)), (ww im lf s d k ls rf rz ra rn rq lt m1 m2 m3 m4 bd (fc.set 6 ((fc.getD 6 0) + (nI 1))) hd sz el s g fm hm so si sh ce ca td wa kp la bf oo bo pw ow tr))
                refine Ef.in (md := mX5_tell) (L := [some (.ref 0), some (.int (nI a1k)), some (.int (nI a2k)), some (.int a3)]) rfl (Nat.le_of_ble_eq_true rfl) rfl ?_
                refine E_aload_n at_X5_tell_0 rfl ?_
                refine E_getfield (v := .ref 1) at_X5_tell_1 w0 rfl (by decide) rfl ?_
                refine E_iload_n at_X5_tell_4 rfl ?_
                refine E_callV (v := some (.int (nI 1))) (As := [.ref 1, .int (nI a1k)]) (r0 := []) (cs2 := (ww im lf s d k ls rf rz ra rn rq lt m1 m2 m3 m4 bd fc hd sz el s g fm hm so si sh ce ca td wa kp la bf oo bo pw ow tr)) at_X5_tell_5 rfl rfl (Nat.le_of_ble_eq_true rfl) rfl (ab_rvOf w1 rfl) (L0_X4_isPerson (by omega) (by omega) (by omega) (by omega)) (by decide) rfl ?_
                refine E_if (t := 23) (b := false) at_X5_tell_8 rfl (by decide) ?_
                refine E_iload_n at_X5_tell_11 rfl ?_
                refine E_iconst (x := nI 2) at_X5_tell_12 (by decide) ?_
                refine E_ic (t := 29) (b := true) at_X5_tell_13 rfl ((cn_ne (nI_toInt (by omega)) (nI_toInt (by omega))).trans (decide_eq_true (by omega))) ?_
                refine E_iload_n at_X5_tell_29 rfl ?_
                refine E_tsOut (t := 104) at_X5_tell_30 (ab_tsO (nI_toInt (by omega)) (by omega)) rfl ?_
                refine E_aload_n rfl rfl ?_
                refine E_bipush (x := nI 6) rfl (by decide) ?_
                refine E_callV (v := some (.int (-6))) (As := [.ref 0, .int (nI 6)]) (r0 := []) (cs2 := (ww im lf s d k ls rf rz ra rn rq lt m1 m2 m3 m4 bd (fc.set 6 ((fc.getD 6 0) + (nI 1))) hd sz el s g fm hm so si sh ce ca td wa kp la bf oo bo pw ow tr)) rfl rfl rfl (Nat.le_of_ble_eq_true rfl) rfl (ab_rvOf w0 rfl) (L26_X5_refuse (by omega)) (by decide) w_lens ?_
                exact E_iret rfl rfl
              · show Ev ab_Z0 2 152 [.ref 65, .int (nI a1k), .int (nI a2k), .int a3] (ww im lf s d k ls rf rz ra rn rq lt m1 m2 m3 m4 bd (fc.set 6 ((fc.getD 6 0) + (nI 1))) hd sz el s g fm hm so si sh ce ca td wa kp la bf oo bo pw ow tr) (some (.int (-6)), (ww im lf s d k ls rf rz ra rn rq lt m1 m2 m3 m4 bd (fc.set 6 ((fc.getD 6 0) + (nI 1))) hd sz el s g (fm.set 6 ((fm.getD 6 0) + (nI 1))) hm so si sh ce ca td wa kp la bf oo bo pw ow tr))
                refine Ef.in (md := mX6_tell) (L := [some (.ref 65), some (.int (nI a1k)), some (.int (nI a2k)), some (.int a3), none]) rfl (Nat.le_of_ble_eq_true rfl) rfl ?_
                refine E_aload_n at_X6_tell_0 rfl ?_
                refine E_iload_n at_X6_tell_1 rfl ?_
                refine E_callV (v := some (.int (nI 1))) (As := [.ref 65, .int (nI a1k)]) (r0 := []) (cs2 := (ww im lf s d k ls rf rz ra rn rq lt m1 m2 m3 m4 bd (fc.set 6 ((fc.getD 6 0) + (nI 1))) hd sz el s g fm hm so si sh ce ca td wa kp la bf oo bo pw ow tr)) at_X6_tell_2 rfl rfl (Nat.le_of_ble_eq_true rfl) rfl (ab_rvOf w65 rfl) (L2_X6_isOne (by omega) (by omega) (by omega) (by omega)) (by decide) rfl ?_
                refine E_if (t := 14) (b := true) at_X6_tell_5 rfl (by decide) ?_
                refine E_iload_n at_X6_tell_14 rfl ?_
                refine E_if (t := 53) (b := false) at_X6_tell_15 rfl ((cn_lt (nI_toInt (by omega)) (by decide : (0 : Int32).toInt = 0)).trans (decide_eq_false (by omega))) ?_
                refine E_iload_n at_X6_tell_18 rfl ?_
                refine E_iconst (x := nI 2) at_X6_tell_19 (by decide) ?_
                refine E_ic (t := 53) (b := true) at_X6_tell_20 rfl ((cn_gt (nI_toInt (by omega)) (nI_toInt (by omega))).trans (decide_eq_true (by omega))) ?_
                refine E_aload_n at_X6_tell_53 rfl ?_
                refine E_bipush (x := (-6)) at_X6_tell_54 (by decide) ?_
                refine E_callV (v := some (.int (-6))) (As := [.ref 65, .int (-6)]) (r0 := []) (cs2 := (ww im lf s d k ls rf rz ra rn rq lt m1 m2 m3 m4 bd (fc.set 6 ((fc.getD 6 0) + (nI 1))) hd sz el s g (fm.set 6 ((fm.getD 6 0) + (nI 1))) hm so si sh ce ca td wa kp la bf oo bo pw ow tr)) at_X6_tell_56 rfl rfl (Nat.le_of_ble_eq_true rfl) rfl (ab_rvOf w65 rfl) (L28_X6_no (by omega)) (by decide) w_lens ?_
                exact E_iret at_X6_tell_59 rfl
              · exact ⟨I, rfl, hf, iQ, iM, iT, iS, l_el, (lr.1), (lr.2.1), (lr.2.2.1), (by simp only [List.length_set]; exact (lr.2.2.2.1)), (by simp only [List.length_set]; exact (lr.2.2.2.2.1)), (lr.2.2.2.2.2.1), (lr.2.2.2.2.2.2.1), (lr.2.2.2.2.2.2.2.1), (lr.2.2.2.2.2.2.2.2.1), (lr.2.2.2.2.2.2.2.2.2.1), (lr.2.2.2.2.2.2.2.2.2.2.1), (lr.2.2.2.2.2.2.2.2.2.2.2.1), (lr.2.2.2.2.2.2.2.2.2.2.2.2.1), (lr.2.2.2.2.2.2.2.2.2.2.2.2.2.1), (lr.2.2.2.2.2.2.2.2.2.2.2.2.2.2.1), (lr.2.2.2.2.2.2.2.2.2.2.2.2.2.2.2.1), (lr.2.2.2.2.2.2.2.2.2.2.2.2.2.2.2.2.1), (lr.2.2.2.2.2.2.2.2.2.2.2.2.2.2.2.2.2.1), (lr.2.2.2.2.2.2.2.2.2.2.2.2.2.2.2.2.2.2.1), (lr.2.2.2.2.2.2.2.2.2.2.2.2.2.2.2.2.2.2.2.1), (lr.2.2.2.2.2.2.2.2.2.2.2.2.2.2.2.2.2.2.2.2)⟩
      · refine ⟨(-6), (-6), (im, lf, s, d, k, ls, rf, rz, ra, rn, rq, lt, m1, m2, m3, m4, bd, (fc.set 6 ((fc.getD 6 0) + (nI 1))), hd, sz, el, s, g, fm, hm, so, si, sh, ce, ca, td, wa, kp, la, bf, oo, bo, pw, ow, tr), (im, lf, s, d, k, ls, rf, rz, ra, rn, rq, lt, m1, m2, m3, m4, bd, (fc.set 6 ((fc.getD 6 0) + (nI 1))), hd, sz, el, s, g, (fm.set 6 ((fm.getD 6 0) + (nI 1))), hm, so, si, sh, ce, ca, td, wa, kp, la, bf, oo, bo, pw, ow, tr), ?_, ?_, ?_⟩
        · show Ev ab_Z0 4 87 [.ref 0, .int (nI a1k), .int a2, .int a3] (ww im lf s d k ls rf rz ra rn rq lt m1 m2 m3 m4 bd fc hd sz el s g fm hm so si sh ce ca td wa kp la bf oo bo pw ow tr) (some (.int (-6)), (ww im lf s d k ls rf rz ra rn rq lt m1 m2 m3 m4 bd (fc.set 6 ((fc.getD 6 0) + (nI 1))) hd sz el s g fm hm so si sh ce ca td wa kp la bf oo bo pw ow tr))
          refine Ef.in (md := mX5_tell) (L := [some (.ref 0), some (.int (nI a1k)), some (.int a2), some (.int a3)]) rfl (Nat.le_of_ble_eq_true rfl) rfl ?_
          refine E_aload_n at_X5_tell_0 rfl ?_
          refine E_getfield (v := .ref 1) at_X5_tell_1 w0 rfl (by decide) rfl ?_
          refine E_iload_n at_X5_tell_4 rfl ?_
          refine E_callV (v := some (.int (nI 1))) (As := [.ref 1, .int (nI a1k)]) (r0 := []) (cs2 := (ww im lf s d k ls rf rz ra rn rq lt m1 m2 m3 m4 bd fc hd sz el s g fm hm so si sh ce ca td wa kp la bf oo bo pw ow tr)) at_X5_tell_5 rfl rfl (Nat.le_of_ble_eq_true rfl) rfl (ab_rvOf w1 rfl) (L0_X4_isPerson (by omega) (by omega) (by omega) (by omega)) (by decide) rfl ?_
          refine E_if (t := 23) (b := false) at_X5_tell_8 rfl (by decide) ?_
          refine E_iload_n at_X5_tell_11 rfl ?_
          refine E_iconst (x := nI 2) at_X5_tell_12 (by decide) ?_
          refine E_ic (t := 29) (b := true) at_X5_tell_13 rfl ((cn_ne rfl (nI_toInt (by omega))).trans (decide_eq_true (by omega))) ?_
          refine E_iload_n at_X5_tell_29 rfl ?_
          refine E_tsOut (t := 104) at_X5_tell_30 (ab_tsO rfl (by omega)) rfl ?_
          refine E_aload_n rfl rfl ?_
          refine E_bipush (x := nI 6) rfl (by decide) ?_
          refine E_callV (v := some (.int (-6))) (As := [.ref 0, .int (nI 6)]) (r0 := []) (cs2 := (ww im lf s d k ls rf rz ra rn rq lt m1 m2 m3 m4 bd (fc.set 6 ((fc.getD 6 0) + (nI 1))) hd sz el s g fm hm so si sh ce ca td wa kp la bf oo bo pw ow tr)) rfl rfl rfl (Nat.le_of_ble_eq_true rfl) rfl (ab_rvOf w0 rfl) (L26_X5_refuse (by omega)) (by decide) w_lens ?_
          exact E_iret rfl rfl
        · show Ev ab_Z0 2 152 [.ref 65, .int (nI a1k), .int a2, .int a3] (ww im lf s d k ls rf rz ra rn rq lt m1 m2 m3 m4 bd (fc.set 6 ((fc.getD 6 0) + (nI 1))) hd sz el s g fm hm so si sh ce ca td wa kp la bf oo bo pw ow tr) (some (.int (-6)), (ww im lf s d k ls rf rz ra rn rq lt m1 m2 m3 m4 bd (fc.set 6 ((fc.getD 6 0) + (nI 1))) hd sz el s g (fm.set 6 ((fm.getD 6 0) + (nI 1))) hm so si sh ce ca td wa kp la bf oo bo pw ow tr))
          refine Ef.in (md := mX6_tell) (L := [some (.ref 65), some (.int (nI a1k)), some (.int a2), some (.int a3), none]) rfl (Nat.le_of_ble_eq_true rfl) rfl ?_
          refine E_aload_n at_X6_tell_0 rfl ?_
          refine E_iload_n at_X6_tell_1 rfl ?_
          refine E_callV (v := some (.int (nI 1))) (As := [.ref 65, .int (nI a1k)]) (r0 := []) (cs2 := (ww im lf s d k ls rf rz ra rn rq lt m1 m2 m3 m4 bd (fc.set 6 ((fc.getD 6 0) + (nI 1))) hd sz el s g fm hm so si sh ce ca td wa kp la bf oo bo pw ow tr)) at_X6_tell_2 rfl rfl (Nat.le_of_ble_eq_true rfl) rfl (ab_rvOf w65 rfl) (L2_X6_isOne (by omega) (by omega) (by omega) (by omega)) (by decide) rfl ?_
          refine E_if (t := 14) (b := true) at_X6_tell_5 rfl (by decide) ?_
          refine E_iload_n at_X6_tell_14 rfl ?_
          refine E_if (t := 53) (b := true) at_X6_tell_15 rfl ((cn_lt rfl (by decide : (0 : Int32).toInt = 0)).trans (decide_eq_true (by omega))) ?_
          refine E_aload_n at_X6_tell_53 rfl ?_
          refine E_bipush (x := (-6)) at_X6_tell_54 (by decide) ?_
          refine E_callV (v := some (.int (-6))) (As := [.ref 65, .int (-6)]) (r0 := []) (cs2 := (ww im lf s d k ls rf rz ra rn rq lt m1 m2 m3 m4 bd (fc.set 6 ((fc.getD 6 0) + (nI 1))) hd sz el s g (fm.set 6 ((fm.getD 6 0) + (nI 1))) hm so si sh ce ca td wa kp la bf oo bo pw ow tr)) at_X6_tell_56 rfl rfl (Nat.le_of_ble_eq_true rfl) rfl (ab_rvOf w65 rfl) (L28_X6_no (by omega)) (by decide) w_lens ?_
          exact E_iret at_X6_tell_59 rfl
        · exact ⟨I, rfl, hf, iQ, iM, iT, iS, l_el, (lr.1), (lr.2.1), (lr.2.2.1), (by simp only [List.length_set]; exact (lr.2.2.2.1)), (by simp only [List.length_set]; exact (lr.2.2.2.2.1)), (lr.2.2.2.2.2.1), (lr.2.2.2.2.2.2.1), (lr.2.2.2.2.2.2.2.1), (lr.2.2.2.2.2.2.2.2.1), (lr.2.2.2.2.2.2.2.2.2.1), (lr.2.2.2.2.2.2.2.2.2.2.1), (lr.2.2.2.2.2.2.2.2.2.2.2.1), (lr.2.2.2.2.2.2.2.2.2.2.2.2.1), (lr.2.2.2.2.2.2.2.2.2.2.2.2.2.1), (lr.2.2.2.2.2.2.2.2.2.2.2.2.2.2.1), (lr.2.2.2.2.2.2.2.2.2.2.2.2.2.2.2.1), (lr.2.2.2.2.2.2.2.2.2.2.2.2.2.2.2.2.1), (lr.2.2.2.2.2.2.2.2.2.2.2.2.2.2.2.2.2.1), (lr.2.2.2.2.2.2.2.2.2.2.2.2.2.2.2.2.2.2.1), (lr.2.2.2.2.2.2.2.2.2.2.2.2.2.2.2.2.2.2.2.1), (lr.2.2.2.2.2.2.2.2.2.2.2.2.2.2.2.2.2.2.2.2)⟩
    · refine ⟨(-1), (-1), (im, lf, s, d, k, ls, rf, rz, ra, rn, rq, lt, m1, m2, m3, m4, bd, (fc.set 1 ((fc.getD 1 0) + (nI 1))), hd, sz, el, s, g, fm, hm, so, si, sh, ce, ca, td, wa, kp, la, bf, oo, bo, pw, ow, tr), (im, lf, s, d, k, ls, rf, rz, ra, rn, rq, lt, m1, m2, m3, m4, bd, (fc.set 1 ((fc.getD 1 0) + (nI 1))), hd, sz, el, s, g, (fm.set 1 ((fm.getD 1 0) + (nI 1))), hm, so, si, sh, ce, ca, td, wa, kp, la, bf, oo, bo, pw, ow, tr), ?_, ?_, ?_⟩
      · show Ev ab_Z0 4 87 [.ref 0, .int (nI a1k), .int a2, .int a3] (ww im lf s d k ls rf rz ra rn rq lt m1 m2 m3 m4 bd fc hd sz el s g fm hm so si sh ce ca td wa kp la bf oo bo pw ow tr) (some (.int (-1)), (ww im lf s d k ls rf rz ra rn rq lt m1 m2 m3 m4 bd (fc.set 1 ((fc.getD 1 0) + (nI 1))) hd sz el s g fm hm so si sh ce ca td wa kp la bf oo bo pw ow tr))
        refine Ef.in (md := mX5_tell) (L := [some (.ref 0), some (.int (nI a1k)), some (.int a2), some (.int a3)]) rfl (Nat.le_of_ble_eq_true rfl) rfl ?_
        refine E_aload_n at_X5_tell_0 rfl ?_
        refine E_getfield (v := .ref 1) at_X5_tell_1 w0 rfl (by decide) rfl ?_
        refine E_iload_n at_X5_tell_4 rfl ?_
        refine E_callV (v := some (.int (nI 0))) (As := [.ref 1, .int (nI a1k)]) (r0 := []) (cs2 := (ww im lf s d k ls rf rz ra rn rq lt m1 m2 m3 m4 bd fc hd sz el s g fm hm so si sh ce ca td wa kp la bf oo bo pw ow tr)) at_X5_tell_5 rfl rfl (Nat.le_of_ble_eq_true rfl) rfl (ab_rvOf w1 rfl) (L11_X4_isPerson (by omega) (by omega) (by omega) (by omega)) (by decide) rfl ?_
        refine E_if (t := 23) (b := true) at_X5_tell_8 rfl (by decide) ?_
        refine E_aload_n at_X5_tell_23 rfl ?_
        refine E_iconst (x := nI 1) at_X5_tell_24 (by decide) ?_
        refine E_callV (v := some (.int (-1))) (As := [.ref 0, .int (nI 1)]) (r0 := []) (cs2 := (ww im lf s d k ls rf rz ra rn rq lt m1 m2 m3 m4 bd (fc.set 1 ((fc.getD 1 0) + (nI 1))) hd sz el s g fm hm so si sh ce ca td wa kp la bf oo bo pw ow tr)) at_X5_tell_25 rfl rfl (Nat.le_of_ble_eq_true rfl) rfl (ab_rvOf w0 rfl) (L6_X5_refuse (by omega)) (by decide) w_lens ?_
        exact E_iret at_X5_tell_28 rfl
      · show Ev ab_Z0 2 152 [.ref 65, .int (nI a1k), .int a2, .int a3] (ww im lf s d k ls rf rz ra rn rq lt m1 m2 m3 m4 bd (fc.set 1 ((fc.getD 1 0) + (nI 1))) hd sz el s g fm hm so si sh ce ca td wa kp la bf oo bo pw ow tr) (some (.int (-1)), (ww im lf s d k ls rf rz ra rn rq lt m1 m2 m3 m4 bd (fc.set 1 ((fc.getD 1 0) + (nI 1))) hd sz el s g (fm.set 1 ((fm.getD 1 0) + (nI 1))) hm so si sh ce ca td wa kp la bf oo bo pw ow tr))
        refine Ef.in (md := mX6_tell) (L := [some (.ref 65), some (.int (nI a1k)), some (.int a2), some (.int a3), none]) rfl (Nat.le_of_ble_eq_true rfl) rfl ?_
        refine E_aload_n at_X6_tell_0 rfl ?_
        refine E_iload_n at_X6_tell_1 rfl ?_
        refine E_callV (v := some (.int (nI 0))) (As := [.ref 65, .int (nI a1k)]) (r0 := []) (cs2 := (ww im lf s d k ls rf rz ra rn rq lt m1 m2 m3 m4 bd (fc.set 1 ((fc.getD 1 0) + (nI 1))) hd sz el s g fm hm so si sh ce ca td wa kp la bf oo bo pw ow tr)) at_X6_tell_2 rfl rfl (Nat.le_of_ble_eq_true rfl) rfl (ab_rvOf w65 rfl) (L12_X6_isOne (by omega) (by omega) (by omega) (by omega)) (by decide) rfl ?_
        refine E_if (t := 14) (b := false) at_X6_tell_5 rfl (by decide) ?_
        refine E_aload_n rfl rfl ?_
        refine E_iconst (x := (-1)) rfl (by decide) ?_
        refine E_callV (v := some (.int (-1))) (As := [.ref 65, .int (-1)]) (r0 := []) (cs2 := (ww im lf s d k ls rf rz ra rn rq lt m1 m2 m3 m4 bd (fc.set 1 ((fc.getD 1 0) + (nI 1))) hd sz el s g (fm.set 1 ((fm.getD 1 0) + (nI 1))) hm so si sh ce ca td wa kp la bf oo bo pw ow tr)) rfl rfl rfl (Nat.le_of_ble_eq_true rfl) rfl (ab_rvOf w65 rfl) (L8_X6_no (by omega)) (by decide) w_lens ?_
        exact E_iret rfl rfl
      · exact ⟨I, rfl, hf, iQ, iM, iT, iS, l_el, (lr.1), (lr.2.1), (lr.2.2.1), (by simp only [List.length_set]; exact (lr.2.2.2.1)), (by simp only [List.length_set]; exact (lr.2.2.2.2.1)), (lr.2.2.2.2.2.1), (lr.2.2.2.2.2.2.1), (lr.2.2.2.2.2.2.2.1), (lr.2.2.2.2.2.2.2.2.1), (lr.2.2.2.2.2.2.2.2.2.1), (lr.2.2.2.2.2.2.2.2.2.2.1), (lr.2.2.2.2.2.2.2.2.2.2.2.1), (lr.2.2.2.2.2.2.2.2.2.2.2.2.1), (lr.2.2.2.2.2.2.2.2.2.2.2.2.2.1), (lr.2.2.2.2.2.2.2.2.2.2.2.2.2.2.1), (lr.2.2.2.2.2.2.2.2.2.2.2.2.2.2.2.1), (lr.2.2.2.2.2.2.2.2.2.2.2.2.2.2.2.2.1), (lr.2.2.2.2.2.2.2.2.2.2.2.2.2.2.2.2.2.1), (lr.2.2.2.2.2.2.2.2.2.2.2.2.2.2.2.2.2.2.1), (lr.2.2.2.2.2.2.2.2.2.2.2.2.2.2.2.2.2.2.2.1), (lr.2.2.2.2.2.2.2.2.2.2.2.2.2.2.2.2.2.2.2.2)⟩
  · refine ⟨(-1), (-1), (im, lf, s, d, k, ls, rf, rz, ra, rn, rq, lt, m1, m2, m3, m4, bd, (fc.set 1 ((fc.getD 1 0) + (nI 1))), hd, sz, el, s, g, fm, hm, so, si, sh, ce, ca, td, wa, kp, la, bf, oo, bo, pw, ow, tr), (im, lf, s, d, k, ls, rf, rz, ra, rn, rq, lt, m1, m2, m3, m4, bd, (fc.set 1 ((fc.getD 1 0) + (nI 1))), hd, sz, el, s, g, (fm.set 1 ((fm.getD 1 0) + (nI 1))), hm, so, si, sh, ce, ca, td, wa, kp, la, bf, oo, bo, pw, ow, tr), ?_, ?_, ?_⟩
    · show Ev ab_Z0 4 87 [.ref 0, .int a1, .int a2, .int a3] (ww im lf s d k ls rf rz ra rn rq lt m1 m2 m3 m4 bd fc hd sz el s g fm hm so si sh ce ca td wa kp la bf oo bo pw ow tr) (some (.int (-1)), (ww im lf s d k ls rf rz ra rn rq lt m1 m2 m3 m4 bd (fc.set 1 ((fc.getD 1 0) + (nI 1))) hd sz el s g fm hm so si sh ce ca td wa kp la bf oo bo pw ow tr))
      refine Ef.in (md := mX5_tell) (L := [some (.ref 0), some (.int a1), some (.int a2), some (.int a3)]) rfl (Nat.le_of_ble_eq_true rfl) rfl ?_
      refine E_aload_n at_X5_tell_0 rfl ?_
      refine E_getfield (v := .ref 1) at_X5_tell_1 w0 rfl (by decide) rfl ?_
      refine E_iload_n at_X5_tell_4 rfl ?_
      refine E_callV (v := some (.int (nI 0))) (As := [.ref 1, .int a1]) (r0 := []) (cs2 := (ww im lf s d k ls rf rz ra rn rq lt m1 m2 m3 m4 bd fc hd sz el s g fm hm so si sh ce ca td wa kp la bf oo bo pw ow tr)) at_X5_tell_5 rfl rfl (Nat.le_of_ble_eq_true rfl) rfl (ab_rvOf w1 rfl) (L13_X4_isPerson (by omega) (by omega)) (by decide) rfl ?_
      refine E_if (t := 23) (b := true) at_X5_tell_8 rfl (by decide) ?_
      refine E_aload_n at_X5_tell_23 rfl ?_
      refine E_iconst (x := nI 1) at_X5_tell_24 (by decide) ?_
      refine E_callV (v := some (.int (-1))) (As := [.ref 0, .int (nI 1)]) (r0 := []) (cs2 := (ww im lf s d k ls rf rz ra rn rq lt m1 m2 m3 m4 bd (fc.set 1 ((fc.getD 1 0) + (nI 1))) hd sz el s g fm hm so si sh ce ca td wa kp la bf oo bo pw ow tr)) at_X5_tell_25 rfl rfl (Nat.le_of_ble_eq_true rfl) rfl (ab_rvOf w0 rfl) (L6_X5_refuse (by omega)) (by decide) w_lens ?_
      exact E_iret at_X5_tell_28 rfl
    · show Ev ab_Z0 2 152 [.ref 65, .int a1, .int a2, .int a3] (ww im lf s d k ls rf rz ra rn rq lt m1 m2 m3 m4 bd (fc.set 1 ((fc.getD 1 0) + (nI 1))) hd sz el s g fm hm so si sh ce ca td wa kp la bf oo bo pw ow tr) (some (.int (-1)), (ww im lf s d k ls rf rz ra rn rq lt m1 m2 m3 m4 bd (fc.set 1 ((fc.getD 1 0) + (nI 1))) hd sz el s g (fm.set 1 ((fm.getD 1 0) + (nI 1))) hm so si sh ce ca td wa kp la bf oo bo pw ow tr))
      refine Ef.in (md := mX6_tell) (L := [some (.ref 65), some (.int a1), some (.int a2), some (.int a3), none]) rfl (Nat.le_of_ble_eq_true rfl) rfl ?_
      refine E_aload_n at_X6_tell_0 rfl ?_
      refine E_iload_n at_X6_tell_1 rfl ?_
      refine E_callV (v := some (.int (nI 0))) (As := [.ref 65, .int a1]) (r0 := []) (cs2 := (ww im lf s d k ls rf rz ra rn rq lt m1 m2 m3 m4 bd (fc.set 1 ((fc.getD 1 0) + (nI 1))) hd sz el s g fm hm so si sh ce ca td wa kp la bf oo bo pw ow tr)) at_X6_tell_2 rfl rfl (Nat.le_of_ble_eq_true rfl) rfl (ab_rvOf w65 rfl) (L14_X6_isOne (by omega) (by omega)) (by decide) rfl ?_
      refine E_if (t := 14) (b := false) at_X6_tell_5 rfl (by decide) ?_
      refine E_aload_n rfl rfl ?_
      refine E_iconst (x := (-1)) rfl (by decide) ?_
      refine E_callV (v := some (.int (-1))) (As := [.ref 65, .int (-1)]) (r0 := []) (cs2 := (ww im lf s d k ls rf rz ra rn rq lt m1 m2 m3 m4 bd (fc.set 1 ((fc.getD 1 0) + (nI 1))) hd sz el s g (fm.set 1 ((fm.getD 1 0) + (nI 1))) hm so si sh ce ca td wa kp la bf oo bo pw ow tr)) rfl rfl rfl (Nat.le_of_ble_eq_true rfl) rfl (ab_rvOf w65 rfl) (L8_X6_no (by omega)) (by decide) w_lens ?_
      exact E_iret rfl rfl
    · exact ⟨I, rfl, hf, iQ, iM, iT, iS, l_el, (lr.1), (lr.2.1), (lr.2.2.1), (by simp only [List.length_set]; exact (lr.2.2.2.1)), (by simp only [List.length_set]; exact (lr.2.2.2.2.1)), (lr.2.2.2.2.2.1), (lr.2.2.2.2.2.2.1), (lr.2.2.2.2.2.2.2.1), (lr.2.2.2.2.2.2.2.2.1), (lr.2.2.2.2.2.2.2.2.2.1), (lr.2.2.2.2.2.2.2.2.2.2.1), (lr.2.2.2.2.2.2.2.2.2.2.2.1), (lr.2.2.2.2.2.2.2.2.2.2.2.2.1), (lr.2.2.2.2.2.2.2.2.2.2.2.2.2.1), (lr.2.2.2.2.2.2.2.2.2.2.2.2.2.2.1), (lr.2.2.2.2.2.2.2.2.2.2.2.2.2.2.2.1), (lr.2.2.2.2.2.2.2.2.2.2.2.2.2.2.2.2.1), (lr.2.2.2.2.2.2.2.2.2.2.2.2.2.2.2.2.2.1), (lr.2.2.2.2.2.2.2.2.2.2.2.2.2.2.2.2.2.2.1), (lr.2.2.2.2.2.2.2.2.2.2.2.2.2.2.2.2.2.2.2.1), (lr.2.2.2.2.2.2.2.2.2.2.2.2.2.2.2.2.2.2.2.2)⟩
