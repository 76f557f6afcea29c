/-! set; by program (wip/tools/op.py) -/
section LM
variable {im : Int32} {lf : Int32} {s : ab_q} {d : ab_q} {k : ab_q} {ls : List Int32} {rf : Int32} {rz : Int32} {ra : Int32} {rn : Int32} {rq : ab_q} {lt : List Int32} {m1 : Int32} {m2 : Int32} {m3 : Int32} {m4 : Int32} {bd : List Int32} {fc : List Int32} {hd : Nat → Int32} {sz : Nat → Int32} {el : Nat → List Int64} {t : ab_q} {g : Nat → Int32} {fm : List Int32} {hm : List Nat} {so : List Nat} {si : List Nat} {sh : List Int32} {ce : List Int64} {ca : List Int64} {td : List Int32} {wa : List Int32} {kp : List Int32} {la : List Int32} {bf : List Int32} {oo : List Int32} {bo : List Int32} {pw : List Int32} {ow : List Int32} {tr : List Int32}
theorem L51_X5_isFrom  : Ev ab_Z0 1 115 [.int (nI 3), .int (nI 1), .int (nI 7)] (ww im lf s d k ls rf rz ra rn rq lt m1 m2 m3 m4 bd fc hd sz el t g fm hm so si sh ce ca td wa kp la bf oo bo pw ow tr) (some (.int (nI 1)), (ww im lf s d k ls rf rz ra rn rq lt m1 m2 m3 m4 bd fc hd sz el t g fm hm so si sh ce ca td wa kp la bf oo bo pw ow tr)) := by
  refine Ef.in (md := mX5_isFrom) (L := [some (.int (nI 3)), some (.int (nI 1)), some (.int (nI 7))]) rfl (Nat.le_of_ble_eq_true rfl) rfl ?_
  refine E_iload_n at_X5_isFrom_0 rfl ?_
  refine E_iload_n at_X5_isFrom_1 rfl ?_
  refine E_ic (t := 14) (b := false) at_X5_isFrom_2 rfl (by decide) ?_
  refine E_iload_n at_X5_isFrom_5 rfl ?_
  refine E_iload_n at_X5_isFrom_6 rfl ?_
  refine E_ic (t := 14) (b := false) at_X5_isFrom_7 rfl (by decide) ?_
  refine E_iconst (x := nI 1) at_X5_isFrom_10 (by decide) ?_
  refine E_goto (t := 15) at_X5_isFrom_11 rfl ?_
  exact E_iret at_X5_isFrom_15 rfl
theorem L52_X5_refuse  (h0 : fc.length = 8) : Ev ab_Z0 2 118 [.ref 0, .int (nI 3)] (ww im lf s d k ls rf rz ra rn rq lt m1 m2 m3 m4 bd fc hd sz el t g fm hm so si sh ce ca td wa kp la bf oo bo pw ow tr) (some (.int (-3)), (ww im lf s d k ls rf rz ra rn rq lt m1 m2 m3 m4 bd (fc.set 3 ((fc.getD 3 0) + (nI 1))) hd sz el t g fm hm so si sh ce ca td wa kp la bf oo bo pw ow tr)) := by
  refine Ef.in (md := mX5_refuse) (L := [some (.ref 0), some (.int (nI 3))]) rfl (Nat.le_of_ble_eq_true rfl) rfl ?_
  refine E_iload_n at_X5_refuse_0 rfl ?_
  refine E_iconst (x := nI 1) at_X5_refuse_1 (by decide) ?_
  refine E_bipush (x := nI 7) at_X5_refuse_2 (by decide) ?_
  refine E_callS (v := some (.int (nI 1))) (As := [.int (nI 3), .int (nI 1), .int (nI 7)]) (r0 := []) (cs2 := (ww im lf s d k ls rf rz ra rn rq lt m1 m2 m3 m4 bd fc hd sz el t g fm hm so si sh ce ca td wa kp la bf oo bo pw ow tr)) at_X5_refuse_4 rfl rfl (Nat.le_of_ble_eq_true rfl) rfl (L51_X5_isFrom) (by decide) rfl ?_
  refine E_if (t := 20) (b := false) at_X5_refuse_7 rfl (by decide) ?_
  refine E_aload_n at_X5_refuse_10 rfl ?_
  refine E_getfield (v := .ref 48) at_X5_refuse_11 w0 rfl (by decide) rfl ?_
  refine E_iload_n at_X5_refuse_14 rfl ?_
  refine E_dup2 at_X5_refuse_15 ⟨rfl, rfl⟩ ?_
  refine E_ialI (l := fc) (v := fc.getD 3 0) at_X5_refuse_16 w48 (by omega) (by omega) rfl ?_
  refine E_iconst (x := nI 1) at_X5_refuse_17 (by decide) ?_
  refine E_iadd (z := (fc.getD 3 0) + (nI 1)) at_X5_refuse_18 rfl ?_
  refine E_iasI (l := fc) (cs2 := (ww im lf s d k ls rf rz ra rn rq lt m1 m2 m3 m4 bd (fc.set 3 ((fc.getD 3 0) + (nI 1))) hd sz el t g fm hm so si sh ce ca td wa kp la bf oo bo pw ow tr)) at_X5_refuse_19 w48 (by omega) (by omega) rfl ?_
  refine E_iload_n at_X5_refuse_20 rfl ?_
  refine E_ineg (z := (-3)) at_X5_refuse_21 (by decide) ?_
  exact E_iret at_X5_refuse_22 rfl
theorem L53_X6_no  (h0 : fm.length = 8) : Ev ab_Z0 1 129 [.ref 65, .int (-3)] (ww im lf s d k ls rf rz ra rn rq lt m1 m2 m3 m4 bd fc hd sz el t g fm hm so si sh ce ca td wa kp la bf oo bo pw ow tr) (some (.int (-3)), (ww im lf s d k ls rf rz ra rn rq lt m1 m2 m3 m4 bd fc hd sz el t g (fm.set 3 ((fm.getD 3 0) + (nI 1))) hm so si sh ce ca td wa kp la bf oo bo pw ow tr)) := by
  refine Ef.in (md := mX6_no) (L := [some (.ref 65), some (.int (-3))]) rfl (Nat.le_of_ble_eq_true rfl) rfl ?_
  refine E_aload_n at_X6_no_0 rfl ?_
  refine E_getfield (v := .ref 66) at_X6_no_1 w65 rfl (by decide) rfl ?_
  refine E_iload_n at_X6_no_4 rfl ?_
  refine E_ineg (z := nI 3) at_X6_no_5 (by decide) ?_
  refine E_dup2 at_X6_no_6 ⟨rfl, rfl⟩ ?_
  refine E_ialI (l := fm) (v := fm.getD 3 0) at_X6_no_7 w66 (by omega) (by omega) rfl ?_
  refine E_iconst (x := nI 1) at_X6_no_8 (by decide) ?_
  refine E_iadd (z := (fm.getD 3 0) + (nI 1)) at_X6_no_9 rfl ?_
  refine E_iasI (l := fm) (cs2 := (ww im lf s d k ls rf rz ra rn rq lt m1 m2 m3 m4 bd fc hd sz el t g (fm.set 3 ((fm.getD 3 0) + (nI 1))) hm so si sh ce ca td wa kp la bf oo bo pw ow tr)) at_X6_no_10 w66 (by omega) (by omega) rfl ?_
  refine E_iload_n at_X6_no_11 rfl ?_
  exact E_iret at_X6_no_12 rfl
theorem L54_X5_isFrom  : Ev ab_Z0 1 115 [.int (nI 2), .int (nI 1), .int (nI 7)] (ww im lf s d k ls rf rz ra rn rq lt m1 m2 m3 m4 bd fc hd sz el t g fm hm so si sh ce ca td wa kp la bf oo bo pw ow tr) (some (.int (nI 1)), (ww im lf s d k ls rf rz ra rn rq lt m1 m2 m3 m4 bd fc hd sz el t g fm hm so si sh ce ca td wa kp la bf oo bo pw ow tr)) := by
  refine Ef.in (md := mX5_isFrom) (L := [some (.int (nI 2)), some (.int (nI 1)), some (.int (nI 7))]) rfl (Nat.le_of_ble_eq_true rfl) rfl ?_
  refine E_iload_n at_X5_isFrom_0 rfl ?_
  refine E_iload_n at_X5_isFrom_1 rfl ?_
  refine E_ic (t := 14) (b := false) at_X5_isFrom_2 rfl (by decide) ?_
  refine E_iload_n at_X5_isFrom_5 rfl ?_
  refine E_iload_n at_X5_isFrom_6 rfl ?_
  refine E_ic (t := 14) (b := false) at_X5_isFrom_7 rfl (by decide) ?_
  refine E_iconst (x := nI 1) at_X5_isFrom_10 (by decide) ?_
  refine E_goto (t := 15) at_X5_isFrom_11 rfl ?_
  exact E_iret at_X5_isFrom_15 rfl
theorem L55_X5_refuse  (h0 : fc.length = 8) : Ev ab_Z0 2 118 [.ref 0, .int (nI 2)] (ww im lf s d k ls rf rz ra rn rq lt m1 m2 m3 m4 bd fc hd sz el t g fm hm so si sh ce ca td wa kp la bf oo bo pw ow tr) (some (.int (-2)), (ww im lf s d k ls rf rz ra rn rq lt m1 m2 m3 m4 bd (fc.set 2 ((fc.getD 2 0) + (nI 1))) hd sz el t g fm hm so si sh ce ca td wa kp la bf oo bo pw ow tr)) := by
  refine Ef.in (md := mX5_refuse) (L := [some (.ref 0), some (.int (nI 2))]) rfl (Nat.le_of_ble_eq_true rfl) rfl ?_
  refine E_iload_n at_X5_refuse_0 rfl ?_
  refine E_iconst (x := nI 1) at_X5_refuse_1 (by decide) ?_
  refine E_bipush (x := nI 7) at_X5_refuse_2 (by decide) ?_
  refine E_callS (v := some (.int (nI 1))) (As := [.int (nI 2), .int (nI 1), .int (nI 7)]) (r0 := []) (cs2 := (ww im lf s d k ls rf rz ra rn rq lt m1 m2 m3 m4 bd fc hd sz el t g fm hm so si sh ce ca td wa kp la bf oo bo pw ow tr)) at_X5_refuse_4 rfl rfl (Nat.le_of_ble_eq_true rfl) rfl (L54_X5_isFrom) (by decide) rfl ?_
  refine E_if (t := 20) (b := false) at_X5_refuse_7 rfl (by decide) ?_
  refine E_aload_n at_X5_refuse_10 rfl ?_
  refine E_getfield (v := .ref 48) at_X5_refuse_11 w0 rfl (by decide) rfl ?_
  refine E_iload_n at_X5_refuse_14 rfl ?_
  refine E_dup2 at_X5_refuse_15 ⟨rfl, rfl⟩ ?_
  refine E_ialI (l := fc) (v := fc.getD 2 0) at_X5_refuse_16 w48 (by omega) (by omega) rfl ?_
  refine E_iconst (x := nI 1) at_X5_refuse_17 (by decide) ?_
  refine E_iadd (z := (fc.getD 2 0) + (nI 1)) at_X5_refuse_18 rfl ?_
  refine E_iasI (l := fc) (cs2 := (ww im lf s d k ls rf rz ra rn rq lt m1 m2 m3 m4 bd (fc.set 2 ((fc.getD 2 0) + (nI 1))) hd sz el t g fm hm so si sh ce ca td wa kp la bf oo bo pw ow tr)) at_X5_refuse_19 w48 (by omega) (by omega) rfl ?_
  refine E_iload_n at_X5_refuse_20 rfl ?_
  refine E_ineg (z := (-2)) at_X5_refuse_21 (by decide) ?_
  exact E_iret at_X5_refuse_22 rfl
theorem L56_X6_no  (h0 : fm.length = 8) : Ev ab_Z0 1 129 [.ref 65, .int (-2)] (ww im lf s d k ls rf rz ra rn rq lt m1 m2 m3 m4 bd fc hd sz el t g fm hm so si sh ce ca td wa kp la bf oo bo pw ow tr) (some (.int (-2)), (ww im lf s d k ls rf rz ra rn rq lt m1 m2 m3 m4 bd fc hd sz el t g (fm.set 2 ((fm.getD 2 0) + (nI 1))) hm so si sh ce ca td wa kp la bf oo bo pw ow tr)) := by
  refine Ef.in (md := mX6_no) (L := [some (.ref 65), some (.int (-2))]) rfl (Nat.le_of_ble_eq_true rfl) rfl ?_
  refine E_aload_n at_X6_no_0 rfl ?_
  refine E_getfield (v := .ref 66) at_X6_no_1 w65 rfl (by decide) rfl ?_
  refine E_iload_n at_X6_no_4 rfl ?_
  refine E_ineg (z := nI 2) at_X6_no_5 (by decide) ?_
  refine E_dup2 at_X6_no_6 ⟨rfl, rfl⟩ ?_
  refine E_ialI (l := fm) (v := fm.getD 2 0) at_X6_no_7 w66 (by omega) (by omega) rfl ?_
  refine E_iconst (x := nI 1) at_X6_no_8 (by decide) ?_
  refine E_iadd (z := (fm.getD 2 0) + (nI 1)) at_X6_no_9 rfl ?_
  refine E_iasI (l := fm) (cs2 := (ww im lf s d k ls rf rz ra rn rq lt m1 m2 m3 m4 bd fc hd sz el t g (fm.set 2 ((fm.getD 2 0) + (nI 1))) hm so si sh ce ca td wa kp la bf oo bo pw ow tr)) at_X6_no_10 w66 (by omega) (by omega) rfl ?_
  refine E_iload_n at_X6_no_11 rfl ?_
  exact E_iret at_X6_no_12 rfl
end LM
set_option maxHeartbeats 4000000 in
theorem op_set (x : St) (hx : wI x) (a1 : Int32) (a2 : Int32) (a3 : Int64) : ∃ (r : Int32) (x1 x2 : St), Ev ab_Z0 3 77 [.ref 0, .int a1, .int a2, .long a3] (wt x) (some (.int r), wt x1) ∧ Ev ab_Z0 2 136 [.ref 65, .int a1, .int a2, .long a3] (wt x1) (some (.int r), wt x2) ∧ wI x2 := by
  obtain ⟨im, lf, s, d, k, ls, rf, rz, ra, rn, rq, lt, m1, m2, m3, m4, bd, fc, hd, sz, el, t, g, fm, hm, so, si, sh, ce, ca, td, wa, kp, la, bf, oo, bo, pw, ow, tr⟩ := x
  obtain ⟨I, ts, hf, iQ, iM, iT, iS, l_el, lr⟩ := hx
  replace lr : Hd _ := lr
  have l_fc := lr.2.2.2.1
  have l_fm := lr.2.2.2.2.1
  have l_hm := lr.2.2.2.2.2.1
  have l_so := lr.2.2.2.2.2.2.1
  have l_si := lr.2.2.2.2.2.2.2.1
  have l_ce := lr.2.2.2.2.2.2.2.2.2.1
  subst ts
  obtain ⟨⟨i0, i1, i2, i3⟩, ⟨i4, i5, i6, i7, i8⟩, ⟨i9, i10⟩, I1, I2, I3, I4⟩ := id I
  rcases ab_int a1 with ⟨a1k, f0, rfl⟩ | f0
  · by_cases f1 : a1k < 8
    · rcases iS a1k (by omega) with ⟨u1, u2, u3⟩ | ⟨xq, u1, u2, u3, u4, u5⟩ | ⟨u1, u2, u3, u4, u5, u6⟩
      · refine ⟨(-3), (im, lf, s, d, k, ls, rf, rz, ra, rn, rq, lt, m1, m2, m3, m4, bd, (fc.set 3 ((fc.getD 3 0) + (nI 1))), hd, sz, el, s, g, fm, hm, so, si, sh, ce, ca, td, wa, kp, la, bf, oo, bo, pw, ow, tr), (im, lf, s, d, k, ls, rf, rz, ra, rn, rq, lt, m1, m2, m3, m4, bd, (fc.set 3 ((fc.getD 3 0) + (nI 1))), hd, sz, el, s, g, (fm.set 3 ((fm.getD 3 0) + (nI 1))), hm, so, si, sh, ce, ca, td, wa, kp, la, bf, oo, bo, pw, ow, tr), ?_, ?_, ?_⟩
        · show Ev ab_Z0 3 77 [.ref 0, .int (nI a1k), .int a2, .long a3] (ww im lf s d k ls rf rz ra rn rq lt m1 m2 m3 m4 bd fc hd sz el s g fm hm so si sh ce ca td wa kp la bf oo bo pw ow tr) (some (.int (-3)), (ww im lf s d k ls rf rz ra rn rq lt m1 m2 m3 m4 bd (fc.set 3 ((fc.getD 3 0) + (nI 1))) hd sz el s g fm hm so si sh ce ca td wa kp la bf oo bo pw ow tr))
          refine Ef.in (md := mX5_set) (L := [some (.ref 0), some (.int (nI a1k)), some (.int a2), some (.long a3), none, none]) rfl (Nat.le_of_ble_eq_true rfl) rfl ?_
          refine E_aload_n at_X5_set_0 rfl ?_
          refine E_iload_n at_X5_set_1 rfl ?_
          have e3 : Ev ab_Z0 2 119 [.ref 0, .int (nI a1k)] (ww im lf s d k ls rf rz ra rn rq lt m1 m2 m3 m4 bd fc hd sz el s g fm hm so si sh ce ca td wa kp la bf oo bo pw ow tr) (some (.int (nI 3)), (ww im lf s d k ls rf rz ra rn rq lt m1 m2 m3 m4 bd fc hd sz el s g fm hm so si sh ce ca td wa kp la bf oo bo pw ow tr)) := by
            refine Ef.in (md := mX5_whyNoRow) (L := [some (.ref 0), some (.int (nI a1k))]) rfl (Nat.le_of_ble_eq_true rfl) rfl ?_
            refine E_iload_n at_X5_whyNoRow_0 rfl ?_
            refine E_callS (v := some (.int (nI 1))) (As := [.int (nI a1k)]) (r0 := []) (cs2 := (ww im lf s d k ls rf rz ra rn rq lt m1 m2 m3 m4 bd fc hd sz el s g fm hm so si sh ce ca td wa kp la bf oo bo pw ow tr)) at_X5_whyNoRow_1 rfl rfl (Nat.le_of_ble_eq_true rfl) rfl (L39_X5_isShelf (by omega) (by omega) (by omega)) (by decide) rfl ?_
            refine E_if (t := 9) (b := true) at_X5_whyNoRow_4 rfl (by decide) ?_
            refine E_aload_n at_X5_whyNoRow_9 rfl ?_
            refine E_getfield (v := .ref 31) at_X5_whyNoRow_10 w0 rfl (by decide) rfl ?_
            refine E_iload_n at_X5_whyNoRow_13 rfl ?_
            refine E_aalN (b := 49 + 2 * a1k) at_X5_whyNoRow_14 w31 (by omega) (w_shs (by omega)) ?_
            have e1 : Ev ab_Z0 1 33 [.ref (49 + 2 * a1k)] (ww im lf s d k ls rf rz ra rn rq lt m1 m2 m3 m4 bd fc hd sz el s g fm hm so si sh ce ca td wa kp la bf oo bo pw ow tr) (some (.int (nI 0)), (ww im lf s d k ls rf rz ra rn rq lt m1 m2 m3 m4 bd fc hd sz el s g fm hm so si sh ce ca td wa kp la bf oo bo pw ow tr)) := by
              refine Ef.in (md := mX3_isOtherThanRow) (L := [some (.ref (49 + 2 * a1k))]) rfl (Nat.le_of_ble_eq_true rfl) rfl ?_
              refine E_aload_n at_X3_isOtherThanRow_0 rfl ?_
              refine E_getfield (v := .int (-1)) at_X3_isOtherThanRow_1 (w_shv (j := a1k) (by omega) u1 u2) rfl (by decide) rfl ?_
              refine E_if (t := 20) (b := true) at_X3_isOtherThanRow_4 rfl (by decide) ?_
              refine E_iconst (x := nI 0) at_X3_isOtherThanRow_20 (by decide) ?_
              exact E_iret at_X3_isOtherThanRow_21 rfl
            refine E_callV (v := some (.int (nI 0))) (As := [.ref (49 + 2 * a1k)]) (r0 := []) (cs2 := (ww im lf s d k ls rf rz ra rn rq lt m1 m2 m3 m4 bd fc hd sz el s g fm hm so si sh ce ca td wa kp la bf oo bo pw ow tr)) at_X5_whyNoRow_15 rfl rfl (Nat.le_of_ble_eq_true rfl) rfl (ab_rvOf (w_shv (j := a1k) (by omega) u1 u2) rfl) e1 (by decide) rfl ?_
            refine E_if (t := 23) (b := true) at_X5_whyNoRow_18 rfl (by decide) ?_
            refine E_aload_n at_X5_whyNoRow_23 rfl ?_
            refine E_getfield (v := .ref 31) at_X5_whyNoRow_24 w0 rfl (by decide) rfl ?_
            refine E_iload_n at_X5_whyNoRow_27 rfl ?_
            refine E_aalN (b := 49 + 2 * a1k) at_X5_whyNoRow_28 w31 (by omega) (w_shs (by omega)) ?_
            have e2 : Ev ab_Z0 1 32 [.ref (49 + 2 * a1k)] (ww im lf s d k ls rf rz ra rn rq lt m1 m2 m3 m4 bd fc hd sz el s g fm hm so si sh ce ca td wa kp la bf oo bo pw ow tr) (some (.int (nI 1)), (ww im lf s d k ls rf rz ra rn rq lt m1 m2 m3 m4 bd fc hd sz el s g fm hm so si sh ce ca td wa kp la bf oo bo pw ow tr)) := by
              refine Ef.in (md := mX3_isEmpty) (L := [some (.ref (49 + 2 * a1k))]) rfl (Nat.le_of_ble_eq_true rfl) rfl ?_
              refine E_aload_n at_X3_isEmpty_0 rfl ?_
              refine E_getfield (v := .int (-1)) at_X3_isEmpty_1 (w_shv (j := a1k) (by omega) u1 u2) rfl (by decide) rfl ?_
              refine E_iconst (x := (-1)) at_X3_isEmpty_4 (by decide) ?_
              refine E_ic (t := 12) (b := false) at_X3_isEmpty_5 rfl (by decide) ?_
              refine E_iconst (x := nI 1) at_X3_isEmpty_8 (by decide) ?_
              refine E_goto (t := 13) at_X3_isEmpty_9 rfl ?_
              exact E_iret at_X3_isEmpty_13 rfl
            refine E_callV (v := some (.int (nI 1))) (As := [.ref (49 + 2 * a1k)]) (r0 := []) (cs2 := (ww im lf s d k ls rf rz ra rn rq lt m1 m2 m3 m4 bd fc hd sz el s g fm hm so si sh ce ca td wa kp la bf oo bo pw ow tr)) at_X5_whyNoRow_29 rfl rfl (Nat.le_of_ble_eq_true rfl) rfl (ab_rvOf (w_shv (j := a1k) (by omega) u1 u2) rfl) e2 (by decide) rfl ?_
            refine E_if (t := 39) (b := false) at_X5_whyNoRow_32 rfl (by decide) ?_
            refine E_iconst (x := nI 3) at_X5_whyNoRow_35 (by decide) ?_
            refine E_goto (t := 40) at_X5_whyNoRow_36 rfl ?_
            exact E_iret at_X5_whyNoRow_40 rfl
          refine E_callV (v := some (.int (nI 3))) (As := [.ref 0, .int (nI a1k)]) (r0 := []) (cs2 := (ww im lf s d k ls rf rz ra rn rq lt m1 m2 m3 m4 bd fc hd sz el s g fm hm so si sh ce ca td wa kp la bf oo bo pw ow tr)) at_X5_set_2 rfl rfl (Nat.le_of_ble_eq_true rfl) rfl (ab_rvOf w0 rfl) e3 (by decide) rfl ?_
          refine E_istore (L2 := [some (.ref 0), some (.int (nI a1k)), some (.int a2), some (.long a3), none, some (.int (nI 3))]) at_X5_set_5 rfl ?_
          refine E_iload at_X5_set_7 rfl ?_
          refine E_if (t := 19) (b := false) at_X5_set_9 rfl (by decide) ?_
          refine E_aload_n at_X5_set_12 rfl ?_
          refine E_iload at_X5_set_13 rfl ?_
          refine E_callV (v := some (.int (-3))) (As := [.ref 0, .int (nI 3)]) (r0 := []) (cs2 := (ww im lf s d k ls rf rz ra rn rq lt m1 m2 m3 m4 bd (fc.set 3 ((fc.getD 3 0) + (nI 1))) hd sz el s g fm hm so si sh ce ca td wa kp la bf oo bo pw ow tr)) at_X5_set_15 rfl rfl (Nat.le_of_ble_eq_true rfl) rfl (ab_rvOf w0 rfl) (L52_X5_refuse (by omega)) (by decide) w_lens ?_
          exact E_iret at_X5_set_18 rfl
        · show Ev ab_Z0 2 136 [.ref 65, .int (nI a1k), .int a2, .long a3] (ww im lf s d k ls rf rz ra rn rq lt m1 m2 m3 m4 bd (fc.set 3 ((fc.getD 3 0) + (nI 1))) hd sz el s g fm hm so si sh ce ca td wa kp la bf oo bo pw ow tr) (some (.int (-3)), (ww im lf s d k ls rf rz ra rn rq lt m1 m2 m3 m4 bd (fc.set 3 ((fc.getD 3 0) + (nI 1))) hd sz el s g (fm.set 3 ((fm.getD 3 0) + (nI 1))) hm so si sh ce ca td wa kp la bf oo bo pw ow tr))
          refine Ef.in (md := mX6_set) (L := [some (.ref 65), some (.int (nI a1k)), some (.int a2), some (.long a3), none]) rfl (Nat.le_of_ble_eq_true rfl) rfl ?_
          refine E_aload_n at_X6_set_0 rfl ?_
          refine E_iload_n at_X6_set_1 rfl ?_
          refine E_callV (v := some (.int (nI 1))) (As := [.ref 65, .int (nI a1k)]) (r0 := []) (cs2 := (ww im lf s d k ls rf rz ra rn rq lt m1 m2 m3 m4 bd (fc.set 3 ((fc.getD 3 0) + (nI 1))) hd sz el s g fm hm so si sh ce ca td wa kp la bf oo bo pw ow tr)) at_X6_set_2 rfl rfl (Nat.le_of_ble_eq_true rfl) rfl (ab_rvOf w65 rfl) (L40_X6_isShelf (by omega) (by omega) (by omega)) (by decide) rfl ?_
          refine E_if (t := 14) (b := true) at_X6_set_5 rfl (by decide) ?_
          refine E_aload_n at_X6_set_14 rfl ?_
          refine E_getfield (v := .ref 76) at_X6_set_15 w65 rfl (by decide) rfl ?_
          refine E_iload_n at_X6_set_18 rfl ?_
          refine E_ialN (l := hm) (v := hm.getD a1k 0) at_X6_set_19 w76 (by omega) (by omega) rfl ?_
          refine E_iconst (x := nI 2) at_X6_set_20 (by decide) ?_
          refine E_ic (t := 31) (b := true) at_X6_set_21 rfl ((cn_ne (nI_toInt (by omega)) (nI_toInt (by omega))).trans (decide_eq_true (by omega))) ?_
          refine E_aload_n at_X6_set_31 rfl ?_
          refine E_getfield (v := .ref 76) at_X6_set_32 w65 rfl (by decide) rfl ?_
          refine E_iload_n at_X6_set_35 rfl ?_
          refine E_ialN (l := hm) (v := hm.getD a1k 0) at_X6_set_36 w76 (by omega) (by omega) rfl ?_
          refine E_if (t := 47) (b := false) at_X6_set_37 rfl ((cn_ne (nI_toInt (by omega)) (by decide : (0 : Int32).toInt = 0)).trans (decide_eq_false (by omega))) ?_
          refine E_aload_n rfl rfl ?_
          refine E_bipush (x := (-3)) rfl (by decide) ?_
          refine E_callV (v := some (.int (-3))) (As := [.ref 65, .int (-3)]) (r0 := []) (cs2 := (ww im lf s d k ls rf rz ra rn rq lt m1 m2 m3 m4 bd (fc.set 3 ((fc.getD 3 0) + (nI 1))) hd sz el s g (fm.set 3 ((fm.getD 3 0) + (nI 1))) hm so si sh ce ca td wa kp la bf oo bo pw ow tr)) rfl rfl rfl (Nat.le_of_ble_eq_true rfl) rfl (ab_rvOf w65 rfl) (L53_X6_no (by omega)) (by decide) w_lens ?_
          exact E_iret rfl rfl
        · exact ⟨I, rfl, hf, iQ, iM, iT, iS, l_el, (lr.1), (lr.2.1), (lr.2.2.1), (by simp only [List.length_set]; exact (lr.2.2.2.1)), (by simp only [List.length_set]; exact (lr.2.2.2.2.1)), (lr.2.2.2.2.2.1), (lr.2.2.2.2.2.2.1), (lr.2.2.2.2.2.2.2.1), (lr.2.2.2.2.2.2.2.2.1), (lr.2.2.2.2.2.2.2.2.2.1), (lr.2.2.2.2.2.2.2.2.2.2.1), (lr.2.2.2.2.2.2.2.2.2.2.2.1), (lr.2.2.2.2.2.2.2.2.2.2.2.2.1), (lr.2.2.2.2.2.2.2.2.2.2.2.2.2.1), (lr.2.2.2.2.2.2.2.2.2.2.2.2.2.2.1), (lr.2.2.2.2.2.2.2.2.2.2.2.2.2.2.2.1), (lr.2.2.2.2.2.2.2.2.2.2.2.2.2.2.2.2.1), (lr.2.2.2.2.2.2.2.2.2.2.2.2.2.2.2.2.2.1), (lr.2.2.2.2.2.2.2.2.2.2.2.2.2.2.2.2.2.2.1), (lr.2.2.2.2.2.2.2.2.2.2.2.2.2.2.2.2.2.2.2.1), (lr.2.2.2.2.2.2.2.2.2.2.2.2.2.2.2.2.2.2.2.2)⟩
      · refine ⟨(-2), (im, lf, s, d, k, ls, rf, rz, ra, rn, rq, lt, m1, m2, m3, m4, bd, (fc.set 2 ((fc.getD 2 0) + (nI 1))), hd, sz, el, s, g, fm, hm, so, si, sh, ce, ca, td, wa, kp, la, bf, oo, bo, pw, ow, tr), (im, lf, s, d, k, ls, rf, rz, ra, rn, rq, lt, m1, m2, m3, m4, bd, (fc.set 2 ((fc.getD 2 0) + (nI 1))), hd, sz, el, s, g, (fm.set 2 ((fm.getD 2 0) + (nI 1))), hm, so, si, sh, ce, ca, td, wa, kp, la, bf, oo, bo, pw, ow, tr), ?_, ?_, ?_⟩
        · show Ev ab_Z0 3 77 [.ref 0, .int (nI a1k), .int a2, .long a3] (ww im lf s d k ls rf rz ra rn rq lt m1 m2 m3 m4 bd fc hd sz el s g fm hm so si sh ce ca td wa kp la bf oo bo pw ow tr) (some (.int (-2)), (ww im lf s d k ls rf rz ra rn rq lt m1 m2 m3 m4 bd (fc.set 2 ((fc.getD 2 0) + (nI 1))) hd sz el s g fm hm so si sh ce ca td wa kp la bf oo bo pw ow tr))
          refine Ef.in (md := mX5_set) (L := [some (.ref 0), some (.int (nI a1k)), some (.int a2), some (.long a3), none, none]) rfl (Nat.le_of_ble_eq_true rfl) rfl ?_
          refine E_aload_n at_X5_set_0 rfl ?_
          refine E_iload_n at_X5_set_1 rfl ?_
          have e2 : Ev ab_Z0 2 119 [.ref 0, .int (nI a1k)] (ww im lf s d k ls rf rz ra rn rq lt m1 m2 m3 m4 bd fc hd sz el s g fm hm so si sh ce ca td wa kp la bf oo bo pw ow tr) (some (.int (nI 2)), (ww im lf s d k ls rf rz ra rn rq lt m1 m2 m3 m4 bd fc hd sz el s g fm hm so si sh ce ca td wa kp la bf oo bo pw ow tr)) := by
            refine Ef.in (md := mX5_whyNoRow) (L := [some (.ref 0), some (.int (nI a1k))]) rfl (Nat.le_of_ble_eq_true rfl) rfl ?_
            refine E_iload_n at_X5_whyNoRow_0 rfl ?_
            refine E_callS (v := some (.int (nI 1))) (As := [.int (nI a1k)]) (r0 := []) (cs2 := (ww im lf s d k ls rf rz ra rn rq lt m1 m2 m3 m4 bd fc hd sz el s g fm hm so si sh ce ca td wa kp la bf oo bo pw ow tr)) at_X5_whyNoRow_1 rfl rfl (Nat.le_of_ble_eq_true rfl) rfl (L39_X5_isShelf (by omega) (by omega) (by omega)) (by decide) rfl ?_
            refine E_if (t := 9) (b := true) at_X5_whyNoRow_4 rfl (by decide) ?_
            refine E_aload_n at_X5_whyNoRow_9 rfl ?_
            refine E_getfield (v := .ref 31) at_X5_whyNoRow_10 w0 rfl (by decide) rfl ?_
            refine E_iload_n at_X5_whyNoRow_13 rfl ?_
            refine E_aalN (b := 49 + 2 * a1k) at_X5_whyNoRow_14 w31 (by omega) (w_shs (by omega)) ?_
            have e1 : Ev ab_Z0 1 33 [.ref (49 + 2 * a1k)] (ww im lf s d k ls rf rz ra rn rq lt m1 m2 m3 m4 bd fc hd sz el s g fm hm so si sh ce ca td wa kp la bf oo bo pw ow tr) (some (.int (nI 1)), (ww im lf s d k ls rf rz ra rn rq lt m1 m2 m3 m4 bd fc hd sz el s g fm hm so si sh ce ca td wa kp la bf oo bo pw ow tr)) := by
              refine Ef.in (md := mX3_isOtherThanRow) (L := [some (.ref (49 + 2 * a1k))]) rfl (Nat.le_of_ble_eq_true rfl) rfl ?_
              refine E_aload_n at_X3_isOtherThanRow_0 rfl ?_
              refine E_getfield (v := .int (nI xq)) at_X3_isOtherThanRow_1 (w_shv (j := a1k) (by omega) u2 u3) rfl (by decide) rfl ?_
              refine E_if (t := 20) (b := false) at_X3_isOtherThanRow_4 rfl ((cn_lt (nI_toInt (by omega)) (by decide : (0 : Int32).toInt = 0)).trans (decide_eq_false (by omega))) ?_
              refine E_aload_n at_X3_isOtherThanRow_7 rfl ?_
              refine E_getfield (v := .int (nI xq)) at_X3_isOtherThanRow_8 (w_shv (j := a1k) (by omega) u2 u3) rfl (by decide) rfl ?_
              refine E_bipush (x := nI 100) at_X3_isOtherThanRow_11 (by decide) ?_
              refine E_ic (t := 20) (b := false) at_X3_isOtherThanRow_13 rfl ((cn_ge (nI_toInt (by omega)) (nI_toInt (by omega))).trans (decide_eq_false (by omega))) ?_
              refine E_iconst (x := nI 1) at_X3_isOtherThanRow_16 (by decide) ?_
              refine E_goto (t := 21) at_X3_isOtherThanRow_17 rfl ?_
              exact E_iret at_X3_isOtherThanRow_21 rfl
            refine E_callV (v := some (.int (nI 1))) (As := [.ref (49 + 2 * a1k)]) (r0 := []) (cs2 := (ww im lf s d k ls rf rz ra rn rq lt m1 m2 m3 m4 bd fc hd sz el s g fm hm so si sh ce ca td wa kp la bf oo bo pw ow tr)) at_X5_whyNoRow_15 rfl rfl (Nat.le_of_ble_eq_true rfl) rfl (ab_rvOf (w_shv (j := a1k) (by omega) u2 u3) rfl) e1 (by decide) rfl ?_
            refine E_if (t := 23) (b := false) at_X5_whyNoRow_18 rfl (by decide) ?_
            refine E_iconst (x := nI 2) at_X5_whyNoRow_21 (by decide) ?_
            exact E_iret at_X5_whyNoRow_22 rfl
          refine E_callV (v := some (.int (nI 2))) (As := [.ref 0, .int (nI a1k)]) (r0 := []) (cs2 := (ww im lf s d k ls rf rz ra rn rq lt m1 m2 m3 m4 bd fc hd sz el s g fm hm so si sh ce ca td wa kp la bf oo bo pw ow tr)) at_X5_set_2 rfl rfl (Nat.le_of_ble_eq_true rfl) rfl (ab_rvOf w0 rfl) e2 (by decide) rfl ?_
          refine E_istore (L2 := [some (.ref 0), some (.int (nI a1k)), some (.int a2), some (.long a3), none, some (.int (nI 2))]) at_X5_set_5 rfl ?_
          refine E_iload at_X5_set_7 rfl ?_
          refine E_if (t := 19) (b := false) at_X5_set_9 rfl (by decide) ?_
          refine E_aload_n at_X5_set_12 rfl ?_
          refine E_iload at_X5_set_13 rfl ?_
          refine E_callV (v := some (.int (-2))) (As := [.ref 0, .int (nI 2)]) (r0 := []) (cs2 := (ww im lf s d k ls rf rz ra rn rq lt m1 m2 m3 m4 bd (fc.set 2 ((fc.getD 2 0) + (nI 1))) hd sz el s g fm hm so si sh ce ca td wa kp la bf oo bo pw ow tr)) at_X5_set_15 rfl rfl (Nat.le_of_ble_eq_true rfl) rfl (ab_rvOf w0 rfl) (L55_X5_refuse (by omega)) (by decide) w_lens ?_
          exact E_iret at_X5_set_18 rfl
        · show Ev ab_Z0 2 136 [.ref 65, .int (nI a1k), .int a2, .long a3] (ww im lf s d k ls rf rz ra rn rq lt m1 m2 m3 m4 bd (fc.set 2 ((fc.getD 2 0) + (nI 1))) hd sz el s g fm hm so si sh ce ca td wa kp la bf oo bo pw ow tr) (some (.int (-2)), (ww im lf s d k ls rf rz ra rn rq lt m1 m2 m3 m4 bd (fc.set 2 ((fc.getD 2 0) + (nI 1))) hd sz el s g (fm.set 2 ((fm.getD 2 0) + (nI 1))) hm so si sh ce ca td wa kp la bf oo bo pw ow tr))
          refine Ef.in (md := mX6_set) (L := [some (.ref 65), some (.int (nI a1k)), some (.int a2), some (.long a3), none]) rfl (Nat.le_of_ble_eq_true rfl) rfl ?_
          refine E_aload_n at_X6_set_0 rfl ?_
          refine E_iload_n at_X6_set_1 rfl ?_
          refine E_callV (v := some (.int (nI 1))) (As := [.ref 65, .int (nI a1k)]) (r0 := []) (cs2 := (ww im lf s d k ls rf rz ra rn rq lt m1 m2 m3 m4 bd (fc.set 2 ((fc.getD 2 0) + (nI 1))) hd sz el s g fm hm so si sh ce ca td wa kp la bf oo bo pw ow tr)) at_X6_set_2 rfl rfl (Nat.le_of_ble_eq_true rfl) rfl (ab_rvOf w65 rfl) (L40_X6_isShelf (by omega) (by omega) (by omega)) (by decide) rfl ?_
          refine E_if (t := 14) (b := true) at_X6_set_5 rfl (by decide) ?_
          refine E_aload_n at_X6_set_14 rfl ?_
          refine E_getfield (v := .ref 76) at_X6_set_15 w65 rfl (by decide) rfl ?_
          refine E_iload_n at_X6_set_18 rfl ?_
          refine E_ialN (l := hm) (v := hm.getD a1k 0) at_X6_set_19 w76 (by omega) (by omega) rfl ?_
          refine E_iconst (x := nI 2) at_X6_set_20 (by decide) ?_
          refine E_ic (t := 31) (b := false) at_X6_set_21 rfl ((cn_ne (nI_toInt (by omega)) (nI_toInt (by omega))).trans (decide_eq_false (by omega))) ?_
          refine E_aload_n rfl rfl ?_
          refine E_bipush (x := (-2)) rfl (by decide) ?_
          refine E_callV (v := some (.int (-2))) (As := [.ref 65, .int (-2)]) (r0 := []) (cs2 := (ww im lf s d k ls rf rz ra rn rq lt m1 m2 m3 m4 bd (fc.set 2 ((fc.getD 2 0) + (nI 1))) hd sz el s g (fm.set 2 ((fm.getD 2 0) + (nI 1))) hm so si sh ce ca td wa kp la bf oo bo pw ow tr)) rfl rfl rfl (Nat.le_of_ble_eq_true rfl) rfl (ab_rvOf w65 rfl) (L56_X6_no (by omega)) (by decide) w_lens ?_
          exact E_iret rfl rfl
        · exact ⟨I, rfl, hf, iQ, iM, iT, iS, l_el, (lr.1), (lr.2.1), (lr.2.2.1), (by simp only [List.length_set]; exact (lr.2.2.2.1)), (by simp only [List.length_set]; exact (lr.2.2.2.2.1)), (lr.2.2.2.2.2.1), (lr.2.2.2.2.2.2.1), (lr.2.2.2.2.2.2.2.1), (lr.2.2.2.2.2.2.2.2.1), (lr.2.2.2.2.2.2.2.2.2.1), (lr.2.2.2.2.2.2.2.2.2.2.1), (lr.2.2.2.2.2.2.2.2.2.2.2.1), (lr.2.2.2.2.2.2.2.2.2.2.2.2.1), (lr.2.2.2.2.2.2.2.2.2.2.2.2.2.1), (lr.2.2.2.2.2.2.2.2.2.2.2.2.2.2.1), (lr.2.2.2.2.2.2.2.2.2.2.2.2.2.2.2.1), (lr.2.2.2.2.2.2.2.2.2.2.2.2.2.2.2.2.1), (lr.2.2.2.2.2.2.2.2.2.2.2.2.2.2.2.2.2.1), (lr.2.2.2.2.2.2.2.2.2.2.2.2.2.2.2.2.2.2.1), (lr.2.2.2.2.2.2.2.2.2.2.2.2.2.2.2.2.2.2.2.1), (lr.2.2.2.2.2.2.2.2.2.2.2.2.2.2.2.2.2.2.2.2)⟩
      · rcases ab_int a2 with ⟨a2k, f3, rfl⟩ | f3
        · by_cases f4 : a2k < (si.getD a1k 0)
          · by_cases f5 : (so.getD a1k 0) = 0
            · have := l_el a1k (by omega)
              refine ⟨(nI 1), (im, lf, s, d, k, ls, rf, rz, ra, rn, rq, lt, m1, m2, m3, m4, bd, fc, hd, sz, (fUp el a1k ((el a1k).set a2k a3.toInt32.toInt8.toInt32.toInt64)), s, g, fm, hm, so, si, sh, ce, ca, td, wa, kp, la, bf, oo, bo, pw, ow, tr), (im, lf, s, d, k, ls, rf, rz, ra, rn, rq, lt, m1, m2, m3, m4, bd, fc, hd, sz, (fUp el a1k ((el a1k).set a2k a3.toInt32.toInt8.toInt32.toInt64)), s, g, fm, hm, so, si, sh, (ce.set ((160 * a1k) + a2k) a3.toInt32.toInt8.toInt32.toInt64), ca, td, wa, kp, la, bf, oo, bo, pw, ow, tr), ?_, ?_, ?_⟩
              · show Ev ab_Z0 3 77 [.ref 0, .int (nI a1k), .int (nI a2k), .long a3] (ww im lf s d k ls rf rz ra rn rq lt m1 m2 m3 m4 bd fc hd sz el s g fm hm so si sh ce ca td wa kp la bf oo bo pw ow tr) (some (.int (nI 1)), (ww im lf s d k ls rf rz ra rn rq lt m1 m2 m3 m4 bd fc hd sz (fUp el a1k ((el a1k).set a2k a3.toInt32.toInt8.toInt32.toInt64)) s g fm hm so si sh ce ca td wa kp la bf oo bo pw ow tr))
                refine Ef.in (md := mX5_set) (L := [some (.ref 0), some (.int (nI a1k)), some (.int (nI a2k)), some (.long a3), none, none]) rfl (Nat.le_of_ble_eq_true rfl) rfl ?_
                refine E_aload_n at_X5_set_0 rfl ?_
                refine E_iload_n at_X5_set_1 rfl ?_
                have e3 : Ev ab_Z0 2 119 [.ref 0, .int (nI a1k)] (ww im lf s d k ls rf rz ra rn rq lt m1 m2 m3 m4 bd fc hd sz el s g fm hm so si sh ce ca td wa kp la bf oo bo pw ow tr) (some (.int (nI 0)), (ww im lf s d k ls rf rz ra rn rq lt m1 m2 m3 m4 bd fc hd sz el s g fm hm so si sh ce ca td wa kp la bf oo bo pw ow tr)) := by
                  refine Ef.in (md := mX5_whyNoRow) (L := [some (.ref 0), some (.int (nI a1k))]) rfl (Nat.le_of_ble_eq_true rfl) rfl ?_
                  refine E_iload_n at_X5_whyNoRow_0 rfl ?_
                  refine E_callS (v := some (.int (nI 1))) (As := [.int (nI a1k)]) (r0 := []) (cs2 := (ww im lf s d k ls rf rz ra rn rq lt m1 m2 m3 m4 bd fc hd sz el s g fm hm so si sh ce ca td wa kp la bf oo bo pw ow tr)) at_X5_whyNoRow_1 rfl rfl (Nat.le_of_ble_eq_true rfl) rfl (L39_X5_isShelf (by omega) (by omega) (by omega)) (by decide) rfl ?_
                  refine E_if (t := 9) (b := true) at_X5_whyNoRow_4 rfl (by decide) ?_
                  refine E_aload_n at_X5_whyNoRow_9 rfl ?_
                  refine E_getfield (v := .ref 31) at_X5_whyNoRow_10 w0 rfl (by decide) rfl ?_
                  refine E_iload_n at_X5_whyNoRow_13 rfl ?_
                  refine E_aalN (b := 49 + 2 * a1k) at_X5_whyNoRow_14 w31 (by omega) (w_shs (by omega)) ?_
                  have e1 : Ev ab_Z0 1 33 [.ref (49 + 2 * a1k)] (ww im lf s d k ls rf rz ra rn rq lt m1 m2 m3 m4 bd fc hd sz el s g fm hm so si sh ce ca td wa kp la bf oo bo pw ow tr) (some (.int (nI 0)), (ww im lf s d k ls rf rz ra rn rq lt m1 m2 m3 m4 bd fc hd sz el s g fm hm so si sh ce ca td wa kp la bf oo bo pw ow tr)) := by
                    refine Ef.in (md := mX3_isOtherThanRow) (L := [some (.ref (49 + 2 * a1k))]) rfl (Nat.le_of_ble_eq_true rfl) rfl ?_
                    refine E_aload_n at_X3_isOtherThanRow_0 rfl ?_
                    refine E_getfield (v := .int (nI (100 + so.getD a1k 0))) at_X3_isOtherThanRow_1 (w_shv (j := a1k) (by omega) u1 u2) rfl (by decide) rfl ?_
                    refine E_if (t := 20) (b := false) at_X3_isOtherThanRow_4 rfl ((cn_lt (nI_toInt (by omega)) (by decide : (0 : Int32).toInt = 0)).trans (decide_eq_false (by omega))) ?_
                    refine E_aload_n at_X3_isOtherThanRow_7 rfl ?_
                    refine E_getfield (v := .int (nI (100 + so.getD a1k 0))) at_X3_isOtherThanRow_8 (w_shv (j := a1k) (by omega) u1 u2) rfl (by decide) rfl ?_
                    refine E_bipush (x := nI 100) at_X3_isOtherThanRow_11 (by decide) ?_
                    refine E_ic (t := 20) (b := true) at_X3_isOtherThanRow_13 rfl ((cn_ge (nI_toInt (by omega)) (nI_toInt (by omega))).trans (decide_eq_true (by omega))) ?_
                    refine E_iconst (x := nI 0) at_X3_isOtherThanRow_20 (by decide) ?_
                    exact E_iret at_X3_isOtherThanRow_21 rfl
                  refine E_callV (v := some (.int (nI 0))) (As := [.ref (49 + 2 * a1k)]) (r0 := []) (cs2 := (ww im lf s d k ls rf rz ra rn rq lt m1 m2 m3 m4 bd fc hd sz el s g fm hm so si sh ce ca td wa kp la bf oo bo pw ow tr)) at_X5_whyNoRow_15 rfl rfl (Nat.le_of_ble_eq_true rfl) rfl (ab_rvOf (w_shv (j := a1k) (by omega) u1 u2) rfl) e1 (by decide) rfl ?_
                  refine E_if (t := 23) (b := true) at_X5_whyNoRow_18 rfl (by decide) ?_
                  refine E_aload_n at_X5_whyNoRow_23 rfl ?_
                  refine E_getfield (v := .ref 31) at_X5_whyNoRow_24 w0 rfl (by decide) rfl ?_
                  refine E_iload_n at_X5_whyNoRow_27 rfl ?_
                  refine E_aalN (b := 49 + 2 * a1k) at_X5_whyNoRow_28 w31 (by omega) (w_shs (by omega)) ?_
                  have e2 : Ev ab_Z0 1 32 [.ref (49 + 2 * a1k)] (ww im lf s d k ls rf rz ra rn rq lt m1 m2 m3 m4 bd fc hd sz el s g fm hm so si sh ce ca td wa kp la bf oo bo pw ow tr) (some (.int (nI 0)), (ww im lf s d k ls rf rz ra rn rq lt m1 m2 m3 m4 bd fc hd sz el s g fm hm so si sh ce ca td wa kp la bf oo bo pw ow tr)) := by
                    refine Ef.in (md := mX3_isEmpty) (L := [some (.ref (49 + 2 * a1k))]) rfl (Nat.le_of_ble_eq_true rfl) rfl ?_
                    refine E_aload_n at_X3_isEmpty_0 rfl ?_
                    refine E_getfield (v := .int (nI (100 + so.getD a1k 0))) at_X3_isEmpty_1 (w_shv (j := a1k) (by omega) u1 u2) rfl (by decide) rfl ?_
                    refine E_iconst (x := (-1)) at_X3_isEmpty_4 (by decide) ?_
                    refine E_ic (t := 12) (b := true) at_X3_isEmpty_5 rfl ((cn_ne (nI_toInt (by omega)) (by decide : (-1 : Int32).toInt = -1)).trans (decide_eq_true (by omega))) ?_
                    refine E_iconst (x := nI 0) at_X3_isEmpty_12 (by decide) ?_
                    exact E_iret at_X3_isEmpty_13 rfl
                  refine E_callV (v := some (.int (nI 0))) (As := [.ref (49 + 2 * a1k)]) (r0 := []) (cs2 := (ww im lf s d k ls rf rz ra rn rq lt m1 m2 m3 m4 bd fc hd sz el s g fm hm so si sh ce ca td wa kp la bf oo bo pw ow tr)) at_X5_whyNoRow_29 rfl rfl (Nat.le_of_ble_eq_true rfl) rfl (ab_rvOf (w_shv (j := a1k) (by omega) u1 u2) rfl) e2 (by decide) rfl ?_
                  refine E_if (t := 39) (b := true) at_X5_whyNoRow_32 rfl (by decide) ?_
                  refine E_iconst (x := nI 0) at_X5_whyNoRow_39 (by decide) ?_
                  exact E_iret at_X5_whyNoRow_40 rfl
                refine E_callV (v := some (.int (nI 0))) (As := [.ref 0, .int (nI a1k)]) (r0 := []) (cs2 := (ww im lf s d k ls rf rz ra rn rq lt m1 m2 m3 m4 bd fc hd sz el s g fm hm so si sh ce ca td wa kp la bf oo bo pw ow tr)) at_X5_set_2 rfl rfl (Nat.le_of_ble_eq_true rfl) rfl (ab_rvOf w0 rfl) e3 (by decide) rfl ?_
                refine E_istore (L2 := [some (.ref 0), some (.int (nI a1k)), some (.int (nI a2k)), some (.long a3), none, some (.int (nI 0))]) at_X5_set_5 rfl ?_
                refine E_iload at_X5_set_7 rfl ?_
                refine E_if (t := 19) (b := true) at_X5_set_9 rfl (by decide) ?_
                refine E_aload_n at_X5_set_19 rfl ?_
                refine E_getfield (v := .ref 31) at_X5_set_20 w0 rfl (by decide) rfl ?_
                refine E_iload_n at_X5_set_23 rfl ?_
                refine E_aalN (b := 49 + 2 * a1k) at_X5_set_24 w31 (by omega) (w_shs (by omega)) ?_
                refine E_iload_n at_X5_set_25 rfl ?_
                have e4 : Ev ab_Z0 1 35 [.ref (49 + 2 * a1k), .int (nI a2k)] (ww im lf s d k ls rf rz ra rn rq lt m1 m2 m3 m4 bd fc hd sz el s g fm hm so si sh ce ca td wa kp la bf oo bo pw ow tr) (some (.int (nI 1)), (ww im lf s d k ls rf rz ra rn rq lt m1 m2 m3 m4 bd fc hd sz el s g fm hm so si sh ce ca td wa kp la bf oo bo pw ow tr)) := by
                  refine Ef.in (md := mX3_hasElement) (L := [some (.ref (49 + 2 * a1k)), some (.int (nI a2k))]) rfl (Nat.le_of_ble_eq_true rfl) rfl ?_
                  refine E_iload_n at_X3_hasElement_0 rfl ?_
                  refine E_if (t := 16) (b := false) at_X3_hasElement_1 rfl ((cn_lt (nI_toInt (by omega)) (by decide : (0 : Int32).toInt = 0)).trans (decide_eq_false (by omega))) ?_
                  refine E_iload_n at_X3_hasElement_4 rfl ?_
                  refine E_aload_n at_X3_hasElement_5 rfl ?_
                  refine E_getfield (v := .int (nI (si.getD a1k 0))) at_X3_hasElement_6 (w_shv (j := a1k) (by omega) u1 u2) rfl (by decide) rfl ?_
                  refine E_ic (t := 16) (b := false) at_X3_hasElement_9 rfl ((cn_ge (nI_toInt (by omega)) (nI_toInt (by omega))).trans (decide_eq_false (by omega))) ?_
                  refine E_iconst (x := nI 1) at_X3_hasElement_12 (by decide) ?_
                  refine E_goto (t := 17) at_X3_hasElement_13 rfl ?_
                  exact E_iret at_X3_hasElement_17 rfl
                refine E_callV (v := some (.int (nI 1))) (As := [.ref (49 + 2 * a1k), .int (nI a2k)]) (r0 := []) (cs2 := (ww im lf s d k ls rf rz ra rn rq lt m1 m2 m3 m4 bd fc hd sz el s g fm hm so si sh ce ca td wa kp la bf oo bo pw ow tr)) at_X5_set_26 rfl rfl (Nat.le_of_ble_eq_true rfl) rfl (ab_rvOf (w_shv (j := a1k) (by omega) u1 u2) rfl) e4 (by decide) rfl ?_
                refine E_if (t := 38) (b := true) at_X5_set_29 rfl (by decide) ?_
                refine E_aload_n at_X5_set_38 rfl ?_
                refine E_getfield (v := .ref 31) at_X5_set_39 w0 rfl (by decide) rfl ?_
                refine E_iload_n at_X5_set_42 rfl ?_
                refine E_aalN (b := 49 + 2 * a1k) at_X5_set_43 w31 (by omega) (w_shs (by omega)) ?_
                refine E_iload_n at_X5_set_44 rfl ?_
                refine E_lload_n at_X5_set_45 rfl ?_
                have e7 : Ev ab_Z0 2 37 [.ref (49 + 2 * a1k), .int (nI a2k), .long a3] (ww im lf s d k ls rf rz ra rn rq lt m1 m2 m3 m4 bd fc hd sz el s g fm hm so si sh ce ca td wa kp la bf oo bo pw ow tr) (none, (ww im lf s d k ls rf rz ra rn rq lt m1 m2 m3 m4 bd fc hd sz (fUp el a1k ((el a1k).set a2k a3.toInt32.toInt8.toInt32.toInt64)) s g fm hm so si sh ce ca td wa kp la bf oo bo pw ow tr)) := by
                  refine Ef.in (md := mX3_put) (L := [some (.ref (49 + 2 * a1k)), some (.int (nI a2k)), some (.long a3), none]) rfl (Nat.le_of_ble_eq_true rfl) rfl ?_
                  refine E_aload_n at_X3_put_0 rfl ?_
                  refine E_iload_n at_X3_put_1 rfl ?_
                  have e5 : Ev ab_Z0 1 35 [.ref (49 + 2 * a1k), .int (nI a2k)] (ww im lf s d k ls rf rz ra rn rq lt m1 m2 m3 m4 bd fc hd sz el s g fm hm so si sh ce ca td wa kp la bf oo bo pw ow tr) (some (.int (nI 1)), (ww im lf s d k ls rf rz ra rn rq lt m1 m2 m3 m4 bd fc hd sz el s g fm hm so si sh ce ca td wa kp la bf oo bo pw ow tr)) := by
                    refine Ef.in (md := mX3_hasElement) (L := [some (.ref (49 + 2 * a1k)), some (.int (nI a2k))]) rfl (Nat.le_of_ble_eq_true rfl) rfl ?_
                    refine E_iload_n at_X3_hasElement_0 rfl ?_
                    refine E_if (t := 16) (b := false) at_X3_hasElement_1 rfl ((cn_lt (nI_toInt (by omega)) (by decide : (0 : Int32).toInt = 0)).trans (decide_eq_false (by omega))) ?_
                    refine E_iload_n at_X3_hasElement_4 rfl ?_
                    refine E_aload_n at_X3_hasElement_5 rfl ?_
                    refine E_getfield (v := .int (nI (si.getD a1k 0))) at_X3_hasElement_6 (w_shv (j := a1k) (by omega) u1 u2) rfl (by decide) rfl ?_
                    refine E_ic (t := 16) (b := false) at_X3_hasElement_9 rfl ((cn_ge (nI_toInt (by omega)) (nI_toInt (by omega))).trans (decide_eq_false (by omega))) ?_
                    refine E_iconst (x := nI 1) at_X3_hasElement_12 (by decide) ?_
                    refine E_goto (t := 17) at_X3_hasElement_13 rfl ?_
                    exact E_iret at_X3_hasElement_17 rfl
                  refine E_callV (v := some (.int (nI 1))) (As := [.ref (49 + 2 * a1k), .int (nI a2k)]) (r0 := []) (cs2 := (ww im lf s d k ls rf rz ra rn rq lt m1 m2 m3 m4 bd fc hd sz el s g fm hm so si sh ce ca td wa kp la bf oo bo pw ow tr)) at_X3_put_2 rfl rfl (Nat.le_of_ble_eq_true rfl) rfl (ab_rvOf (w_shv (j := a1k) (by omega) u1 u2) rfl) e5 (by decide) rfl ?_
                  refine E_if (t := 19) (b := false) at_X3_put_5 rfl (by decide) ?_
                  refine E_aload_n at_X3_put_8 rfl ?_
                  refine E_getfield (v := .ref (50 + 2 * a1k)) at_X3_put_9 (w_shv (j := a1k) (by omega) u1 u2) rfl (by decide) rfl ?_
                  refine E_iload_n at_X3_put_12 rfl ?_
                  refine E_aload_n at_X3_put_13 rfl ?_
                  refine E_lload_n at_X3_put_14 rfl ?_
                  have e6 : Ev ab_Z0 1 38 [.ref (49 + 2 * a1k), .long a3] (ww im lf s d k ls rf rz ra rn rq lt m1 m2 m3 m4 bd fc hd sz el s g fm hm so si sh ce ca td wa kp la bf oo bo pw ow tr) (some (.long a3.toInt32.toInt8.toInt32.toInt64), (ww im lf s d k ls rf rz ra rn rq lt m1 m2 m3 m4 bd fc hd sz el s g fm hm so si sh ce ca td wa kp la bf oo bo pw ow tr)) := by
                    refine Ef.in (md := mX3_lowestBits) (L := [some (.ref (49 + 2 * a1k)), some (.long a3), none]) rfl (Nat.le_of_ble_eq_true rfl) rfl ?_
                    refine E_aload_n at_X3_lowestBits_0 rfl ?_
                    refine E_getfield (v := .int (nI (100 + so.getD a1k 0))) at_X3_lowestBits_1 (w_shv (j := a1k) (by omega) u1 u2) rfl (by decide) rfl ?_
                    refine E_bipush (x := nI 100) at_X3_lowestBits_4 (by decide) ?_
                    refine E_isub (z := nI ((100 + so.getD a1k 0) - 100)) at_X3_lowestBits_6 (pk_sub (by omega)) ?_
                    refine E_tsIN (x := (100 + so.getD a1k 0) - 100) (c := 0) (off := 25) (t := 32) at_X3_lowestBits_7 (by omega) (by decide) rfl rfl ?_
                    refine E_lload_n rfl rfl ?_
                    refine E_l2i (z := a3.toInt32) rfl rfl ?_
                    refine E_i2b (z := a3.toInt32.toInt8.toInt32) rfl rfl ?_
                    refine E_i2l (z := a3.toInt32.toInt8.toInt32.toInt64) rfl rfl ?_
                    exact E_lret rfl rfl
                  refine E_callV (v := some (.long a3.toInt32.toInt8.toInt32.toInt64)) (As := [.ref (49 + 2 * a1k), .long a3]) (r0 := [.int (nI a2k), .ref (50 + 2 * a1k)]) (cs2 := (ww im lf s d k ls rf rz ra rn rq lt m1 m2 m3 m4 bd fc hd sz el s g fm hm so si sh ce ca td wa kp la bf oo bo pw ow tr)) at_X3_put_15 rfl rfl (Nat.le_of_ble_eq_true rfl) rfl (ab_rvOf (w_shv (j := a1k) (by omega) u1 u2) rfl) e6 (by decide) rfl ?_
                  refine E_lasL (l := el a1k) (cs2 := (ww im lf s d k ls rf rz ra rn rq lt m1 m2 m3 m4 bd fc hd sz (fUp el a1k ((el a1k).set a2k a3.toInt32.toInt8.toInt32.toInt64)) s g fm hm so si sh ce ca td wa kp la bf oo bo pw ow tr)) at_X3_put_18 (w_el (j := a1k) (by omega)) (by omega) (by omega) (w_elput (by omega)) ?_
                  exact E_vret at_X3_put_19 rfl
                refine E_callV (v := none) (As := [.ref (49 + 2 * a1k), .int (nI a2k), .long a3]) (r0 := []) (cs2 := (ww im lf s d k ls rf rz ra rn rq lt m1 m2 m3 m4 bd fc hd sz (fUp el a1k ((el a1k).set a2k a3.toInt32.toInt8.toInt32.toInt64)) s g fm hm so si sh ce ca td wa kp la bf oo bo pw ow tr)) at_X5_set_46 rfl rfl (Nat.le_of_ble_eq_true rfl) rfl (ab_rvOf (w_shv (j := a1k) (by omega) u1 u2) rfl) e7 (by decide) w_lens ?_
                refine E_iconst (x := nI 1) at_X5_set_49 (by decide) ?_
                exact E_iret at_X5_set_50 rfl
              · show Ev ab_Z0 2 136 [.ref 65, .int (nI a1k), .int (nI a2k), .long a3] (ww im lf s d k ls rf rz ra rn rq lt m1 m2 m3 m4 bd fc hd sz (fUp el a1k ((el a1k).set a2k a3.toInt32.toInt8.toInt32.toInt64)) s g fm hm so si sh ce ca td wa kp la bf oo bo pw ow tr) (some (.int (nI 1)), (ww im lf s d k ls rf rz ra rn rq lt m1 m2 m3 m4 bd fc hd sz (fUp el a1k ((el a1k).set a2k a3.toInt32.toInt8.toInt32.toInt64)) s g fm hm so si sh (ce.set ((160 * a1k) + a2k) a3.toInt32.toInt8.toInt32.toInt64) ca td wa kp la bf oo bo pw ow tr))
                refine Ef.in (md := mX6_set) (L := [some (.ref 65), some (.int (nI a1k)), some (.int (nI a2k)), some (.long a3), none]) rfl (Nat.le_of_ble_eq_true rfl) rfl ?_
                refine E_aload_n at_X6_set_0 rfl ?_
                refine E_iload_n at_X6_set_1 rfl ?_
                refine E_callV (v := some (.int (nI 1))) (As := [.ref 65, .int (nI a1k)]) (r0 := []) (cs2 := (ww im lf s d k ls rf rz ra rn rq lt m1 m2 m3 m4 bd fc hd sz (fUp el a1k ((el a1k).set a2k a3.toInt32.toInt8.toInt32.toInt64)) s g fm hm so si sh ce ca td wa kp la bf oo bo pw ow tr)) at_X6_set_2 rfl rfl (Nat.le_of_ble_eq_true rfl) rfl (ab_rvOf w65 rfl) (L40_X6_isShelf (by omega) (by omega) (by omega)) (by decide) rfl ?_
                refine E_if (t := 14) (b := true) at_X6_set_5 rfl (by decide) ?_
                refine E_aload_n at_X6_set_14 rfl ?_
                refine E_getfield (v := .ref 76) at_X6_set_15 w65 rfl (by decide) rfl ?_
                refine E_iload_n at_X6_set_18 rfl ?_
                refine E_ialN (l := hm) (v := hm.getD a1k 0) at_X6_set_19 w76 (by omega) (by omega) rfl ?_
                refine E_iconst (x := nI 2) at_X6_set_20 (by decide) ?_
                refine E_ic (t := 31) (b := true) at_X6_set_21 rfl ((cn_ne (nI_toInt (by omega)) (nI_toInt (by omega))).trans (decide_eq_true (by omega))) ?_
                refine E_aload_n at_X6_set_31 rfl ?_
                refine E_getfield (v := .ref 76) at_X6_set_32 w65 rfl (by decide) rfl ?_
                refine E_iload_n at_X6_set_35 rfl ?_
                refine E_ialN (l := hm) (v := hm.getD a1k 0) at_X6_set_36 w76 (by omega) (by omega) rfl ?_
                refine E_if (t := 47) (b := true) at_X6_set_37 rfl ((cn_ne (nI_toInt (by omega)) (by decide : (0 : Int32).toInt = 0)).trans (decide_eq_true (by omega))) ?_
                refine E_iload_n at_X6_set_47 rfl ?_
                refine E_if (t := 61) (b := false) at_X6_set_48 rfl ((cn_lt (nI_toInt (by omega)) (by decide : (0 : Int32).toInt = 0)).trans (decide_eq_false (by omega))) ?_
                refine E_iload_n at_X6_set_51 rfl ?_
                refine E_aload_n at_X6_set_52 rfl ?_
                refine E_getfield (v := .ref 78) at_X6_set_53 w65 rfl (by decide) rfl ?_
                refine E_iload_n at_X6_set_56 rfl ?_
                refine E_ialN (l := si) (v := si.getD a1k 0) at_X6_set_57 w78 (by omega) (by omega) rfl ?_
                refine E_ic (t := 68) (b := true) at_X6_set_58 rfl ((cn_lt (nI_toInt (by omega)) (nI_toInt (by omega))).trans (decide_eq_true (by omega))) ?_
                refine E_aload_n at_X6_set_68 rfl ?_
                refine E_getfield (v := .ref 80) at_X6_set_69 w65 rfl (by decide) rfl ?_
                refine E_sipush (x := nI 160) at_X6_set_72 (by decide) ?_
                refine E_iload_n at_X6_set_75 rfl ?_
                refine E_imul (z := nI (160 * a1k)) at_X6_set_76 (pk_mul _ _) ?_
                refine E_iload_n at_X6_set_77 rfl ?_
                refine E_iadd (z := nI ((160 * a1k) + a2k)) at_X6_set_78 (nI_add _ _) ?_
                refine E_aload_n at_X6_set_79 rfl ?_
                refine E_getfield (v := .ref 77) at_X6_set_80 w65 rfl (by decide) rfl ?_
                refine E_iload_n at_X6_set_83 rfl ?_
                refine E_ialN (l := so) (v := so.getD a1k 0) at_X6_set_84 w77 (by omega) (by omega) rfl ?_
                refine E_if (t := 95) (b := false) at_X6_set_85 rfl ((cn_ne (nI_toInt (by omega)) (by decide : (0 : Int32).toInt = 0)).trans (decide_eq_false (by omega))) ?_
                refine E_lload_n rfl rfl ?_
                refine E_l2i (z := a3.toInt32) rfl rfl ?_
                refine E_i2b (z := a3.toInt32.toInt8.toInt32) rfl rfl ?_
                refine E_i2l (z := a3.toInt32.toInt8.toInt32.toInt64) rfl rfl ?_
                refine E_goto (t := 129) rfl rfl ?_
                refine E_lasL (l := ce) (cs2 := (ww im lf s d k ls rf rz ra rn rq lt m1 m2 m3 m4 bd fc hd sz (fUp el a1k ((el a1k).set a2k a3.toInt32.toInt8.toInt32.toInt64)) s g fm hm so si sh (ce.set ((160 * a1k) + a2k) a3.toInt32.toInt8.toInt32.toInt64) ca td wa kp la bf oo bo pw ow tr)) at_X6_set_129 w80 (by omega) (by omega) rfl ?_
                refine E_iconst (x := nI 1) at_X6_set_130 (by decide) ?_
                exact E_iret at_X6_set_131 rfl
              · exact ⟨I, rfl, hf, iQ, iM, iT, (iS_set iS (by omega) (by omega) (l_el _ (by omega)) (lr.2.2.2.2.2.2.2.2.2.1)), (l_elU l_el (by first | exact List.length_replicate | (simp only [List.length_set]; exact l_el _ (by omega)) | (rw [ab_cpl (by omega) (by omega)]; exact l_el _ (by omega)))), (lr.1), (lr.2.1), (lr.2.2.1), (lr.2.2.2.1), (lr.2.2.2.2.1), (lr.2.2.2.2.2.1), (lr.2.2.2.2.2.2.1), (lr.2.2.2.2.2.2.2.1), (lr.2.2.2.2.2.2.2.2.1), (by simp only [List.length_set]; exact (lr.2.2.2.2.2.2.2.2.2.1)), (lr.2.2.2.2.2.2.2.2.2.2.1), (lr.2.2.2.2.2.2.2.2.2.2.2.1), (lr.2.2.2.2.2.2.2.2.2.2.2.2.1), (lr.2.2.2.2.2.2.2.2.2.2.2.2.2.1), (lr.2.2.2.2.2.2.2.2.2.2.2.2.2.2.1), (lr.2.2.2.2.2.2.2.2.2.2.2.2.2.2.2.1), (lr.2.2.2.2.2.2.2.2.2.2.2.2.2.2.2.2.1), (lr.2.2.2.2.2.2.2.2.2.2.2.2.2.2.2.2.2.1), (lr.2.2.2.2.2.2.2.2.2.2.2.2.2.2.2.2.2.2.1), (lr.2.2.2.2.2.2.2.2.2.2.2.2.2.2.2.2.2.2.2.1), (lr.2.2.2.2.2.2.2.2.2.2.2.2.2.2.2.2.2.2.2.2)⟩
            · by_cases f6 : (so.getD a1k 0) = 1
              · have := l_el a1k (by omega)
                refine ⟨(nI 1), (im, lf, s, d, k, ls, rf, rz, ra, rn, rq, lt, m1, m2, m3, m4, bd, fc, hd, sz, (fUp el a1k ((el a1k).set a2k a3.toInt32.toInt16.toInt32.toInt64)), s, g, fm, hm, so, si, sh, ce, ca, td, wa, kp, la, bf, oo, bo, pw, ow, tr), (im, lf, s, d, k, ls, rf, rz, ra, rn, rq, lt, m1, m2, m3, m4, bd, fc, hd, sz, (fUp el a1k ((el a1k).set a2k a3.toInt32.toInt16.toInt32.toInt64)), s, g, fm, hm, so, si, sh, (ce.set ((160 * a1k) + a2k) a3.toInt32.toInt16.toInt32.toInt64), ca, td, wa, kp, la, bf, oo, bo, pw, ow, tr), ?_, ?_, ?_⟩
                · show Ev ab_Z0 3 77 [.ref 0, .int (nI a1k), .int (nI a2k), .long a3] (ww im lf s d k ls rf rz ra rn rq lt m1 m2 m3 m4 bd fc hd sz el s g fm hm so si sh ce ca td wa kp la bf oo bo pw ow tr) (some (.int (nI 1)), (ww im lf s d k ls rf rz ra rn rq lt m1 m2 m3 m4 bd fc hd sz (fUp el a1k ((el a1k).set a2k a3.toInt32.toInt16.toInt32.toInt64)) s g fm hm so si sh ce ca td wa kp la bf oo bo pw ow tr))
                  refine Ef.in (md := mX5_set) (L := [some (.ref 0), some (.int (nI a1k)), some (.int (nI a2k)), some (.long a3), none, none]) rfl (Nat.le_of_ble_eq_true rfl) rfl ?_
                  refine E_aload_n at_X5_set_0 rfl ?_
                  refine E_iload_n at_X5_set_1 rfl ?_
                  have e3 : Ev ab_Z0 2 119 [.ref 0, .int (nI a1k)] (ww im lf s d k ls rf rz ra rn rq lt m1 m2 m3 m4 bd fc hd sz el s g fm hm so si sh ce ca td wa kp la bf oo bo pw ow tr) (some (.int (nI 0)), (ww im lf s d k ls rf rz ra rn rq lt m1 m2 m3 m4 bd fc hd sz el s g fm hm so si sh ce ca td wa kp la bf oo bo pw ow tr)) := by
                    refine Ef.in (md := mX5_whyNoRow) (L := [some (.ref 0), some (.int (nI a1k))]) rfl (Nat.le_of_ble_eq_true rfl) rfl ?_
                    refine E_iload_n at_X5_whyNoRow_0 rfl ?_
                    refine E_callS (v := some (.int (nI 1))) (As := [.int (nI a1k)]) (r0 := []) (cs2 := (ww im lf s d k ls rf rz ra rn rq lt m1 m2 m3 m4 bd fc hd sz el s g fm hm so si sh ce ca td wa kp la bf oo bo pw ow tr)) at_X5_whyNoRow_1 rfl rfl (Nat.le_of_ble_eq_true rfl) rfl (L39_X5_isShelf (by omega) (by omega) (by omega)) (by decide) rfl ?_
                    refine E_if (t := 9) (b := true) at_X5_whyNoRow_4 rfl (by decide) ?_
                    refine E_aload_n at_X5_whyNoRow_9 rfl ?_
                    refine E_getfield (v := .ref 31) at_X5_whyNoRow_10 w0 rfl (by decide) rfl ?_
                    refine E_iload_n at_X5_whyNoRow_13 rfl ?_
                    refine E_aalN (b := 49 + 2 * a1k) at_X5_whyNoRow_14 w31 (by omega) (w_shs (by omega)) ?_
                    have e1 : Ev ab_Z0 1 33 [.ref (49 + 2 * a1k)] (ww im lf s d k ls rf rz ra rn rq lt m1 m2 m3 m4 bd fc hd sz el s g fm hm so si sh ce ca td wa kp la bf oo bo pw ow tr) (some (.int (nI 0)), (ww im lf s d k ls rf rz ra rn rq lt m1 m2 m3 m4 bd fc hd sz el s g fm hm so si sh ce ca td wa kp la bf oo bo pw ow tr)) := by
                      refine Ef.in (md := mX3_isOtherThanRow) (L := [some (.ref (49 + 2 * a1k))]) rfl (Nat.le_of_ble_eq_true rfl) rfl ?_
                      refine E_aload_n at_X3_isOtherThanRow_0 rfl ?_
                      refine E_getfield (v := .int (nI (100 + so.getD a1k 0))) at_X3_isOtherThanRow_1 (w_shv (j := a1k) (by omega) u1 u2) rfl (by decide) rfl ?_
                      refine E_if (t := 20) (b := false) at_X3_isOtherThanRow_4 rfl ((cn_lt (nI_toInt (by omega)) (by decide : (0 : Int32).toInt = 0)).trans (decide_eq_false (by omega))) ?_
                      refine E_aload_n at_X3_isOtherThanRow_7 rfl ?_
                      refine E_getfield (v := .int (nI (100 + so.getD a1k 0))) at_X3_isOtherThanRow_8 (w_shv (j := a1k) (by omega) u1 u2) rfl (by decide) rfl ?_
                      refine E_bipush (x := nI 100) at_X3_isOtherThanRow_11 (by decide) ?_
                      refine E_ic (t := 20) (b := true) at_X3_isOtherThanRow_13 rfl ((cn_ge (nI_toInt (by omega)) (nI_toInt (by omega))).trans (decide_eq_true (by omega))) ?_
                      refine E_iconst (x := nI 0) at_X3_isOtherThanRow_20 (by decide) ?_
                      exact E_iret at_X3_isOtherThanRow_21 rfl
                    refine E_callV (v := some (.int (nI 0))) (As := [.ref (49 + 2 * a1k)]) (r0 := []) (cs2 := (ww im lf s d k ls rf rz ra rn rq lt m1 m2 m3 m4 bd fc hd sz el s g fm hm so si sh ce ca td wa kp la bf oo bo pw ow tr)) at_X5_whyNoRow_15 rfl rfl (Nat.le_of_ble_eq_true rfl) rfl (ab_rvOf (w_shv (j := a1k) (by omega) u1 u2) rfl) e1 (by decide) rfl ?_
                    refine E_if (t := 23) (b := true) at_X5_whyNoRow_18 rfl (by decide) ?_
                    refine E_aload_n at_X5_whyNoRow_23 rfl ?_
                    refine E_getfield (v := .ref 31) at_X5_whyNoRow_24 w0 rfl (by decide) rfl ?_
                    refine E_iload_n at_X5_whyNoRow_27 rfl ?_
                    refine E_aalN (b := 49 + 2 * a1k) at_X5_whyNoRow_28 w31 (by omega) (w_shs (by omega)) ?_
                    have e2 : Ev ab_Z0 1 32 [.ref (49 + 2 * a1k)] (ww im lf s d k ls rf rz ra rn rq lt m1 m2 m3 m4 bd fc hd sz el s g fm hm so si sh ce ca td wa kp la bf oo bo pw ow tr) (some (.int (nI 0)), (ww im lf s d k ls rf rz ra rn rq lt m1 m2 m3 m4 bd fc hd sz el s g fm hm so si sh ce ca td wa kp la bf oo bo pw ow tr)) := by
                      refine Ef.in (md := mX3_isEmpty) (L := [some (.ref (49 + 2 * a1k))]) rfl (Nat.le_of_ble_eq_true rfl) rfl ?_
                      refine E_aload_n at_X3_isEmpty_0 rfl ?_
                      refine E_getfield (v := .int (nI (100 + so.getD a1k 0))) at_X3_isEmpty_1 (w_shv (j := a1k) (by omega) u1 u2) rfl (by decide) rfl ?_
                      refine E_iconst (x := (-1)) at_X3_isEmpty_4 (by decide) ?_
                      refine E_ic (t := 12) (b := true) at_X3_isEmpty_5 rfl ((cn_ne (nI_toInt (by omega)) (by decide : (-1 : Int32).toInt = -1)).trans (decide_eq_true (by omega))) ?_
                      refine E_iconst (x := nI 0) at_X3_isEmpty_12 (by decide) ?_
                      exact E_iret at_X3_isEmpty_13 rfl
                    refine E_callV (v := some (.int (nI 0))) (As := [.ref (49 + 2 * a1k)]) (r0 := []) (cs2 := (ww im lf s d k ls rf rz ra rn rq lt m1 m2 m3 m4 bd fc hd sz el s g fm hm so si sh ce ca td wa kp la bf oo bo pw ow tr)) at_X5_whyNoRow_29 rfl rfl (Nat.le_of_ble_eq_true rfl) rfl (ab_rvOf (w_shv (j := a1k) (by omega) u1 u2) rfl) e2 (by decide) rfl ?_
                    refine E_if (t := 39) (b := true) at_X5_whyNoRow_32 rfl (by decide) ?_
                    refine E_iconst (x := nI 0) at_X5_whyNoRow_39 (by decide) ?_
                    exact E_iret at_X5_whyNoRow_40 rfl
                  refine E_callV (v := some (.int (nI 0))) (As := [.ref 0, .int (nI a1k)]) (r0 := []) (cs2 := (ww im lf s d k ls rf rz ra rn rq lt m1 m2 m3 m4 bd fc hd sz el s g fm hm so si sh ce ca td wa kp la bf oo bo pw ow tr)) at_X5_set_2 rfl rfl (Nat.le_of_ble_eq_true rfl) rfl (ab_rvOf w0 rfl) e3 (by decide) rfl ?_
                  refine E_istore (L2 := [some (.ref 0), some (.int (nI a1k)), some (.int (nI a2k)), some (.long a3), none, some (.int (nI 0))]) at_X5_set_5 rfl ?_
                  refine E_iload at_X5_set_7 rfl ?_
                  refine E_if (t := 19) (b := true) at_X5_set_9 rfl (by decide) ?_
                  refine E_aload_n at_X5_set_19 rfl ?_
                  refine E_getfield (v := .ref 31) at_X5_set_20 w0 rfl (by decide) rfl ?_
                  refine E_iload_n at_X5_set_23 rfl ?_
                  refine E_aalN (b := 49 + 2 * a1k) at_X5_set_24 w31 (by omega) (w_shs (by omega)) ?_
                  refine E_iload_n at_X5_set_25 rfl ?_
                  have e4 : Ev ab_Z0 1 35 [.ref (49 + 2 * a1k), .int (nI a2k)] (ww im lf s d k ls rf rz ra rn rq lt m1 m2 m3 m4 bd fc hd sz el s g fm hm so si sh ce ca td wa kp la bf oo bo pw ow tr) (some (.int (nI 1)), (ww im lf s d k ls rf rz ra rn rq lt m1 m2 m3 m4 bd fc hd sz el s g fm hm so si sh ce ca td wa kp la bf oo bo pw ow tr)) := by
                    refine Ef.in (md := mX3_hasElement) (L := [some (.ref (49 + 2 * a1k)), some (.int (nI a2k))]) rfl (Nat.le_of_ble_eq_true rfl) rfl ?_
                    refine E_iload_n at_X3_hasElement_0 rfl ?_
                    refine E_if (t := 16) (b := false) at_X3_hasElement_1 rfl ((cn_lt (nI_toInt (by omega)) (by decide : (0 : Int32).toInt = 0)).trans (decide_eq_false (by omega))) ?_
                    refine E_iload_n at_X3_hasElement_4 rfl ?_
                    refine E_aload_n at_X3_hasElement_5 rfl ?_
                    refine E_getfield (v := .int (nI (si.getD a1k 0))) at_X3_hasElement_6 (w_shv (j := a1k) (by omega) u1 u2) rfl (by decide) rfl ?_
                    refine E_ic (t := 16) (b := false) at_X3_hasElement_9 rfl ((cn_ge (nI_toInt (by omega)) (nI_toInt (by omega))).trans (decide_eq_false (by omega))) ?_
                    refine E_iconst (x := nI 1) at_X3_hasElement_12 (by decide) ?_
                    refine E_goto (t := 17) at_X3_hasElement_13 rfl ?_
                    exact E_iret at_X3_hasElement_17 rfl
                  refine E_callV (v := some (.int (nI 1))) (As := [.ref (49 + 2 * a1k), .int (nI a2k)]) (r0 := []) (cs2 := (ww im lf s d k ls rf rz ra rn rq lt m1 m2 m3 m4 bd fc hd sz el s g fm hm so si sh ce ca td wa kp la bf oo bo pw ow tr)) at_X5_set_26 rfl rfl (Nat.le_of_ble_eq_true rfl) rfl (ab_rvOf (w_shv (j := a1k) (by omega) u1 u2) rfl) e4 (by decide) rfl ?_
                  refine E_if (t := 38) (b := true) at_X5_set_29 rfl (by decide) ?_
                  refine E_aload_n at_X5_set_38 rfl ?_
                  refine E_getfield (v := .ref 31) at_X5_set_39 w0 rfl (by decide) rfl ?_
                  refine E_iload_n at_X5_set_42 rfl ?_
                  refine E_aalN (b := 49 + 2 * a1k) at_X5_set_43 w31 (by omega) (w_shs (by omega)) ?_
                  refine E_iload_n at_X5_set_44 rfl ?_
                  refine E_lload_n at_X5_set_45 rfl ?_
                  have e7 : Ev ab_Z0 2 37 [.ref (49 + 2 * a1k), .int (nI a2k), .long a3] (ww im lf s d k ls rf rz ra rn rq lt m1 m2 m3 m4 bd fc hd sz el s g fm hm so si sh ce ca td wa kp la bf oo bo pw ow tr) (none, (ww im lf s d k ls rf rz ra rn rq lt m1 m2 m3 m4 bd fc hd sz (fUp el a1k ((el a1k).set a2k a3.toInt32.toInt16.toInt32.toInt64)) s g fm hm so si sh ce ca td wa kp la bf oo bo pw ow tr)) := by
                    refine Ef.in (md := mX3_put) (L := [some (.ref (49 + 2 * a1k)), some (.int (nI a2k)), some (.long a3), none]) rfl (Nat.le_of_ble_eq_true rfl) rfl ?_
                    refine E_aload_n at_X3_put_0 rfl ?_
                    refine E_iload_n at_X3_put_1 rfl ?_
                    have e5 : Ev ab_Z0 1 35 [.ref (49 + 2 * a1k), .int (nI a2k)] (ww im lf s d k ls rf rz ra rn rq lt m1 m2 m3 m4 bd fc hd sz el s g fm hm so si sh ce ca td wa kp la bf oo bo pw ow tr) (some (.int (nI 1)), (ww im lf s d k ls rf rz ra rn rq lt m1 m2 m3 m4 bd fc hd sz el s g fm hm so si sh ce ca td wa kp la bf oo bo pw ow tr)) := by
                      refine Ef.in (md := mX3_hasElement) (L := [some (.ref (49 + 2 * a1k)), some (.int (nI a2k))]) rfl (Nat.le_of_ble_eq_true rfl) rfl ?_
                      refine E_iload_n at_X3_hasElement_0 rfl ?_
                      refine E_if (t := 16) (b := false) at_X3_hasElement_1 rfl ((cn_lt (nI_toInt (by omega)) (by decide : (0 : Int32).toInt = 0)).trans (decide_eq_false (by omega))) ?_
                      refine E_iload_n at_X3_hasElement_4 rfl ?_
                      refine E_aload_n at_X3_hasElement_5 rfl ?_
                      refine E_getfield (v := .int (nI (si.getD a1k 0))) at_X3_hasElement_6 (w_shv (j := a1k) (by omega) u1 u2) rfl (by decide) rfl ?_
                      refine E_ic (t := 16) (b := false) at_X3_hasElement_9 rfl ((cn_ge (nI_toInt (by omega)) (nI_toInt (by omega))).trans (decide_eq_false (by omega))) ?_
                      refine E_iconst (x := nI 1) at_X3_hasElement_12 (by decide) ?_
                      refine E_goto (t := 17) at_X3_hasElement_13 rfl ?_
                      exact E_iret at_X3_hasElement_17 rfl
                    refine E_callV (v := some (.int (nI 1))) (As := [.ref (49 + 2 * a1k), .int (nI a2k)]) (r0 := []) (cs2 := (ww im lf s d k ls rf rz ra rn rq lt m1 m2 m3 m4 bd fc hd sz el s g fm hm so si sh ce ca td wa kp la bf oo bo pw ow tr)) at_X3_put_2 rfl rfl (Nat.le_of_ble_eq_true rfl) rfl (ab_rvOf (w_shv (j := a1k) (by omega) u1 u2) rfl) e5 (by decide) rfl ?_
                    refine E_if (t := 19) (b := false) at_X3_put_5 rfl (by decide) ?_
                    refine E_aload_n at_X3_put_8 rfl ?_
                    refine E_getfield (v := .ref (50 + 2 * a1k)) at_X3_put_9 (w_shv (j := a1k) (by omega) u1 u2) rfl (by decide) rfl ?_
                    refine E_iload_n at_X3_put_12 rfl ?_
                    refine E_aload_n at_X3_put_13 rfl ?_
                    refine E_lload_n at_X3_put_14 rfl ?_
                    have e6 : Ev ab_Z0 1 38 [.ref (49 + 2 * a1k), .long a3] (ww im lf s d k ls rf rz ra rn rq lt m1 m2 m3 m4 bd fc hd sz el s g fm hm so si sh ce ca td wa kp la bf oo bo pw ow tr) (some (.long a3.toInt32.toInt16.toInt32.toInt64), (ww im lf s d k ls rf rz ra rn rq lt m1 m2 m3 m4 bd fc hd sz el s g fm hm so si sh ce ca td wa kp la bf oo bo pw ow tr)) := by
                      refine Ef.in (md := mX3_lowestBits) (L := [some (.ref (49 + 2 * a1k)), some (.long a3), none]) rfl (Nat.le_of_ble_eq_true rfl) rfl ?_
                      refine E_aload_n at_X3_lowestBits_0 rfl ?_
                      refine E_getfield (v := .int (nI (100 + so.getD a1k 0))) at_X3_lowestBits_1 (w_shv (j := a1k) (by omega) u1 u2) rfl (by decide) rfl ?_
                      refine E_bipush (x := nI 100) at_X3_lowestBits_4 (by decide) ?_
                      refine E_isub (z := nI ((100 + so.getD a1k 0) - 100)) at_X3_lowestBits_6 (pk_sub (by omega)) ?_
                      refine E_tsIN (x := (100 + so.getD a1k 0) - 100) (c := 1) (off := 30) (t := 37) at_X3_lowestBits_7 (by omega) (by decide) rfl rfl ?_
                      refine E_lload_n rfl rfl ?_
                      refine E_l2i (z := a3.toInt32) rfl rfl ?_
                      refine E_i2s (z := a3.toInt32.toInt16.toInt32) rfl rfl ?_
                      refine E_i2l (z := a3.toInt32.toInt16.toInt32.toInt64) rfl rfl ?_
                      exact E_lret rfl rfl
                    refine E_callV (v := some (.long a3.toInt32.toInt16.toInt32.toInt64)) (As := [.ref (49 + 2 * a1k), .long a3]) (r0 := [.int (nI a2k), .ref (50 + 2 * a1k)]) (cs2 := (ww im lf s d k ls rf rz ra rn rq lt m1 m2 m3 m4 bd fc hd sz el s g fm hm so si sh ce ca td wa kp la bf oo bo pw ow tr)) at_X3_put_15 rfl rfl (Nat.le_of_ble_eq_true rfl) rfl (ab_rvOf (w_shv (j := a1k) (by omega) u1 u2) rfl) e6 (by decide) rfl ?_
                    refine E_lasL (l := el a1k) (cs2 := (ww im lf s d k ls rf rz ra rn rq lt m1 m2 m3 m4 bd fc hd sz (fUp el a1k ((el a1k).set a2k a3.toInt32.toInt16.toInt32.toInt64)) s g fm hm so si sh ce ca td wa kp la bf oo bo pw ow tr)) at_X3_put_18 (w_el (j := a1k) (by omega)) (by omega) (by omega) (w_elput (by omega)) ?_
                    exact E_vret at_X3_put_19 rfl
                  refine E_callV (v := none) (As := [.ref (49 + 2 * a1k), .int (nI a2k), .long a3]) (r0 := []) (cs2 := (ww im lf s d k ls rf rz ra rn rq lt m1 m2 m3 m4 bd fc hd sz (fUp el a1k ((el a1k).set a2k a3.toInt32.toInt16.toInt32.toInt64)) s g fm hm so si sh ce ca td wa kp la bf oo bo pw ow tr)) at_X5_set_46 rfl rfl (Nat.le_of_ble_eq_true rfl) rfl (ab_rvOf (w_shv (j := a1k) (by omega) u1 u2) rfl) e7 (by decide) w_lens ?_
                  refine E_iconst (x := nI 1) at_X5_set_49 (by decide) ?_
                  exact E_iret at_X5_set_50 rfl
                · show Ev ab_Z0 2 136 [.ref 65, .int (nI a1k), .int (nI a2k), .long a3] (ww im lf s d k ls rf rz ra rn rq lt m1 m2 m3 m4 bd fc hd sz (fUp el a1k ((el a1k).set a2k a3.toInt32.toInt16.toInt32.toInt64)) s g fm hm so si sh ce ca td wa kp la bf oo bo pw ow tr) (some (.int (nI 1)), (ww im lf s d k ls rf rz ra rn rq lt m1 m2 m3 m4 bd fc hd sz (fUp el a1k ((el a1k).set a2k a3.toInt32.toInt16.toInt32.toInt64)) s g fm hm so si sh (ce.set ((160 * a1k) + a2k) a3.toInt32.toInt16.toInt32.toInt64) ca td wa kp la bf oo bo pw ow tr))
                  refine Ef.in (md := mX6_set) (L := [some (.ref 65), some (.int (nI a1k)), some (.int (nI a2k)), some (.long a3), none]) rfl (Nat.le_of_ble_eq_true rfl) rfl ?_
                  refine E_aload_n at_X6_set_0 rfl ?_
                  refine E_iload_n at_X6_set_1 rfl ?_
                  refine E_callV (v := some (.int (nI 1))) (As := [.ref 65, .int (nI a1k)]) (r0 := []) (cs2 := (ww im lf s d k ls rf rz ra rn rq lt m1 m2 m3 m4 bd fc hd sz (fUp el a1k ((el a1k).set a2k a3.toInt32.toInt16.toInt32.toInt64)) s g fm hm so si sh ce ca td wa kp la bf oo bo pw ow tr)) at_X6_set_2 rfl rfl (Nat.le_of_ble_eq_true rfl) rfl (ab_rvOf w65 rfl) (L40_X6_isShelf (by omega) (by omega) (by omega)) (by decide) rfl ?_
                  refine E_if (t := 14) (b := true) at_X6_set_5 rfl (by decide) ?_
                  refine E_aload_n at_X6_set_14 rfl ?_
                  refine E_getfield (v := .ref 76) at_X6_set_15 w65 rfl (by decide) rfl ?_
                  refine E_iload_n at_X6_set_18 rfl ?_
                  refine E_ialN (l := hm) (v := hm.getD a1k 0) at_X6_set_19 w76 (by omega) (by omega) rfl ?_
                  refine E_iconst (x := nI 2) at_X6_set_20 (by decide) ?_
                  refine E_ic (t := 31) (b := true) at_X6_set_21 rfl ((cn_ne (nI_toInt (by omega)) (nI_toInt (by omega))).trans (decide_eq_true (by omega))) ?_
                  refine E_aload_n at_X6_set_31 rfl ?_
                  refine E_getfield (v := .ref 76) at_X6_set_32 w65 rfl (by decide) rfl ?_
                  refine E_iload_n at_X6_set_35 rfl ?_
                  refine E_ialN (l := hm) (v := hm.getD a1k 0) at_X6_set_36 w76 (by omega) (by omega) rfl ?_
                  refine E_if (t := 47) (b := true) at_X6_set_37 rfl ((cn_ne (nI_toInt (by omega)) (by decide : (0 : Int32).toInt = 0)).trans (decide_eq_true (by omega))) ?_
                  refine E_iload_n at_X6_set_47 rfl ?_
                  refine E_if (t := 61) (b := false) at_X6_set_48 rfl ((cn_lt (nI_toInt (by omega)) (by decide : (0 : Int32).toInt = 0)).trans (decide_eq_false (by omega))) ?_
                  refine E_iload_n at_X6_set_51 rfl ?_
                  refine E_aload_n at_X6_set_52 rfl ?_
                  refine E_getfield (v := .ref 78) at_X6_set_53 w65 rfl (by decide) rfl ?_
                  refine E_iload_n at_X6_set_56 rfl ?_
                  refine E_ialN (l := si) (v := si.getD a1k 0) at_X6_set_57 w78 (by omega) (by omega) rfl ?_
                  refine E_ic (t := 68) (b := true) at_X6_set_58 rfl ((cn_lt (nI_toInt (by omega)) (nI_toInt (by omega))).trans (decide_eq_true (by omega))) ?_
                  refine E_aload_n at_X6_set_68 rfl ?_
                  refine E_getfield (v := .ref 80) at_X6_set_69 w65 rfl (by decide) rfl ?_
                  refine E_sipush (x := nI 160) at_X6_set_72 (by decide) ?_
                  refine E_iload_n at_X6_set_75 rfl ?_
                  refine E_imul (z := nI (160 * a1k)) at_X6_set_76 (pk_mul _ _) ?_
                  refine E_iload_n at_X6_set_77 rfl ?_
                  refine E_iadd (z := nI ((160 * a1k) + a2k)) at_X6_set_78 (nI_add _ _) ?_
                  refine E_aload_n at_X6_set_79 rfl ?_
                  refine E_getfield (v := .ref 77) at_X6_set_80 w65 rfl (by decide) rfl ?_
                  refine E_iload_n at_X6_set_83 rfl ?_
                  refine E_ialN (l := so) (v := so.getD a1k 0) at_X6_set_84 w77 (by omega) (by omega) rfl ?_
                  refine E_if (t := 95) (b := true) at_X6_set_85 rfl ((cn_ne (nI_toInt (by omega)) (by decide : (0 : Int32).toInt = 0)).trans (decide_eq_true (by omega))) ?_
                  refine E_aload_n rfl rfl ?_
                  refine E_getfield (v := .ref 77) rfl w65 rfl (by decide) rfl ?_
                  refine E_iload_n rfl rfl ?_
                  refine E_ialN (l := so) (v := so.getD a1k 0) rfl w77 (by omega) (by omega) rfl ?_
                  refine E_iconst (x := nI 1) rfl (by decide) ?_
                  refine E_ic (t := 112) (b := false) rfl rfl ((cn_ne (nI_toInt (by omega)) (nI_toInt (by omega))).trans (decide_eq_false (by omega))) ?_
                  refine E_lload_n rfl rfl ?_
                  refine E_l2i (z := a3.toInt32) rfl rfl ?_
                  refine E_i2s (z := a3.toInt32.toInt16.toInt32) rfl rfl ?_
                  refine E_i2l (z := a3.toInt32.toInt16.toInt32.toInt64) rfl rfl ?_
                  refine E_goto (t := 129) rfl rfl ?_
                  refine E_lasL (l := ce) (cs2 := (ww im lf s d k ls rf rz ra rn rq lt m1 m2 m3 m4 bd fc hd sz (fUp el a1k ((el a1k).set a2k a3.toInt32.toInt16.toInt32.toInt64)) s g fm hm so si sh (ce.set ((160 * a1k) + a2k) a3.toInt32.toInt16.toInt32.toInt64) ca td wa kp la bf oo bo pw ow tr)) at_X6_set_129 w80 (by omega) (by omega) rfl ?_
                  refine E_iconst (x := nI 1) at_X6_set_130 (by decide) ?_
                  exact E_iret at_X6_set_131 rfl
                · exact ⟨I, rfl, hf, iQ, iM, iT, (iS_set iS (by omega) (by omega) (l_el _ (by omega)) (lr.2.2.2.2.2.2.2.2.2.1)), (l_elU l_el (by first | exact List.length_replicate | (simp only [List.length_set]; exact l_el _ (by omega)) | (rw [ab_cpl (by omega) (by omega)]; exact l_el _ (by omega)))), (lr.1), (lr.2.1), (lr.2.2.1), (lr.2.2.2.1), (lr.2.2.2.2.1), (lr.2.2.2.2.2.1), (lr.2.2.2.2.2.2.1), (lr.2.2.2.2.2.2.2.1), (lr.2.2.2.2.2.2.2.2.1), (by simp only [List.length_set]; exact (lr.2.2.2.2.2.2.2.2.2.1)), (lr.2.2.2.2.2.2.2.2.2.2.1), (lr.2.2.2.2.2.2.2.2.2.2.2.1), (lr.2.2.2.2.2.2.2.2.2.2.2.2.1), (lr.2.2.2.2.2.2.2.2.2.2.2.2.2.1), (lr.2.2.2.2.2.2.2.2.2.2.2.2.2.2.1), (lr.2.2.2.2.2.2.2.2.2.2.2.2.2.2.2.1), (lr.2.2.2.2.2.2.2.2.2.2.2.2.2.2.2.2.1), (lr.2.2.2.2.2.2.2.2.2.2.2.2.2.2.2.2.2.1), (lr.2.2.2.2.2.2.2.2.2.2.2.2.2.2.2.2.2.2.1), (lr.2.2.2.2.2.2.2.2.2.2.2.2.2.2.2.2.2.2.2.1), (lr.2.2.2.2.2.2.2.2.2.2.2.2.2.2.2.2.2.2.2.2)⟩
              · by_cases f7 : (so.getD a1k 0) = 2
                · have := l_el a1k (by omega)
                  refine ⟨(nI 1), (im, lf, s, d, k, ls, rf, rz, ra, rn, rq, lt, m1, m2, m3, m4, bd, fc, hd, sz, (fUp el a1k ((el a1k).set a2k a3.toInt32.toInt64)), s, g, fm, hm, so, si, sh, ce, ca, td, wa, kp, la, bf, oo, bo, pw, ow, tr), (im, lf, s, d, k, ls, rf, rz, ra, rn, rq, lt, m1, m2, m3, m4, bd, fc, hd, sz, (fUp el a1k ((el a1k).set a2k a3.toInt32.toInt64)), s, g, fm, hm, so, si, sh, (ce.set ((160 * a1k) + a2k) a3.toInt32.toInt64), ca, td, wa, kp, la, bf, oo, bo, pw, ow, tr), ?_, ?_, ?_⟩
                  · show Ev ab_Z0 3 77 [.ref 0, .int (nI a1k), .int (nI a2k), .long a3] (ww im lf s d k ls rf rz ra rn rq lt m1 m2 m3 m4 bd fc hd sz el s g fm hm so si sh ce ca td wa kp la bf oo bo pw ow tr) (some (.int (nI 1)), (ww im lf s d k ls rf rz ra rn rq lt m1 m2 m3 m4 bd fc hd sz (fUp el a1k ((el a1k).set a2k a3.toInt32.toInt64)) s g fm hm so si sh ce ca td wa kp la bf oo bo pw ow tr))
                    refine Ef.in (md := mX5_set) (L := [some (.ref 0), some (.int (nI a1k)), some (.int (nI a2k)), some (.long a3), none, none]) rfl (Nat.le_of_ble_eq_true rfl) rfl ?_
                    refine E_aload_n at_X5_set_0 rfl ?_
                    refine E_iload_n at_X5_set_1 rfl ?_
                    have e3 : Ev ab_Z0 2 119 [.ref 0, .int (nI a1k)] (ww im lf s d k ls rf rz ra rn rq lt m1 m2 m3 m4 bd fc hd sz el s g fm hm so si sh ce ca td wa kp la bf oo bo pw ow tr) (some (.int (nI 0)), (ww im lf s d k ls rf rz ra rn rq lt m1 m2 m3 m4 bd fc hd sz el s g fm hm so si sh ce ca td wa kp la bf oo bo pw ow tr)) := by
                      refine Ef.in (md := mX5_whyNoRow) (L := [some (.ref 0), some (.int (nI a1k))]) rfl (Nat.le_of_ble_eq_true rfl) rfl ?_
                      refine E_iload_n at_X5_whyNoRow_0 rfl ?_
                      refine E_callS (v := some (.int (nI 1))) (As := [.int (nI a1k)]) (r0 := []) (cs2 := (ww im lf s d k ls rf rz ra rn rq lt m1 m2 m3 m4 bd fc hd sz el s g fm hm so si sh ce ca td wa kp la bf oo bo pw ow tr)) at_X5_whyNoRow_1 rfl rfl (Nat.le_of_ble_eq_true rfl) rfl (L39_X5_isShelf (by omega) (by omega) (by omega)) (by decide) rfl ?_
                      refine E_if (t := 9) (b := true) at_X5_whyNoRow_4 rfl (by decide) ?_
                      refine E_aload_n at_X5_whyNoRow_9 rfl ?_
                      refine E_getfield (v := .ref 31) at_X5_whyNoRow_10 w0 rfl (by decide) rfl ?_
                      refine E_iload_n at_X5_whyNoRow_13 rfl ?_
                      refine E_aalN (b := 49 + 2 * a1k) at_X5_whyNoRow_14 w31 (by omega) (w_shs (by omega)) ?_
                      have e1 : Ev ab_Z0 1 33 [.ref (49 + 2 * a1k)] (ww im lf s d k ls rf rz ra rn rq lt m1 m2 m3 m4 bd fc hd sz el s g fm hm so si sh ce ca td wa kp la bf oo bo pw ow tr) (some (.int (nI 0)), (ww im lf s d k ls rf rz ra rn rq lt m1 m2 m3 m4 bd fc hd sz el s g fm hm so si sh ce ca td wa kp la bf oo bo pw ow tr)) := by
                        refine Ef.in (md := mX3_isOtherThanRow) (L := [some (.ref (49 + 2 * a1k))]) rfl (Nat.le_of_ble_eq_true rfl) rfl ?_
                        refine E_aload_n at_X3_isOtherThanRow_0 rfl ?_
                        refine E_getfield (v := .int (nI (100 + so.getD a1k 0))) at_X3_isOtherThanRow_1 (w_shv (j := a1k) (by omega) u1 u2) rfl (by decide) rfl ?_
                        refine E_if (t := 20) (b := false) at_X3_isOtherThanRow_4 rfl ((cn_lt (nI_toInt (by omega)) (by decide : (0 : Int32).toInt = 0)).trans (decide_eq_false (by omega))) ?_
                        refine E_aload_n at_X3_isOtherThanRow_7 rfl ?_
                        refine E_getfield (v := .int (nI (100 + so.getD a1k 0))) at_X3_isOtherThanRow_8 (w_shv (j := a1k) (by omega) u1 u2) rfl (by decide) rfl ?_
                        refine E_bipush (x := nI 100) at_X3_isOtherThanRow_11 (by decide) ?_
                        refine E_ic (t := 20) (b := true) at_X3_isOtherThanRow_13 rfl ((cn_ge (nI_toInt (by omega)) (nI_toInt (by omega))).trans (decide_eq_true (by omega))) ?_
                        refine E_iconst (x := nI 0) at_X3_isOtherThanRow_20 (by decide) ?_
                        exact E_iret at_X3_isOtherThanRow_21 rfl
                      refine E_callV (v := some (.int (nI 0))) (As := [.ref (49 + 2 * a1k)]) (r0 := []) (cs2 := (ww im lf s d k ls rf rz ra rn rq lt m1 m2 m3 m4 bd fc hd sz el s g fm hm so si sh ce ca td wa kp la bf oo bo pw ow tr)) at_X5_whyNoRow_15 rfl rfl (Nat.le_of_ble_eq_true rfl) rfl (ab_rvOf (w_shv (j := a1k) (by omega) u1 u2) rfl) e1 (by decide) rfl ?_
                      refine E_if (t := 23) (b := true) at_X5_whyNoRow_18 rfl (by decide) ?_
                      refine E_aload_n at_X5_whyNoRow_23 rfl ?_
                      refine E_getfield (v := .ref 31) at_X5_whyNoRow_24 w0 rfl (by decide) rfl ?_
                      refine E_iload_n at_X5_whyNoRow_27 rfl ?_
                      refine E_aalN (b := 49 + 2 * a1k) at_X5_whyNoRow_28 w31 (by omega) (w_shs (by omega)) ?_
                      have e2 : Ev ab_Z0 1 32 [.ref (49 + 2 * a1k)] (ww im lf s d k ls rf rz ra rn rq lt m1 m2 m3 m4 bd fc hd sz el s g fm hm so si sh ce ca td wa kp la bf oo bo pw ow tr) (some (.int (nI 0)), (ww im lf s d k ls rf rz ra rn rq lt m1 m2 m3 m4 bd fc hd sz el s g fm hm so si sh ce ca td wa kp la bf oo bo pw ow tr)) := by
                        refine Ef.in (md := mX3_isEmpty) (L := [some (.ref (49 + 2 * a1k))]) rfl (Nat.le_of_ble_eq_true rfl) rfl ?_
                        refine E_aload_n at_X3_isEmpty_0 rfl ?_
                        refine E_getfield (v := .int (nI (100 + so.getD a1k 0))) at_X3_isEmpty_1 (w_shv (j := a1k) (by omega) u1 u2) rfl (by decide) rfl ?_
                        refine E_iconst (x := (-1)) at_X3_isEmpty_4 (by decide) ?_
                        refine E_ic (t := 12) (b := true) at_X3_isEmpty_5 rfl ((cn_ne (nI_toInt (by omega)) (by decide : (-1 : Int32).toInt = -1)).trans (decide_eq_true (by omega))) ?_
                        refine E_iconst (x := nI 0) at_X3_isEmpty_12 (by decide) ?_
                        exact E_iret at_X3_isEmpty_13 rfl
                      refine E_callV (v := some (.int (nI 0))) (As := [.ref (49 + 2 * a1k)]) (r0 := []) (cs2 := (ww im lf s d k ls rf rz ra rn rq lt m1 m2 m3 m4 bd fc hd sz el s g fm hm so si sh ce ca td wa kp la bf oo bo pw ow tr)) at_X5_whyNoRow_29 rfl rfl (Nat.le_of_ble_eq_true rfl) rfl (ab_rvOf (w_shv (j := a1k) (by omega) u1 u2) rfl) e2 (by decide) rfl ?_
                      refine E_if (t := 39) (b := true) at_X5_whyNoRow_32 rfl (by decide) ?_
                      refine E_iconst (x := nI 0) at_X5_whyNoRow_39 (by decide) ?_
                      exact E_iret at_X5_whyNoRow_40 rfl
                    refine E_callV (v := some (.int (nI 0))) (As := [.ref 0, .int (nI a1k)]) (r0 := []) (cs2 := (ww im lf s d k ls rf rz ra rn rq lt m1 m2 m3 m4 bd fc hd sz el s g fm hm so si sh ce ca td wa kp la bf oo bo pw ow tr)) at_X5_set_2 rfl rfl (Nat.le_of_ble_eq_true rfl) rfl (ab_rvOf w0 rfl) e3 (by decide) rfl ?_
                    refine E_istore (L2 := [some (.ref 0), some (.int (nI a1k)), some (.int (nI a2k)), some (.long a3), none, some (.int (nI 0))]) at_X5_set_5 rfl ?_
                    refine E_iload at_X5_set_7 rfl ?_
                    refine E_if (t := 19) (b := true) at_X5_set_9 rfl (by decide) ?_
                    refine E_aload_n at_X5_set_19 rfl ?_
                    refine E_getfield (v := .ref 31) at_X5_set_20 w0 rfl (by decide) rfl ?_
                    refine E_iload_n at_X5_set_23 rfl ?_
                    refine E_aalN (b := 49 + 2 * a1k) at_X5_set_24 w31 (by omega) (w_shs (by omega)) ?_
                    refine E_iload_n at_X5_set_25 rfl ?_
                    have e4 : Ev ab_Z0 1 35 [.ref (49 + 2 * a1k), .int (nI a2k)] (ww im lf s d k ls rf rz ra rn rq lt m1 m2 m3 m4 bd fc hd sz el s g fm hm so si sh ce ca td wa kp la bf oo bo pw ow tr) (some (.int (nI 1)), (ww im lf s d k ls rf rz ra rn rq lt m1 m2 m3 m4 bd fc hd sz el s g fm hm so si sh ce ca td wa kp la bf oo bo pw ow tr)) := by
                      refine Ef.in (md := mX3_hasElement) (L := [some (.ref (49 + 2 * a1k)), some (.int (nI a2k))]) rfl (Nat.le_of_ble_eq_true rfl) rfl ?_
                      refine E_iload_n at_X3_hasElement_0 rfl ?_
                      refine E_if (t := 16) (b := false) at_X3_hasElement_1 rfl ((cn_lt (nI_toInt (by omega)) (by decide : (0 : Int32).toInt = 0)).trans (decide_eq_false (by omega))) ?_
                      refine E_iload_n at_X3_hasElement_4 rfl ?_
                      refine E_aload_n at_X3_hasElement_5 rfl ?_
                      refine E_getfield (v := .int (nI (si.getD a1k 0))) at_X3_hasElement_6 (w_shv (j := a1k) (by omega) u1 u2) rfl (by decide) rfl ?_
                      refine E_ic (t := 16) (b := false) at_X3_hasElement_9 rfl ((cn_ge (nI_toInt (by omega)) (nI_toInt (by omega))).trans (decide_eq_false (by omega))) ?_
                      refine E_iconst (x := nI 1) at_X3_hasElement_12 (by decide) ?_
                      refine E_goto (t := 17) at_X3_hasElement_13 rfl ?_
                      exact E_iret at_X3_hasElement_17 rfl
                    refine E_callV (v := some (.int (nI 1))) (As := [.ref (49 + 2 * a1k), .int (nI a2k)]) (r0 := []) (cs2 := (ww im lf s d k ls rf rz ra rn rq lt m1 m2 m3 m4 bd fc hd sz el s g fm hm so si sh ce ca td wa kp la bf oo bo pw ow tr)) at_X5_set_26 rfl rfl (Nat.le_of_ble_eq_true rfl) rfl (ab_rvOf (w_shv (j := a1k) (by omega) u1 u2) rfl) e4 (by decide) rfl ?_
                    refine E_if (t := 38) (b := true) at_X5_set_29 rfl (by decide) ?_
                    refine E_aload_n at_X5_set_38 rfl ?_
                    refine E_getfield (v := .ref 31) at_X5_set_39 w0 rfl (by decide) rfl ?_
                    refine E_iload_n at_X5_set_42 rfl ?_
                    refine E_aalN (b := 49 + 2 * a1k) at_X5_set_43 w31 (by omega) (w_shs (by omega)) ?_
                    refine E_iload_n at_X5_set_44 rfl ?_
                    refine E_lload_n at_X5_set_45 rfl ?_
                    have e7 : Ev ab_Z0 2 37 [.ref (49 + 2 * a1k), .int (nI a2k), .long a3] (ww im lf s d k ls rf rz ra rn rq lt m1 m2 m3 m4 bd fc hd sz el s g fm hm so si sh ce ca td wa kp la bf oo bo pw ow tr) (none, (ww im lf s d k ls rf rz ra rn rq lt m1 m2 m3 m4 bd fc hd sz (fUp el a1k ((el a1k).set a2k a3.toInt32.toInt64)) s g fm hm so si sh ce ca td wa kp la bf oo bo pw ow tr)) := by
                      refine Ef.in (md := mX3_put) (L := [some (.ref (49 + 2 * a1k)), some (.int (nI a2k)), some (.long a3), none]) rfl (Nat.le_of_ble_eq_true rfl) rfl ?_
                      refine E_aload_n at_X3_put_0 rfl ?_
                      refine E_iload_n at_X3_put_1 rfl ?_
                      have e5 : Ev ab_Z0 1 35 [.ref (49 + 2 * a1k), .int (nI a2k)] (ww im lf s d k ls rf rz ra rn rq lt m1 m2 m3 m4 bd fc hd sz el s g fm hm so si sh ce ca td wa kp la bf oo bo pw ow tr) (some (.int (nI 1)), (ww im lf s d k ls rf rz ra rn rq lt m1 m2 m3 m4 bd fc hd sz el s g fm hm so si sh ce ca td wa kp la bf oo bo pw ow tr)) := by
                        refine Ef.in (md := mX3_hasElement) (L := [some (.ref (49 + 2 * a1k)), some (.int (nI a2k))]) rfl (Nat.le_of_ble_eq_true rfl) rfl ?_
                        refine E_iload_n at_X3_hasElement_0 rfl ?_
                        refine E_if (t := 16) (b := false) at_X3_hasElement_1 rfl ((cn_lt (nI_toInt (by omega)) (by decide : (0 : Int32).toInt = 0)).trans (decide_eq_false (by omega))) ?_
                        refine E_iload_n at_X3_hasElement_4 rfl ?_
                        refine E_aload_n at_X3_hasElement_5 rfl ?_
                        refine E_getfield (v := .int (nI (si.getD a1k 0))) at_X3_hasElement_6 (w_shv (j := a1k) (by omega) u1 u2) rfl (by decide) rfl ?_
                        refine E_ic (t := 16) (b := false) at_X3_hasElement_9 rfl ((cn_ge (nI_toInt (by omega)) (nI_toInt (by omega))).trans (decide_eq_false (by omega))) ?_
                        refine E_iconst (x := nI 1) at_X3_hasElement_12 (by decide) ?_
                        refine E_goto (t := 17) at_X3_hasElement_13 rfl ?_
                        exact E_iret at_X3_hasElement_17 rfl
                      refine E_callV (v := some (.int (nI 1))) (As := [.ref (49 + 2 * a1k), .int (nI a2k)]) (r0 := []) (cs2 := (ww im lf s d k ls rf rz ra rn rq lt m1 m2 m3 m4 bd fc hd sz el s g fm hm so si sh ce ca td wa kp la bf oo bo pw ow tr)) at_X3_put_2 rfl rfl (Nat.le_of_ble_eq_true rfl) rfl (ab_rvOf (w_shv (j := a1k) (by omega) u1 u2) rfl) e5 (by decide) rfl ?_
                      refine E_if (t := 19) (b := false) at_X3_put_5 rfl (by decide) ?_
                      refine E_aload_n at_X3_put_8 rfl ?_
                      refine E_getfield (v := .ref (50 + 2 * a1k)) at_X3_put_9 (w_shv (j := a1k) (by omega) u1 u2) rfl (by decide) rfl ?_
                      refine E_iload_n at_X3_put_12 rfl ?_
                      refine E_aload_n at_X3_put_13 rfl ?_
                      refine E_lload_n at_X3_put_14 rfl ?_
                      have e6 : Ev ab_Z0 1 38 [.ref (49 + 2 * a1k), .long a3] (ww im lf s d k ls rf rz ra rn rq lt m1 m2 m3 m4 bd fc hd sz el s g fm hm so si sh ce ca td wa kp la bf oo bo pw ow tr) (some (.long a3.toInt32.toInt64), (ww im lf s d k ls rf rz ra rn rq lt m1 m2 m3 m4 bd fc hd sz el s g fm hm so si sh ce ca td wa kp la bf oo bo pw ow tr)) := by
                        refine Ef.in (md := mX3_lowestBits) (L := [some (.ref (49 + 2 * a1k)), some (.long a3), none]) rfl (Nat.le_of_ble_eq_true rfl) rfl ?_
                        refine E_aload_n at_X3_lowestBits_0 rfl ?_
                        refine E_getfield (v := .int (nI (100 + so.getD a1k 0))) at_X3_lowestBits_1 (w_shv (j := a1k) (by omega) u1 u2) rfl (by decide) rfl ?_
                        refine E_bipush (x := nI 100) at_X3_lowestBits_4 (by decide) ?_
                        refine E_isub (z := nI ((100 + so.getD a1k 0) - 100)) at_X3_lowestBits_6 (pk_sub (by omega)) ?_
                        refine E_tsIN (x := (100 + so.getD a1k 0) - 100) (c := 2) (off := 35) (t := 42) at_X3_lowestBits_7 (by omega) (by decide) rfl rfl ?_
                        refine E_lload_n rfl rfl ?_
                        refine E_l2i (z := a3.toInt32) rfl rfl ?_
                        refine E_i2l (z := a3.toInt32.toInt64) rfl rfl ?_
                        exact E_lret rfl rfl
                      refine E_callV (v := some (.long a3.toInt32.toInt64)) (As := [.ref (49 + 2 * a1k), .long a3]) (r0 := [.int (nI a2k), .ref (50 + 2 * a1k)]) (cs2 := (ww im lf s d k ls rf rz ra rn rq lt m1 m2 m3 m4 bd fc hd sz el s g fm hm so si sh ce ca td wa kp la bf oo bo pw ow tr)) at_X3_put_15 rfl rfl (Nat.le_of_ble_eq_true rfl) rfl (ab_rvOf (w_shv (j := a1k) (by omega) u1 u2) rfl) e6 (by decide) rfl ?_
                      refine E_lasL (l := el a1k) (cs2 := (ww im lf s d k ls rf rz ra rn rq lt m1 m2 m3 m4 bd fc hd sz (fUp el a1k ((el a1k).set a2k a3.toInt32.toInt64)) s g fm hm so si sh ce ca td wa kp la bf oo bo pw ow tr)) at_X3_put_18 (w_el (j := a1k) (by omega)) (by omega) (by omega) (w_elput (by omega)) ?_
                      exact E_vret at_X3_put_19 rfl
                    refine E_callV (v := none) (As := [.ref (49 + 2 * a1k), .int (nI a2k), .long a3]) (r0 := []) (cs2 := (ww im lf s d k ls rf rz ra rn rq lt m1 m2 m3 m4 bd fc hd sz (fUp el a1k ((el a1k).set a2k a3.toInt32.toInt64)) s g fm hm so si sh ce ca td wa kp la bf oo bo pw ow tr)) at_X5_set_46 rfl rfl (Nat.le_of_ble_eq_true rfl) rfl (ab_rvOf (w_shv (j := a1k) (by omega) u1 u2) rfl) e7 (by decide) w_lens ?_
                    refine E_iconst (x := nI 1) at_X5_set_49 (by decide) ?_
                    exact E_iret at_X5_set_50 rfl
                  · show Ev ab_Z0 2 136 [.ref 65, .int (nI a1k), .int (nI a2k), .long a3] (ww im lf s d k ls rf rz ra rn rq lt m1 m2 m3 m4 bd fc hd sz (fUp el a1k ((el a1k).set a2k a3.toInt32.toInt64)) s g fm hm so si sh ce ca td wa kp la bf oo bo pw ow tr) (some (.int (nI 1)), (ww im lf s d k ls rf rz ra rn rq lt m1 m2 m3 m4 bd fc hd sz (fUp el a1k ((el a1k).set a2k a3.toInt32.toInt64)) s g fm hm so si sh (ce.set ((160 * a1k) + a2k) a3.toInt32.toInt64) ca td wa kp la bf oo bo pw ow tr))
                    refine Ef.in (md := mX6_set) (L := [some (.ref 65), some (.int (nI a1k)), some (.int (nI a2k)), some (.long a3), none]) rfl (Nat.le_of_ble_eq_true rfl) rfl ?_
                    refine E_aload_n at_X6_set_0 rfl ?_
                    refine E_iload_n at_X6_set_1 rfl ?_
                    refine E_callV (v := some (.int (nI 1))) (As := [.ref 65, .int (nI a1k)]) (r0 := []) (cs2 := (ww im lf s d k ls rf rz ra rn rq lt m1 m2 m3 m4 bd fc hd sz (fUp el a1k ((el a1k).set a2k a3.toInt32.toInt64)) s g fm hm so si sh ce ca td wa kp la bf oo bo pw ow tr)) at_X6_set_2 rfl rfl (Nat.le_of_ble_eq_true rfl) rfl (ab_rvOf w65 rfl) (L40_X6_isShelf (by omega) (by omega) (by omega)) (by decide) rfl ?_
                    refine E_if (t := 14) (b := true) at_X6_set_5 rfl (by decide) ?_
                    refine E_aload_n at_X6_set_14 rfl ?_
                    refine E_getfield (v := .ref 76) at_X6_set_15 w65 rfl (by decide) rfl ?_
                    refine E_iload_n at_X6_set_18 rfl ?_
                    refine E_ialN (l := hm) (v := hm.getD a1k 0) at_X6_set_19 w76 (by omega) (by omega) rfl ?_
                    refine E_iconst (x := nI 2) at_X6_set_20 (by decide) ?_
                    refine E_ic (t := 31) (b := true) at_X6_set_21 rfl ((cn_ne (nI_toInt (by omega)) (nI_toInt (by omega))).trans (decide_eq_true (by omega))) ?_
                    refine E_aload_n at_X6_set_31 rfl ?_
                    refine E_getfield (v := .ref 76) at_X6_set_32 w65 rfl (by decide) rfl ?_
                    refine E_iload_n at_X6_set_35 rfl ?_
                    refine E_ialN (l := hm) (v := hm.getD a1k 0) at_X6_set_36 w76 (by omega) (by omega) rfl ?_
                    refine E_if (t := 47) (b := true) at_X6_set_37 rfl ((cn_ne (nI_toInt (by omega)) (by decide : (0 : Int32).toInt = 0)).trans (decide_eq_true (by omega))) ?_
                    refine E_iload_n at_X6_set_47 rfl ?_
                    refine E_if (t := 61) (b := false) at_X6_set_48 rfl ((cn_lt (nI_toInt (by omega)) (by decide : (0 : Int32).toInt = 0)).trans (decide_eq_false (by omega))) ?_
                    refine E_iload_n at_X6_set_51 rfl ?_
                    refine E_aload_n at_X6_set_52 rfl ?_
                    refine E_getfield (v := .ref 78) at_X6_set_53 w65 rfl (by decide) rfl ?_
                    refine E_iload_n at_X6_set_56 rfl ?_
                    refine E_ialN (l := si) (v := si.getD a1k 0) at_X6_set_57 w78 (by omega) (by omega) rfl ?_
                    refine E_ic (t := 68) (b := true) at_X6_set_58 rfl ((cn_lt (nI_toInt (by omega)) (nI_toInt (by omega))).trans (decide_eq_true (by omega))) ?_
                    refine E_aload_n at_X6_set_68 rfl ?_
                    refine E_getfield (v := .ref 80) at_X6_set_69 w65 rfl (by decide) rfl ?_
                    refine E_sipush (x := nI 160) at_X6_set_72 (by decide) ?_
                    refine E_iload_n at_X6_set_75 rfl ?_
                    refine E_imul (z := nI (160 * a1k)) at_X6_set_76 (pk_mul _ _) ?_
                    refine E_iload_n at_X6_set_77 rfl ?_
                    refine E_iadd (z := nI ((160 * a1k) + a2k)) at_X6_set_78 (nI_add _ _) ?_
                    refine E_aload_n at_X6_set_79 rfl ?_
                    refine E_getfield (v := .ref 77) at_X6_set_80 w65 rfl (by decide) rfl ?_
                    refine E_iload_n at_X6_set_83 rfl ?_
                    refine E_ialN (l := so) (v := so.getD a1k 0) at_X6_set_84 w77 (by omega) (by omega) rfl ?_
                    refine E_if (t := 95) (b := true) at_X6_set_85 rfl ((cn_ne (nI_toInt (by omega)) (by decide : (0 : Int32).toInt = 0)).trans (decide_eq_true (by omega))) ?_
                    refine E_aload_n rfl rfl ?_
                    refine E_getfield (v := .ref 77) rfl w65 rfl (by decide) rfl ?_
                    refine E_iload_n rfl rfl ?_
                    refine E_ialN (l := so) (v := so.getD a1k 0) rfl w77 (by omega) (by omega) rfl ?_
                    refine E_iconst (x := nI 1) rfl (by decide) ?_
                    refine E_ic (t := 112) (b := true) rfl rfl ((cn_ne (nI_toInt (by omega)) (nI_toInt (by omega))).trans (decide_eq_true (by omega))) ?_
                    refine E_aload_n rfl rfl ?_
                    refine E_getfield (v := .ref 77) rfl w65 rfl (by decide) rfl ?_
                    refine E_iload_n rfl rfl ?_
                    refine E_ialN (l := so) (v := so.getD a1k 0) rfl w77 (by omega) (by omega) rfl ?_
                    refine E_iconst (x := nI 2) rfl (by decide) ?_
                    refine E_ic (t := 128) (b := false) rfl rfl ((cn_ne (nI_toInt (by omega)) (nI_toInt (by omega))).trans (decide_eq_false (by omega))) ?_
                    refine E_lload_n rfl rfl ?_
                    refine E_l2i (z := a3.toInt32) rfl rfl ?_
                    refine E_i2l (z := a3.toInt32.toInt64) rfl rfl ?_
                    refine E_goto (t := 129) rfl rfl ?_
                    refine E_lasL (l := ce) (cs2 := (ww im lf s d k ls rf rz ra rn rq lt m1 m2 m3 m4 bd fc hd sz (fUp el a1k ((el a1k).set a2k a3.toInt32.toInt64)) s g fm hm so si sh (ce.set ((160 * a1k) + a2k) a3.toInt32.toInt64) ca td wa kp la bf oo bo pw ow tr)) at_X6_set_129 w80 (by omega) (by omega) rfl ?_
                    refine E_iconst (x := nI 1) at_X6_set_130 (by decide) ?_
                    exact E_iret at_X6_set_131 rfl
                  · exact ⟨I, rfl, hf, iQ, iM, iT, (iS_set iS (by omega) (by omega) (l_el _ (by omega)) (lr.2.2.2.2.2.2.2.2.2.1)), (l_elU l_el (by first | exact List.length_replicate | (simp only [List.length_set]; exact l_el _ (by omega)) | (rw [ab_cpl (by omega) (by omega)]; exact l_el _ (by omega)))), (lr.1), (lr.2.1), (lr.2.2.1), (lr.2.2.2.1), (lr.2.2.2.2.1), (lr.2.2.2.2.2.1), (lr.2.2.2.2.2.2.1), (lr.2.2.2.2.2.2.2.1), (lr.2.2.2.2.2.2.2.2.1), (by simp only [List.length_set]; exact (lr.2.2.2.2.2.2.2.2.2.1)), (lr.2.2.2.2.2.2.2.2.2.2.1), (lr.2.2.2.2.2.2.2.2.2.2.2.1), (lr.2.2.2.2.2.2.2.2.2.2.2.2.1), (lr.2.2.2.2.2.2.2.2.2.2.2.2.2.1), (lr.2.2.2.2.2.2.2.2.2.2.2.2.2.2.1), (lr.2.2.2.2.2.2.2.2.2.2.2.2.2.2.2.1), (lr.2.2.2.2.2.2.2.2.2.2.2.2.2.2.2.2.1), (lr.2.2.2.2.2.2.2.2.2.2.2.2.2.2.2.2.2.1), (lr.2.2.2.2.2.2.2.2.2.2.2.2.2.2.2.2.2.2.1), (lr.2.2.2.2.2.2.2.2.2.2.2.2.2.2.2.2.2.2.2.1), (lr.2.2.2.2.2.2.2.2.2.2.2.2.2.2.2.2.2.2.2.2)⟩
                · have := l_el a1k (by omega)
                  refine ⟨(nI 1), (im, lf, s, d, k, ls, rf, rz, ra, rn, rq, lt, m1, m2, m3, m4, bd, fc, hd, sz, (fUp el a1k ((el a1k).set a2k a3)), s, g, fm, hm, so, si, sh, ce, ca, td, wa, kp, la, bf, oo, bo, pw, ow, tr), (im, lf, s, d, k, ls, rf, rz, ra, rn, rq, lt, m1, m2, m3, m4, bd, fc, hd, sz, (fUp el a1k ((el a1k).set a2k a3)), s, g, fm, hm, so, si, sh, (ce.set ((160 * a1k) + a2k) a3), ca, td, wa, kp, la, bf, oo, bo, pw, ow, tr), ?_, ?_, ?_⟩
                  · show Ev ab_Z0 3 77 [.ref 0, .int (nI a1k), .int (nI a2k), .long a3] (ww im lf s d k ls rf rz ra rn rq lt m1 m2 m3 m4 bd fc hd sz el s g fm hm so si sh ce ca td wa kp la bf oo bo pw ow tr) (some (.int (nI 1)), (ww im lf s d k ls rf rz ra rn rq lt m1 m2 m3 m4 bd fc hd sz (fUp el a1k ((el a1k).set a2k a3)) s g fm hm so si sh ce ca td wa kp la bf oo bo pw ow tr))
                    refine Ef.in (md := mX5_set) (L := [some (.ref 0), some (.int (nI a1k)), some (.int (nI a2k)), some (.long a3), none, none]) rfl (Nat.le_of_ble_eq_true rfl) rfl ?_
                    refine E_aload_n at_X5_set_0 rfl ?_
                    refine E_iload_n at_X5_set_1 rfl ?_
                    have e3 : Ev ab_Z0 2 119 [.ref 0, .int (nI a1k)] (ww im lf s d k ls rf rz ra rn rq lt m1 m2 m3 m4 bd fc hd sz el s g fm hm so si sh ce ca td wa kp la bf oo bo pw ow tr) (some (.int (nI 0)), (ww im lf s d k ls rf rz ra rn rq lt m1 m2 m3 m4 bd fc hd sz el s g fm hm so si sh ce ca td wa kp la bf oo bo pw ow tr)) := by
                      refine Ef.in (md := mX5_whyNoRow) (L := [some (.ref 0), some (.int (nI a1k))]) rfl (Nat.le_of_ble_eq_true rfl) rfl ?_
                      refine E_iload_n at_X5_whyNoRow_0 rfl ?_
                      refine E_callS (v := some (.int (nI 1))) (As := [.int (nI a1k)]) (r0 := []) (cs2 := (ww im lf s d k ls rf rz ra rn rq lt m1 m2 m3 m4 bd fc hd sz el s g fm hm so si sh ce ca td wa kp la bf oo bo pw ow tr)) at_X5_whyNoRow_1 rfl rfl (Nat.le_of_ble_eq_true rfl) rfl (L39_X5_isShelf (by omega) (by omega) (by omega)) (by decide) rfl ?_
                      refine E_if (t := 9) (b := true) at_X5_whyNoRow_4 rfl (by decide) ?_
                      refine E_aload_n at_X5_whyNoRow_9 rfl ?_
                      refine E_getfield (v := .ref 31) at_X5_whyNoRow_10 w0 rfl (by decide) rfl ?_
                      refine E_iload_n at_X5_whyNoRow_13 rfl ?_
                      refine E_aalN (b := 49 + 2 * a1k) at_X5_whyNoRow_14 w31 (by omega) (w_shs (by omega)) ?_
                      have e1 : Ev ab_Z0 1 33 [.ref (49 + 2 * a1k)] (ww im lf s d k ls rf rz ra rn rq lt m1 m2 m3 m4 bd fc hd sz el s g fm hm so si sh ce ca td wa kp la bf oo bo pw ow tr) (some (.int (nI 0)), (ww im lf s d k ls rf rz ra rn rq lt m1 m2 m3 m4 bd fc hd sz el s g fm hm so si sh ce ca td wa kp la bf oo bo pw ow tr)) := by
                        refine Ef.in (md := mX3_isOtherThanRow) (L := [some (.ref (49 + 2 * a1k))]) rfl (Nat.le_of_ble_eq_true rfl) rfl ?_
                        refine E_aload_n at_X3_isOtherThanRow_0 rfl ?_
                        refine E_getfield (v := .int (nI (100 + so.getD a1k 0))) at_X3_isOtherThanRow_1 (w_shv (j := a1k) (by omega) u1 u2) rfl (by decide) rfl ?_
                        refine E_if (t := 20) (b := false) at_X3_isOtherThanRow_4 rfl ((cn_lt (nI_toInt (by omega)) (by decide : (0 : Int32).toInt = 0)).trans (decide_eq_false (by omega))) ?_
                        refine E_aload_n at_X3_isOtherThanRow_7 rfl ?_
                        refine E_getfield (v := .int (nI (100 + so.getD a1k 0))) at_X3_isOtherThanRow_8 (w_shv (j := a1k) (by omega) u1 u2) rfl (by decide) rfl ?_
                        refine E_bipush (x := nI 100) at_X3_isOtherThanRow_11 (by decide) ?_
                        refine E_ic (t := 20) (b := true) at_X3_isOtherThanRow_13 rfl ((cn_ge (nI_toInt (by omega)) (nI_toInt (by omega))).trans (decide_eq_true (by omega))) ?_
                        refine E_iconst (x := nI 0) at_X3_isOtherThanRow_20 (by decide) ?_
                        exact E_iret at_X3_isOtherThanRow_21 rfl
                      refine E_callV (v := some (.int (nI 0))) (As := [.ref (49 + 2 * a1k)]) (r0 := []) (cs2 := (ww im lf s d k ls rf rz ra rn rq lt m1 m2 m3 m4 bd fc hd sz el s g fm hm so si sh ce ca td wa kp la bf oo bo pw ow tr)) at_X5_whyNoRow_15 rfl rfl (Nat.le_of_ble_eq_true rfl) rfl (ab_rvOf (w_shv (j := a1k) (by omega) u1 u2) rfl) e1 (by decide) rfl ?_
                      refine E_if (t := 23) (b := true) at_X5_whyNoRow_18 rfl (by decide) ?_
                      refine E_aload_n at_X5_whyNoRow_23 rfl ?_
                      refine E_getfield (v := .ref 31) at_X5_whyNoRow_24 w0 rfl (by decide) rfl ?_
                      refine E_iload_n at_X5_whyNoRow_27 rfl ?_
                      refine E_aalN (b := 49 + 2 * a1k) at_X5_whyNoRow_28 w31 (by omega) (w_shs (by omega)) ?_
                      have e2 : Ev ab_Z0 1 32 [.ref (49 + 2 * a1k)] (ww im lf s d k ls rf rz ra rn rq lt m1 m2 m3 m4 bd fc hd sz el s g fm hm so si sh ce ca td wa kp la bf oo bo pw ow tr) (some (.int (nI 0)), (ww im lf s d k ls rf rz ra rn rq lt m1 m2 m3 m4 bd fc hd sz el s g fm hm so si sh ce ca td wa kp la bf oo bo pw ow tr)) := by
                        refine Ef.in (md := mX3_isEmpty) (L := [some (.ref (49 + 2 * a1k))]) rfl (Nat.le_of_ble_eq_true rfl) rfl ?_
                        refine E_aload_n at_X3_isEmpty_0 rfl ?_
                        refine E_getfield (v := .int (nI (100 + so.getD a1k 0))) at_X3_isEmpty_1 (w_shv (j := a1k) (by omega) u1 u2) rfl (by decide) rfl ?_
                        refine E_iconst (x := (-1)) at_X3_isEmpty_4 (by decide) ?_
                        refine E_ic (t := 12) (b := true) at_X3_isEmpty_5 rfl ((cn_ne (nI_toInt (by omega)) (by decide : (-1 : Int32).toInt = -1)).trans (decide_eq_true (by omega))) ?_
                        refine E_iconst (x := nI 0) at_X3_isEmpty_12 (by decide) ?_
                        exact E_iret at_X3_isEmpty_13 rfl
                      refine E_callV (v := some (.int (nI 0))) (As := [.ref (49 + 2 * a1k)]) (r0 := []) (cs2 := (ww im lf s d k ls rf rz ra rn rq lt m1 m2 m3 m4 bd fc hd sz el s g fm hm so si sh ce ca td wa kp la bf oo bo pw ow tr)) at_X5_whyNoRow_29 rfl rfl (Nat.le_of_ble_eq_true rfl) rfl (ab_rvOf (w_shv (j := a1k) (by omega) u1 u2) rfl) e2 (by decide) rfl ?_
                      refine E_if (t := 39) (b := true) at_X5_whyNoRow_32 rfl (by decide) ?_
                      refine E_iconst (x := nI 0) at_X5_whyNoRow_39 (by decide) ?_
                      exact E_iret at_X5_whyNoRow_40 rfl
                    refine E_callV (v := some (.int (nI 0))) (As := [.ref 0, .int (nI a1k)]) (r0 := []) (cs2 := (ww im lf s d k ls rf rz ra rn rq lt m1 m2 m3 m4 bd fc hd sz el s g fm hm so si sh ce ca td wa kp la bf oo bo pw ow tr)) at_X5_set_2 rfl rfl (Nat.le_of_ble_eq_true rfl) rfl (ab_rvOf w0 rfl) e3 (by decide) rfl ?_
                    refine E_istore (L2 := [some (.ref 0), some (.int (nI a1k)), some (.int (nI a2k)), some (.long a3), none, some (.int (nI 0))]) at_X5_set_5 rfl ?_
                    refine E_iload at_X5_set_7 rfl ?_
                    refine E_if (t := 19) (b := true) at_X5_set_9 rfl (by decide) ?_
                    refine E_aload_n at_X5_set_19 rfl ?_
                    refine E_getfield (v := .ref 31) at_X5_set_20 w0 rfl (by decide) rfl ?_
                    refine E_iload_n at_X5_set_23 rfl ?_
                    refine E_aalN (b := 49 + 2 * a1k) at_X5_set_24 w31 (by omega) (w_shs (by omega)) ?_
                    refine E_iload_n at_X5_set_25 rfl ?_
                    have e4 : Ev ab_Z0 1 35 [.ref (49 + 2 * a1k), .int (nI a2k)] (ww im lf s d k ls rf rz ra rn rq lt m1 m2 m3 m4 bd fc hd sz el s g fm hm so si sh ce ca td wa kp la bf oo bo pw ow tr) (some (.int (nI 1)), (ww im lf s d k ls rf rz ra rn rq lt m1 m2 m3 m4 bd fc hd sz el s g fm hm so si sh ce ca td wa kp la bf oo bo pw ow tr)) := by
                      refine Ef.in (md := mX3_hasElement) (L := [some (.ref (49 + 2 * a1k)), some (.int (nI a2k))]) rfl (Nat.le_of_ble_eq_true rfl) rfl ?_
                      refine E_iload_n at_X3_hasElement_0 rfl ?_
                      refine E_if (t := 16) (b := false) at_X3_hasElement_1 rfl ((cn_lt (nI_toInt (by omega)) (by decide : (0 : Int32).toInt = 0)).trans (decide_eq_false (by omega))) ?_
                      refine E_iload_n at_X3_hasElement_4 rfl ?_
                      refine E_aload_n at_X3_hasElement_5 rfl ?_
                      refine E_getfield (v := .int (nI (si.getD a1k 0))) at_X3_hasElement_6 (w_shv (j := a1k) (by omega) u1 u2) rfl (by decide) rfl ?_
                      refine E_ic (t := 16) (b := false) at_X3_hasElement_9 rfl ((cn_ge (nI_toInt (by omega)) (nI_toInt (by omega))).trans (decide_eq_false (by omega))) ?_
                      refine E_iconst (x := nI 1) at_X3_hasElement_12 (by decide) ?_
                      refine E_goto (t := 17) at_X3_hasElement_13 rfl ?_
                      exact E_iret at_X3_hasElement_17 rfl
                    refine E_callV (v := some (.int (nI 1))) (As := [.ref (49 + 2 * a1k), .int (nI a2k)]) (r0 := []) (cs2 := (ww im lf s d k ls rf rz ra rn rq lt m1 m2 m3 m4 bd fc hd sz el s g fm hm so si sh ce ca td wa kp la bf oo bo pw ow tr)) at_X5_set_26 rfl rfl (Nat.le_of_ble_eq_true rfl) rfl (ab_rvOf (w_shv (j := a1k) (by omega) u1 u2) rfl) e4 (by decide) rfl ?_
                    refine E_if (t := 38) (b := true) at_X5_set_29 rfl (by decide) ?_
                    refine E_aload_n at_X5_set_38 rfl ?_
                    refine E_getfield (v := .ref 31) at_X5_set_39 w0 rfl (by decide) rfl ?_
                    refine E_iload_n at_X5_set_42 rfl ?_
                    refine E_aalN (b := 49 + 2 * a1k) at_X5_set_43 w31 (by omega) (w_shs (by omega)) ?_
                    refine E_iload_n at_X5_set_44 rfl ?_
                    refine E_lload_n at_X5_set_45 rfl ?_
                    have e7 : Ev ab_Z0 2 37 [.ref (49 + 2 * a1k), .int (nI a2k), .long a3] (ww im lf s d k ls rf rz ra rn rq lt m1 m2 m3 m4 bd fc hd sz el s g fm hm so si sh ce ca td wa kp la bf oo bo pw ow tr) (none, (ww im lf s d k ls rf rz ra rn rq lt m1 m2 m3 m4 bd fc hd sz (fUp el a1k ((el a1k).set a2k a3)) s g fm hm so si sh ce ca td wa kp la bf oo bo pw ow tr)) := by
                      refine Ef.in (md := mX3_put) (L := [some (.ref (49 + 2 * a1k)), some (.int (nI a2k)), some (.long a3), none]) rfl (Nat.le_of_ble_eq_true rfl) rfl ?_
                      refine E_aload_n at_X3_put_0 rfl ?_
                      refine E_iload_n at_X3_put_1 rfl ?_
                      have e5 : Ev ab_Z0 1 35 [.ref (49 + 2 * a1k), .int (nI a2k)] (ww im lf s d k ls rf rz ra rn rq lt m1 m2 m3 m4 bd fc hd sz el s g fm hm so si sh ce ca td wa kp la bf oo bo pw ow tr) (some (.int (nI 1)), (ww im lf s d k ls rf rz ra rn rq lt m1 m2 m3 m4 bd fc hd sz el s g fm hm so si sh ce ca td wa kp la bf oo bo pw ow tr)) := by
                        refine Ef.in (md := mX3_hasElement) (L := [some (.ref (49 + 2 * a1k)), some (.int (nI a2k))]) rfl (Nat.le_of_ble_eq_true rfl) rfl ?_
                        refine E_iload_n at_X3_hasElement_0 rfl ?_
                        refine E_if (t := 16) (b := false) at_X3_hasElement_1 rfl ((cn_lt (nI_toInt (by omega)) (by decide : (0 : Int32).toInt = 0)).trans (decide_eq_false (by omega))) ?_
                        refine E_iload_n at_X3_hasElement_4 rfl ?_
                        refine E_aload_n at_X3_hasElement_5 rfl ?_
                        refine E_getfield (v := .int (nI (si.getD a1k 0))) at_X3_hasElement_6 (w_shv (j := a1k) (by omega) u1 u2) rfl (by decide) rfl ?_
                        refine E_ic (t := 16) (b := false) at_X3_hasElement_9 rfl ((cn_ge (nI_toInt (by omega)) (nI_toInt (by omega))).trans (decide_eq_false (by omega))) ?_
                        refine E_iconst (x := nI 1) at_X3_hasElement_12 (by decide) ?_
                        refine E_goto (t := 17) at_X3_hasElement_13 rfl ?_
                        exact E_iret at_X3_hasElement_17 rfl
                      refine E_callV (v := some (.int (nI 1))) (As := [.ref (49 + 2 * a1k), .int (nI a2k)]) (r0 := []) (cs2 := (ww im lf s d k ls rf rz ra rn rq lt m1 m2 m3 m4 bd fc hd sz el s g fm hm so si sh ce ca td wa kp la bf oo bo pw ow tr)) at_X3_put_2 rfl rfl (Nat.le_of_ble_eq_true rfl) rfl (ab_rvOf (w_shv (j := a1k) (by omega) u1 u2) rfl) e5 (by decide) rfl ?_
                      refine E_if (t := 19) (b := false) at_X3_put_5 rfl (by decide) ?_
                      refine E_aload_n at_X3_put_8 rfl ?_
                      refine E_getfield (v := .ref (50 + 2 * a1k)) at_X3_put_9 (w_shv (j := a1k) (by omega) u1 u2) rfl (by decide) rfl ?_
                      refine E_iload_n at_X3_put_12 rfl ?_
                      refine E_aload_n at_X3_put_13 rfl ?_
                      refine E_lload_n at_X3_put_14 rfl ?_
                      have e6 : Ev ab_Z0 1 38 [.ref (49 + 2 * a1k), .long a3] (ww im lf s d k ls rf rz ra rn rq lt m1 m2 m3 m4 bd fc hd sz el s g fm hm so si sh ce ca td wa kp la bf oo bo pw ow tr) (some (.long a3), (ww im lf s d k ls rf rz ra rn rq lt m1 m2 m3 m4 bd fc hd sz el s g fm hm so si sh ce ca td wa kp la bf oo bo pw ow tr)) := by
                        refine Ef.in (md := mX3_lowestBits) (L := [some (.ref (49 + 2 * a1k)), some (.long a3), none]) rfl (Nat.le_of_ble_eq_true rfl) rfl ?_
                        refine E_aload_n at_X3_lowestBits_0 rfl ?_
                        refine E_getfield (v := .int (nI (100 + so.getD a1k 0))) at_X3_lowestBits_1 (w_shv (j := a1k) (by omega) u1 u2) rfl (by decide) rfl ?_
                        refine E_bipush (x := nI 100) at_X3_lowestBits_4 (by decide) ?_
                        refine E_isub (z := nI ((100 + so.getD a1k 0) - 100)) at_X3_lowestBits_6 (pk_sub (by omega)) ?_
                        refine E_tsOut (t := 46) at_X3_lowestBits_7 (ab_tsO (nI_toInt (by omega)) (by omega)) rfl ?_
                        refine E_lload_n rfl rfl ?_
                        exact E_lret rfl rfl
                      refine E_callV (v := some (.long a3)) (As := [.ref (49 + 2 * a1k), .long a3]) (r0 := [.int (nI a2k), .ref (50 + 2 * a1k)]) (cs2 := (ww im lf s d k ls rf rz ra rn rq lt m1 m2 m3 m4 bd fc hd sz el s g fm hm so si sh ce ca td wa kp la bf oo bo pw ow tr)) at_X3_put_15 rfl rfl (Nat.le_of_ble_eq_true rfl) rfl (ab_rvOf (w_shv (j := a1k) (by omega) u1 u2) rfl) e6 (by decide) rfl ?_
                      refine E_lasL (l := el a1k) (cs2 := (ww im lf s d k ls rf rz ra rn rq lt m1 m2 m3 m4 bd fc hd sz (fUp el a1k ((el a1k).set a2k a3)) s g fm hm so si sh ce ca td wa kp la bf oo bo pw ow tr)) at_X3_put_18 (w_el (j := a1k) (by omega)) (by omega) (by omega) (w_elput (by omega)) ?_
                      exact E_vret at_X3_put_19 rfl
                    refine E_callV (v := none) (As := [.ref (49 + 2 * a1k), .int (nI a2k), .long a3]) (r0 := []) (cs2 := (ww im lf s d k ls rf rz ra rn rq lt m1 m2 m3 m4 bd fc hd sz (fUp el a1k ((el a1k).set a2k a3)) s g fm hm so si sh ce ca td wa kp la bf oo bo pw ow tr)) at_X5_set_46 rfl rfl (Nat.le_of_ble_eq_true rfl) rfl (ab_rvOf (w_shv (j := a1k) (by omega) u1 u2) rfl) e7 (by decide) w_lens ?_
                    refine E_iconst (x := nI 1) at_X5_set_49 (by decide) ?_
                    exact E_iret at_X5_set_50 rfl
                  · show Ev ab_Z0 2 136 [.ref 65, .int (nI a1k), .int (nI a2k), .long a3] (ww im lf s d k ls rf rz ra rn rq lt m1 m2 m3 m4 bd fc hd sz (fUp el a1k ((el a1k).set a2k a3)) s g fm hm so si sh ce ca td wa kp la bf oo bo pw ow tr) (some (.int (nI 1)), (ww im lf s d k ls rf rz ra rn rq lt m1 m2 m3 m4 bd fc hd sz (fUp el a1k ((el a1k).set a2k a3)) s g fm hm so si sh (ce.set ((160 * a1k) + a2k) a3) ca td wa kp la bf oo bo pw ow tr))
                    refine Ef.in (md := mX6_set) (L := [some (.ref 65), some (.int (nI a1k)), some (.int (nI a2k)), some (.long a3), none]) rfl (Nat.le_of_ble_eq_true rfl) rfl ?_
                    refine E_aload_n at_X6_set_0 rfl ?_
                    refine E_iload_n at_X6_set_1 rfl ?_
                    refine E_callV (v := some (.int (nI 1))) (As := [.ref 65, .int (nI a1k)]) (r0 := []) (cs2 := (ww im lf s d k ls rf rz ra rn rq lt m1 m2 m3 m4 bd fc hd sz (fUp el a1k ((el a1k).set a2k a3)) s g fm hm so si sh ce ca td wa kp la bf oo bo pw ow tr)) at_X6_set_2 rfl rfl (Nat.le_of_ble_eq_true rfl) rfl (ab_rvOf w65 rfl) (L40_X6_isShelf (by omega) (by omega) (by omega)) (by decide) rfl ?_
                    refine E_if (t := 14) (b := true) at_X6_set_5 rfl (by decide) ?_
                    refine E_aload_n at_X6_set_14 rfl ?_
                    refine E_getfield (v := .ref 76) at_X6_set_15 w65 rfl (by decide) rfl ?_
                    refine E_iload_n at_X6_set_18 rfl ?_
                    refine E_ialN (l := hm) (v := hm.getD a1k 0) at_X6_set_19 w76 (by omega) (by omega) rfl ?_
                    refine E_iconst (x := nI 2) at_X6_set_20 (by decide) ?_
                    refine E_ic (t := 31) (b := true) at_X6_set_21 rfl ((cn_ne (nI_toInt (by omega)) (nI_toInt (by omega))).trans (decide_eq_true (by omega))) ?_
                    refine E_aload_n at_X6_set_31 rfl ?_
                    refine E_getfield (v := .ref 76) at_X6_set_32 w65 rfl (by decide) rfl ?_
                    refine E_iload_n at_X6_set_35 rfl ?_
                    refine E_ialN (l := hm) (v := hm.getD a1k 0) at_X6_set_36 w76 (by omega) (by omega) rfl ?_
                    refine E_if (t := 47) (b := true) at_X6_set_37 rfl ((cn_ne (nI_toInt (by omega)) (by decide : (0 : Int32).toInt = 0)).trans (decide_eq_true (by omega))) ?_
                    refine E_iload_n at_X6_set_47 rfl ?_
                    refine E_if (t := 61) (b := false) at_X6_set_48 rfl ((cn_lt (nI_toInt (by omega)) (by decide : (0 : Int32).toInt = 0)).trans (decide_eq_false (by omega))) ?_
                    refine E_iload_n at_X6_set_51 rfl ?_
                    refine E_aload_n at_X6_set_52 rfl ?_
                    refine E_getfield (v := .ref 78) at_X6_set_53 w65 rfl (by decide) rfl ?_
                    refine E_iload_n at_X6_set_56 rfl ?_
                    refine E_ialN (l := si) (v := si.getD a1k 0) at_X6_set_57 w78 (by omega) (by omega) rfl ?_
                    refine E_ic (t := 68) (b := true) at_X6_set_58 rfl ((cn_lt (nI_toInt (by omega)) (nI_toInt (by omega))).trans (decide_eq_true (by omega))) ?_
                    refine E_aload_n at_X6_set_68 rfl ?_
                    refine E_getfield (v := .ref 80) at_X6_set_69 w65 rfl (by decide) rfl ?_
                    refine E_sipush (x := nI 160) at_X6_set_72 (by decide) ?_
                    refine E_iload_n at_X6_set_75 rfl ?_
                    refine E_imul (z := nI (160 * a1k)) at_X6_set_76 (pk_mul _ _) ?_
                    refine E_iload_n at_X6_set_77 rfl ?_
                    refine E_iadd (z := nI ((160 * a1k) + a2k)) at_X6_set_78 (nI_add _ _) ?_
                    refine E_aload_n at_X6_set_79 rfl ?_
                    refine E_getfield (v := .ref 77) at_X6_set_80 w65 rfl (by decide) rfl ?_
                    refine E_iload_n at_X6_set_83 rfl ?_
                    refine E_ialN (l := so) (v := so.getD a1k 0) at_X6_set_84 w77 (by omega) (by omega) rfl ?_
                    refine E_if (t := 95) (b := true) at_X6_set_85 rfl ((cn_ne (nI_toInt (by omega)) (by decide : (0 : Int32).toInt = 0)).trans (decide_eq_true (by omega))) ?_
                    refine E_aload_n rfl rfl ?_
                    refine E_getfield (v := .ref 77) rfl w65 rfl (by decide) rfl ?_
                    refine E_iload_n rfl rfl ?_
                    refine E_ialN (l := so) (v := so.getD a1k 0) rfl w77 (by omega) (by omega) rfl ?_
                    refine E_iconst (x := nI 1) rfl (by decide) ?_
                    refine E_ic (t := 112) (b := true) rfl rfl ((cn_ne (nI_toInt (by omega)) (nI_toInt (by omega))).trans (decide_eq_true (by omega))) ?_
                    refine E_aload_n rfl rfl ?_
                    refine E_getfield (v := .ref 77) rfl w65 rfl (by decide) rfl ?_
                    refine E_iload_n rfl rfl ?_
                    refine E_ialN (l := so) (v := so.getD a1k 0) rfl w77 (by omega) (by omega) rfl ?_
                    refine E_iconst (x := nI 2) rfl (by decide) ?_
                    refine E_ic (t := 128) (b := true) rfl rfl ((cn_ne (nI_toInt (by omega)) (nI_toInt (by omega))).trans (decide_eq_true (by omega))) ?_
                    refine E_lload_n rfl rfl ?_
                    refine E_lasL (l := ce) (cs2 := (ww im lf s d k ls rf rz ra rn rq lt m1 m2 m3 m4 bd fc hd sz (fUp el a1k ((el a1k).set a2k a3)) s g fm hm so si sh (ce.set ((160 * a1k) + a2k) a3) ca td wa kp la bf oo bo pw ow tr)) at_X6_set_129 w80 (by omega) (by omega) rfl ?_
                    refine E_iconst (x := nI 1) at_X6_set_130 (by decide) ?_
                    exact E_iret at_X6_set_131 rfl
                  · exact ⟨I, rfl, hf, iQ, iM, iT, (iS_set iS (by omega) (by omega) (l_el _ (by omega)) (lr.2.2.2.2.2.2.2.2.2.1)), (l_elU l_el (by first | exact List.length_replicate | (simp only [List.length_set]; exact l_el _ (by omega)) | (rw [ab_cpl (by omega) (by omega)]; exact l_el _ (by omega)))), (lr.1), (lr.2.1), (lr.2.2.1), (lr.2.2.2.1), (lr.2.2.2.2.1), (lr.2.2.2.2.2.1), (lr.2.2.2.2.2.2.1), (lr.2.2.2.2.2.2.2.1), (lr.2.2.2.2.2.2.2.2.1), (by simp only [List.length_set]; exact (lr.2.2.2.2.2.2.2.2.2.1)), (lr.2.2.2.2.2.2.2.2.2.2.1), (lr.2.2.2.2.2.2.2.2.2.2.2.1), (lr.2.2.2.2.2.2.2.2.2.2.2.2.1), (lr.2.2.2.2.2.2.2.2.2.2.2.2.2.1), (lr.2.2.2.2.2.2.2.2.2.2.2.2.2.2.1), (lr.2.2.2.2.2.2.2.2.2.2.2.2.2.2.2.1), (lr.2.2.2.2.2.2.2.2.2.2.2.2.2.2.2.2.1), (lr.2.2.2.2.2.2.2.2.2.2.2.2.2.2.2.2.2.1), (lr.2.2.2.2.2.2.2.2.2.2.2.2.2.2.2.2.2.2.1), (lr.2.2.2.2.2.2.2.2.2.2.2.2.2.2.2.2.2.2.2.1), (lr.2.2.2.2.2.2.2.2.2.2.2.2.2.2.2.2.2.2.2.2)⟩
          · refine ⟨(-5), (im, lf, s, d, k, ls, rf, rz, ra, rn, rq, lt, m1, m2, m3, m4, bd, (fc.set 5 ((fc.getD 5 0) + (nI 1))), hd, sz, el, s, g, fm, hm, so, si, sh, ce, ca, td, wa, kp, la, bf, oo, bo, pw, ow, tr), (im, lf, s, d, k, ls, rf, rz, ra, rn, rq, lt, m1, m2, m3, m4, bd, (fc.set 5 ((fc.getD 5 0) + (nI 1))), hd, sz, el, s, g, (fm.set 5 ((fm.getD 5 0) + (nI 1))), hm, so, si, sh, ce, ca, td, wa, kp, la, bf, oo, bo, pw, ow, tr), ?_, ?_, ?_⟩
            · show Ev ab_Z0 3 77 [.ref 0, .int (nI a1k), .int (nI a2k), .long a3] (ww im lf s d k ls rf rz ra rn rq lt m1 m2 m3 m4 bd fc hd sz el s g fm hm so si sh ce ca td wa kp la bf oo bo pw ow tr) (some (.int (-5)), (ww im lf s d k ls rf rz ra rn rq lt m1 m2 m3 m4 bd (fc.set 5 ((fc.getD 5 0) + (nI 1))) hd sz el s g fm hm so si sh ce ca td wa kp la bf oo bo pw ow tr))
              refine Ef.in (md := mX5_set) (L := [some (.ref 0), some (.int (nI a1k)), some (.int (nI a2k)), some (.long a3), none, none]) rfl (Nat.le_of_ble_eq_true rfl) rfl ?_
              refine E_aload_n at_X5_set_0 rfl ?_
              refine E_iload_n at_X5_set_1 rfl ?_
              have e3 : Ev ab_Z0 2 119 [.ref 0, .int (nI a1k)] (ww im lf s d k ls rf rz ra rn rq lt m1 m2 m3 m4 bd fc hd sz el s g fm hm so si sh ce ca td wa kp la bf oo bo pw ow tr) (some (.int (nI 0)), (ww im lf s d k ls rf rz ra rn rq lt m1 m2 m3 m4 bd fc hd sz el s g fm hm so si sh ce ca td wa kp la bf oo bo pw ow tr)) := by
                refine Ef.in (md := mX5_whyNoRow) (L := [some (.ref 0), some (.int (nI a1k))]) rfl (Nat.le_of_ble_eq_true rfl) rfl ?_
                refine E_iload_n at_X5_whyNoRow_0 rfl ?_
                refine E_callS (v := some (.int (nI 1))) (As := [.int (nI a1k)]) (r0 := []) (cs2 := (ww im lf s d k ls rf rz ra rn rq lt m1 m2 m3 m4 bd fc hd sz el s g fm hm so si sh ce ca td wa kp la bf oo bo pw ow tr)) at_X5_whyNoRow_1 rfl rfl (Nat.le_of_ble_eq_true rfl) rfl (L39_X5_isShelf (by omega) (by omega) (by omega)) (by decide) rfl ?_
                refine E_if (t := 9) (b := true) at_X5_whyNoRow_4 rfl (by decide) ?_
                refine E_aload_n at_X5_whyNoRow_9 rfl ?_
                refine E_getfield (v := .ref 31) at_X5_whyNoRow_10 w0 rfl (by decide) rfl ?_
                refine E_iload_n at_X5_whyNoRow_13 rfl ?_
                refine E_aalN (b := 49 + 2 * a1k) at_X5_whyNoRow_14 w31 (by omega) (w_shs (by omega)) ?_
                have e1 : Ev ab_Z0 1 33 [.ref (49 + 2 * a1k)] (ww im lf s d k ls rf rz ra rn rq lt m1 m2 m3 m4 bd fc hd sz el s g fm hm so si sh ce ca td wa kp la bf oo bo pw ow tr) (some (.int (nI 0)), (ww im lf s d k ls rf rz ra rn rq lt m1 m2 m3 m4 bd fc hd sz el s g fm hm so si sh ce ca td wa kp la bf oo bo pw ow tr)) := by
                  refine Ef.in (md := mX3_isOtherThanRow) (L := [some (.ref (49 + 2 * a1k))]) rfl (Nat.le_of_ble_eq_true rfl) rfl ?_
                  refine E_aload_n at_X3_isOtherThanRow_0 rfl ?_
                  refine E_getfield (v := .int (nI (100 + so.getD a1k 0))) at_X3_isOtherThanRow_1 (w_shv (j := a1k) (by omega) u1 u2) rfl (by decide) rfl ?_
                  refine E_if (t := 20) (b := false) at_X3_isOtherThanRow_4 rfl ((cn_lt (nI_toInt (by omega)) (by decide : (0 : Int32).toInt = 0)).trans (decide_eq_false (by omega))) ?_
                  refine E_aload_n at_X3_isOtherThanRow_7 rfl ?_
                  refine E_getfield (v := .int (nI (100 + so.getD a1k 0))) at_X3_isOtherThanRow_8 (w_shv (j := a1k) (by omega) u1 u2) rfl (by decide) rfl ?_
                  refine E_bipush (x := nI 100) at_X3_isOtherThanRow_11 (by decide) ?_
                  refine E_ic (t := 20) (b := true) at_X3_isOtherThanRow_13 rfl ((cn_ge (nI_toInt (by omega)) (nI_toInt (by omega))).trans (decide_eq_true (by omega))) ?_
                  refine E_iconst (x := nI 0) at_X3_isOtherThanRow_20 (by decide) ?_
                  exact E_iret at_X3_isOtherThanRow_21 rfl
                refine E_callV (v := some (.int (nI 0))) (As := [.ref (49 + 2 * a1k)]) (r0 := []) (cs2 := (ww im lf s d k ls rf rz ra rn rq lt m1 m2 m3 m4 bd fc hd sz el s g fm hm so si sh ce ca td wa kp la bf oo bo pw ow tr)) at_X5_whyNoRow_15 rfl rfl (Nat.le_of_ble_eq_true rfl) rfl (ab_rvOf (w_shv (j := a1k) (by omega) u1 u2) rfl) e1 (by decide) rfl ?_
                refine E_if (t := 23) (b := true) at_X5_whyNoRow_18 rfl (by decide) ?_
                refine E_aload_n at_X5_whyNoRow_23 rfl ?_
                refine E_getfield (v := .ref 31) at_X5_whyNoRow_24 w0 rfl (by decide) rfl ?_
                refine E_iload_n at_X5_whyNoRow_27 rfl ?_
                refine E_aalN (b := 49 + 2 * a1k) at_X5_whyNoRow_28 w31 (by omega) (w_shs (by omega)) ?_
                have e2 : Ev ab_Z0 1 32 [.ref (49 + 2 * a1k)] (ww im lf s d k ls rf rz ra rn rq lt m1 m2 m3 m4 bd fc hd sz el s g fm hm so si sh ce ca td wa kp la bf oo bo pw ow tr) (some (.int (nI 0)), (ww im lf s d k ls rf rz ra rn rq lt m1 m2 m3 m4 bd fc hd sz el s g fm hm so si sh ce ca td wa kp la bf oo bo pw ow tr)) := by
                  refine Ef.in (md := mX3_isEmpty) (L := [some (.ref (49 + 2 * a1k))]) rfl (Nat.le_of_ble_eq_true rfl) rfl ?_
                  refine E_aload_n at_X3_isEmpty_0 rfl ?_
                  refine E_getfield (v := .int (nI (100 + so.getD a1k 0))) at_X3_isEmpty_1 (w_shv (j := a1k) (by omega) u1 u2) rfl (by decide) rfl ?_
                  refine E_iconst (x := (-1)) at_X3_isEmpty_4 (by decide) ?_
                  refine E_ic (t := 12) (b := true) at_X3_isEmpty_5 rfl ((cn_ne (nI_toInt (by omega)) (by decide : (-1 : Int32).toInt = -1)).trans (decide_eq_true (by omega))) ?_
                  refine E_iconst (x := nI 0) at_X3_isEmpty_12 (by decide) ?_
                  exact E_iret at_X3_isEmpty_13 rfl
                refine E_callV (v := some (.int (nI 0))) (As := [.ref (49 + 2 * a1k)]) (r0 := []) (cs2 := (ww im lf s d k ls rf rz ra rn rq lt m1 m2 m3 m4 bd fc hd sz el s g fm hm so si sh ce ca td wa kp la bf oo bo pw ow tr)) at_X5_whyNoRow_29 rfl rfl (Nat.le_of_ble_eq_true rfl) rfl (ab_rvOf (w_shv (j := a1k) (by omega) u1 u2) rfl) e2 (by decide) rfl ?_
                refine E_if (t := 39) (b := true) at_X5_whyNoRow_32 rfl (by decide) ?_
                refine E_iconst (x := nI 0) at_X5_whyNoRow_39 (by decide) ?_
                exact E_iret at_X5_whyNoRow_40 rfl
              refine E_callV (v := some (.int (nI 0))) (As := [.ref 0, .int (nI a1k)]) (r0 := []) (cs2 := (ww im lf s d k ls rf rz ra rn rq lt m1 m2 m3 m4 bd fc hd sz el s g fm hm so si sh ce ca td wa kp la bf oo bo pw ow tr)) at_X5_set_2 rfl rfl (Nat.le_of_ble_eq_true rfl) rfl (ab_rvOf w0 rfl) e3 (by decide) rfl ?_
              refine E_istore (L2 := [some (.ref 0), some (.int (nI a1k)), some (.int (nI a2k)), some (.long a3), none, some (.int (nI 0))]) at_X5_set_5 rfl ?_
              refine E_iload at_X5_set_7 rfl ?_
              refine E_if (t := 19) (b := true) at_X5_set_9 rfl (by decide) ?_
              refine E_aload_n at_X5_set_19 rfl ?_
              refine E_getfield (v := .ref 31) at_X5_set_20 w0 rfl (by decide) rfl ?_
              refine E_iload_n at_X5_set_23 rfl ?_
              refine E_aalN (b := 49 + 2 * a1k) at_X5_set_24 w31 (by omega) (w_shs (by omega)) ?_
              refine E_iload_n at_X5_set_25 rfl ?_
              have e4 : Ev ab_Z0 1 35 [.ref (49 + 2 * a1k), .int (nI a2k)] (ww im lf s d k ls rf rz ra rn rq lt m1 m2 m3 m4 bd fc hd sz el s g fm hm so si sh ce ca td wa kp la bf oo bo pw ow tr) (some (.int (nI 0)), (ww im lf s d k ls rf rz ra rn rq lt m1 m2 m3 m4 bd fc hd sz el s g fm hm so si sh ce ca td wa kp la bf oo bo pw ow tr)) := by
                refine Ef.in (md := mX3_hasElement) (L := [some (.ref (49 + 2 * a1k)), some (.int (nI a2k))]) rfl (Nat.le_of_ble_eq_true rfl) rfl ?_
                refine E_iload_n at_X3_hasElement_0 rfl ?_
                refine E_if (t := 16) (b := false) at_X3_hasElement_1 rfl ((cn_lt (nI_toInt (by omega)) (by decide : (0 : Int32).toInt = 0)).trans (decide_eq_false (by omega))) ?_
                refine E_iload_n at_X3_hasElement_4 rfl ?_
                refine E_aload_n at_X3_hasElement_5 rfl ?_
                refine E_getfield (v := .int (nI (si.getD a1k 0))) at_X3_hasElement_6 (w_shv (j := a1k) (by omega) u1 u2) rfl (by decide) rfl ?_
                refine E_ic (t := 16) (b := true) at_X3_hasElement_9 rfl ((cn_ge (nI_toInt (by omega)) (nI_toInt (by omega))).trans (decide_eq_true (by omega))) ?_
                refine E_iconst (x := nI 0) at_X3_hasElement_16 (by decide) ?_
                exact E_iret at_X3_hasElement_17 rfl
              refine E_callV (v := some (.int (nI 0))) (As := [.ref (49 + 2 * a1k), .int (nI a2k)]) (r0 := []) (cs2 := (ww im lf s d k ls rf rz ra rn rq lt m1 m2 m3 m4 bd fc hd sz el s g fm hm so si sh ce ca td wa kp la bf oo bo pw ow tr)) at_X5_set_26 rfl rfl (Nat.le_of_ble_eq_true rfl) rfl (ab_rvOf (w_shv (j := a1k) (by omega) u1 u2) rfl) e4 (by decide) rfl ?_
              refine E_if (t := 38) (b := false) at_X5_set_29 rfl (by decide) ?_
              refine E_aload_n rfl rfl ?_
              refine E_iconst (x := nI 5) rfl (by decide) ?_
              refine E_callV (v := some (.int (-5))) (As := [.ref 0, .int (nI 5)]) (r0 := []) (cs2 := (ww im lf s d k ls rf rz ra rn rq lt m1 m2 m3 m4 bd (fc.set 5 ((fc.getD 5 0) + (nI 1))) hd sz el s g fm hm so si sh ce ca td wa kp la bf oo bo pw ow tr)) rfl rfl rfl (Nat.le_of_ble_eq_true rfl) rfl (ab_rvOf w0 rfl) (L18_X5_refuse (by omega)) (by decide) w_lens ?_
              exact E_iret rfl rfl
            · show Ev ab_Z0 2 136 [.ref 65, .int (nI a1k), .int (nI a2k), .long a3] (ww im lf s d k ls rf rz ra rn rq lt m1 m2 m3 m4 bd (fc.set 5 ((fc.getD 5 0) + (nI 1))) hd sz el s g fm hm so si sh ce ca td wa kp la bf oo bo pw ow tr) (some (.int (-5)), (ww im lf s d k ls rf rz ra rn rq lt m1 m2 m3 m4 bd (fc.set 5 ((fc.getD 5 0) + (nI 1))) hd sz el s g (fm.set 5 ((fm.getD 5 0) + (nI 1))) hm so si sh ce ca td wa kp la bf oo bo pw ow tr))
              refine Ef.in (md := mX6_set) (L := [some (.ref 65), some (.int (nI a1k)), some (.int (nI a2k)), some (.long a3), none]) rfl (Nat.le_of_ble_eq_true rfl) rfl ?_
              refine E_aload_n at_X6_set_0 rfl ?_
              refine E_iload_n at_X6_set_1 rfl ?_
              refine E_callV (v := some (.int (nI 1))) (As := [.ref 65, .int (nI a1k)]) (r0 := []) (cs2 := (ww im lf s d k ls rf rz ra rn rq lt m1 m2 m3 m4 bd (fc.set 5 ((fc.getD 5 0) + (nI 1))) hd sz el s g fm hm so si sh ce ca td wa kp la bf oo bo pw ow tr)) at_X6_set_2 rfl rfl (Nat.le_of_ble_eq_true rfl) rfl (ab_rvOf w65 rfl) (L40_X6_isShelf (by omega) (by omega) (by omega)) (by decide) rfl ?_
              refine E_if (t := 14) (b := true) at_X6_set_5 rfl (by decide) ?_
              refine E_aload_n at_X6_set_14 rfl ?_
              refine E_getfield (v := .ref 76) at_X6_set_15 w65 rfl (by decide) rfl ?_
              refine E_iload_n at_X6_set_18 rfl ?_
              refine E_ialN (l := hm) (v := hm.getD a1k 0) at_X6_set_19 w76 (by omega) (by omega) rfl ?_
              refine E_iconst (x := nI 2) at_X6_set_20 (by decide) ?_
              refine E_ic (t := 31) (b := true) at_X6_set_21 rfl ((cn_ne (nI_toInt (by omega)) (nI_toInt (by omega))).trans (decide_eq_true (by omega))) ?_
              refine E_aload_n at_X6_set_31 rfl ?_
              refine E_getfield (v := .ref 76) at_X6_set_32 w65 rfl (by decide) rfl ?_
              refine E_iload_n at_X6_set_35 rfl ?_
              refine E_ialN (l := hm) (v := hm.getD a1k 0) at_X6_set_36 w76 (by omega) (by omega) rfl ?_
              refine E_if (t := 47) (b := true) at_X6_set_37 rfl ((cn_ne (nI_toInt (by omega)) (by decide : (0 : Int32).toInt = 0)).trans (decide_eq_true (by omega))) ?_
              refine E_iload_n at_X6_set_47 rfl ?_
              refine E_if (t := 61) (b := false) at_X6_set_48 rfl ((cn_lt (nI_toInt (by omega)) (by decide : (0 : Int32).toInt = 0)).trans (decide_eq_false (by omega))) ?_
              refine E_iload_n at_X6_set_51 rfl ?_
              refine E_aload_n at_X6_set_52 rfl ?_
              refine E_getfield (v := .ref 78) at_X6_set_53 w65 rfl (by decide) rfl ?_
              refine E_iload_n at_X6_set_56 rfl ?_
              refine E_ialN (l := si) (v := si.getD a1k 0) at_X6_set_57 w78 (by omega) (by omega) rfl ?_
              refine E_ic (t := 68) (b := false) at_X6_set_58 rfl ((cn_lt (nI_toInt (by omega)) (nI_toInt (by omega))).trans (decide_eq_false (by omega))) ?_
              refine E_aload_n rfl rfl ?_
              refine E_bipush (x := (-5)) rfl (by decide) ?_
              refine E_callV (v := some (.int (-5))) (As := [.ref 65, .int (-5)]) (r0 := []) (cs2 := (ww im lf s d k ls rf rz ra rn rq lt m1 m2 m3 m4 bd (fc.set 5 ((fc.getD 5 0) + (nI 1))) hd sz el s g (fm.set 5 ((fm.getD 5 0) + (nI 1))) hm so si sh ce ca td wa kp la bf oo bo pw ow tr)) rfl rfl rfl (Nat.le_of_ble_eq_true rfl) rfl (ab_rvOf w65 rfl) (L19_X6_no (by omega)) (by decide) w_lens ?_
              exact E_iret rfl rfl
            · exact ⟨I, rfl, hf, iQ, iM, iT, iS, l_el, (lr.1), (lr.2.1), (lr.2.2.1), (by simp only [List.length_set]; exact (lr.2.2.2.1)), (by simp only [List.length_set]; exact (lr.2.2.2.2.1)), (lr.2.2.2.2.2.1), (lr.2.2.2.2.2.2.1), (lr.2.2.2.2.2.2.2.1), (lr.2.2.2.2.2.2.2.2.1), (lr.2.2.2.2.2.2.2.2.2.1), (lr.2.2.2.2.2.2.2.2.2.2.1), (lr.2.2.2.2.2.2.2.2.2.2.2.1), (lr.2.2.2.2.2.2.2.2.2.2.2.2.1), (lr.2.2.2.2.2.2.2.2.2.2.2.2.2.1), (lr.2.2.2.2.2.2.2.2.2.2.2.2.2.2.1), (lr.2.2.2.2.2.2.2.2.2.2.2.2.2.2.2.1), (lr.2.2.2.2.2.2.2.2.2.2.2.2.2.2.2.2.1), (lr.2.2.2.2.2.2.2.2.2.2.2.2.2.2.2.2.2.1), (lr.2.2.2.2.2.2.2.2.2.2.2.2.2.2.2.2.2.2.1), (lr.2.2.2.2.2.2.2.2.2.2.2.2.2.2.2.2.2.2.2.1), (lr.2.2.2.2.2.2.2.2.2.2.2.2.2.2.2.2.2.2.2.2)⟩
        · refine ⟨(-5), (im, lf, s, d, k, ls, rf, rz, ra, rn, rq, lt, m1, m2, m3, m4, bd, (fc.set 5 ((fc.getD 5 0) + (nI 1))), hd, sz, el, s, g, fm, hm, so, si, sh, ce, ca, td, wa, kp, la, bf, oo, bo, pw, ow, tr), (im, lf, s, d, k, ls, rf, rz, ra, rn, rq, lt, m1, m2, m3, m4, bd, (fc.set 5 ((fc.getD 5 0) + (nI 1))), hd, sz, el, s, g, (fm.set 5 ((fm.getD 5 0) + (nI 1))), hm, so, si, sh, ce, ca, td, wa, kp, la, bf, oo, bo, pw, ow, tr), ?_, ?_, ?_⟩
          · show Ev ab_Z0 3 77 [.ref 0, .int (nI a1k), .int a2, .long a3] (ww im lf s d k ls rf rz ra rn rq lt m1 m2 m3 m4 bd fc hd sz el s g fm hm so si sh ce ca td wa kp la bf oo bo pw ow tr) (some (.int (-5)), (ww im lf s d k ls rf rz ra rn rq lt m1 m2 m3 m4 bd (fc.set 5 ((fc.getD 5 0) + (nI 1))) hd sz el s g fm hm so si sh ce ca td wa kp la bf oo bo pw ow tr))
            refine Ef.in (md := mX5_set) (L := [some (.ref 0), some (.int (nI a1k)), some (.int a2), some (.long a3), none, none]) rfl (Nat.le_of_ble_eq_true rfl) rfl ?_
            refine E_aload_n at_X5_set_0 rfl ?_
            refine E_iload_n at_X5_set_1 rfl ?_
            have e3 : Ev ab_Z0 2 119 [.ref 0, .int (nI a1k)] (ww im lf s d k ls rf rz ra rn rq lt m1 m2 m3 m4 bd fc hd sz el s g fm hm so si sh ce ca td wa kp la bf oo bo pw ow tr) (some (.int (nI 0)), (ww im lf s d k ls rf rz ra rn rq lt m1 m2 m3 m4 bd fc hd sz el s g fm hm so si sh ce ca td wa kp la bf oo bo pw ow tr)) := by
              refine Ef.in (md := mX5_whyNoRow) (L := [some (.ref 0), some (.int (nI a1k))]) rfl (Nat.le_of_ble_eq_true rfl) rfl ?_
              refine E_iload_n at_X5_whyNoRow_0 rfl ?_
              refine E_callS (v := some (.int (nI 1))) (As := [.int (nI a1k)]) (r0 := []) (cs2 := (ww im lf s d k ls rf rz ra rn rq lt m1 m2 m3 m4 bd fc hd sz el s g fm hm so si sh ce ca td wa kp la bf oo bo pw ow tr)) at_X5_whyNoRow_1 rfl rfl (Nat.le_of_ble_eq_true rfl) rfl (L39_X5_isShelf (by omega) (by omega) (by omega)) (by decide) rfl ?_
              refine E_if (t := 9) (b := true) at_X5_whyNoRow_4 rfl (by decide) ?_
              refine E_aload_n at_X5_whyNoRow_9 rfl ?_
              refine E_getfield (v := .ref 31) at_X5_whyNoRow_10 w0 rfl (by decide) rfl ?_
              refine E_iload_n at_X5_whyNoRow_13 rfl ?_
              refine E_aalN (b := 49 + 2 * a1k) at_X5_whyNoRow_14 w31 (by omega) (w_shs (by omega)) ?_
              have e1 : Ev ab_Z0 1 33 [.ref (49 + 2 * a1k)] (ww im lf s d k ls rf rz ra rn rq lt m1 m2 m3 m4 bd fc hd sz el s g fm hm so si sh ce ca td wa kp la bf oo bo pw ow tr) (some (.int (nI 0)), (ww im lf s d k ls rf rz ra rn rq lt m1 m2 m3 m4 bd fc hd sz el s g fm hm so si sh ce ca td wa kp la bf oo bo pw ow tr)) := by
                refine Ef.in (md := mX3_isOtherThanRow) (L := [some (.ref (49 + 2 * a1k))]) rfl (Nat.le_of_ble_eq_true rfl) rfl ?_
                refine E_aload_n at_X3_isOtherThanRow_0 rfl ?_
                refine E_getfield (v := .int (nI (100 + so.getD a1k 0))) at_X3_isOtherThanRow_1 (w_shv (j := a1k) (by omega) u1 u2) rfl (by decide) rfl ?_
                refine E_if (t := 20) (b := false) at_X3_isOtherThanRow_4 rfl ((cn_lt (nI_toInt (by omega)) (by decide : (0 : Int32).toInt = 0)).trans (decide_eq_false (by omega))) ?_
                refine E_aload_n at_X3_isOtherThanRow_7 rfl ?_
                refine E_getfield (v := .int (nI (100 + so.getD a1k 0))) at_X3_isOtherThanRow_8 (w_shv (j := a1k) (by omega) u1 u2) rfl (by decide) rfl ?_
                refine E_bipush (x := nI 100) at_X3_isOtherThanRow_11 (by decide) ?_
                refine E_ic (t := 20) (b := true) at_X3_isOtherThanRow_13 rfl ((cn_ge (nI_toInt (by omega)) (nI_toInt (by omega))).trans (decide_eq_true (by omega))) ?_
                refine E_iconst (x := nI 0) at_X3_isOtherThanRow_20 (by decide) ?_
                exact E_iret at_X3_isOtherThanRow_21 rfl
              refine E_callV (v := some (.int (nI 0))) (As := [.ref (49 + 2 * a1k)]) (r0 := []) (cs2 := (ww im lf s d k ls rf rz ra rn rq lt m1 m2 m3 m4 bd fc hd sz el s g fm hm so si sh ce ca td wa kp la bf oo bo pw ow tr)) at_X5_whyNoRow_15 rfl rfl (Nat.le_of_ble_eq_true rfl) rfl (ab_rvOf (w_shv (j := a1k) (by omega) u1 u2) rfl) e1 (by decide) rfl ?_
              refine E_if (t := 23) (b := true) at_X5_whyNoRow_18 rfl (by decide) ?_
              refine E_aload_n at_X5_whyNoRow_23 rfl ?_
              refine E_getfield (v := .ref 31) at_X5_whyNoRow_24 w0 rfl (by decide) rfl ?_
              refine E_iload_n at_X5_whyNoRow_27 rfl ?_
              refine E_aalN (b := 49 + 2 * a1k) at_X5_whyNoRow_28 w31 (by omega) (w_shs (by omega)) ?_
              have e2 : Ev ab_Z0 1 32 [.ref (49 + 2 * a1k)] (ww im lf s d k ls rf rz ra rn rq lt m1 m2 m3 m4 bd fc hd sz el s g fm hm so si sh ce ca td wa kp la bf oo bo pw ow tr) (some (.int (nI 0)), (ww im lf s d k ls rf rz ra rn rq lt m1 m2 m3 m4 bd fc hd sz el s g fm hm so si sh ce ca td wa kp la bf oo bo pw ow tr)) := by
                refine Ef.in (md := mX3_isEmpty) (L := [some (.ref (49 + 2 * a1k))]) rfl (Nat.le_of_ble_eq_true rfl) rfl ?_
                refine E_aload_n at_X3_isEmpty_0 rfl ?_
                refine E_getfield (v := .int (nI (100 + so.getD a1k 0))) at_X3_isEmpty_1 (w_shv (j := a1k) (by omega) u1 u2) rfl (by decide) rfl ?_
                refine E_iconst (x := (-1)) at_X3_isEmpty_4 (by decide) ?_
                refine E_ic (t := 12) (b := true) at_X3_isEmpty_5 rfl ((cn_ne (nI_toInt (by omega)) (by decide : (-1 : Int32).toInt = -1)).trans (decide_eq_true (by omega))) ?_
                refine E_iconst (x := nI 0) at_X3_isEmpty_12 (by decide) ?_
                exact E_iret at_X3_isEmpty_13 rfl
              refine E_callV (v := some (.int (nI 0))) (As := [.ref (49 + 2 * a1k)]) (r0 := []) (cs2 := (ww im lf s d k ls rf rz ra rn rq lt m1 m2 m3 m4 bd fc hd sz el s g fm hm so si sh ce ca td wa kp la bf oo bo pw ow tr)) at_X5_whyNoRow_29 rfl rfl (Nat.le_of_ble_eq_true rfl) rfl (ab_rvOf (w_shv (j := a1k) (by omega) u1 u2) rfl) e2 (by decide) rfl ?_
              refine E_if (t := 39) (b := true) at_X5_whyNoRow_32 rfl (by decide) ?_
              refine E_iconst (x := nI 0) at_X5_whyNoRow_39 (by decide) ?_
              exact E_iret at_X5_whyNoRow_40 rfl
            refine E_callV (v := some (.int (nI 0))) (As := [.ref 0, .int (nI a1k)]) (r0 := []) (cs2 := (ww im lf s d k ls rf rz ra rn rq lt m1 m2 m3 m4 bd fc hd sz el s g fm hm so si sh ce ca td wa kp la bf oo bo pw ow tr)) at_X5_set_2 rfl rfl (Nat.le_of_ble_eq_true rfl) rfl (ab_rvOf w0 rfl) e3 (by decide) rfl ?_
            refine E_istore (L2 := [some (.ref 0), some (.int (nI a1k)), some (.int a2), some (.long a3), none, some (.int (nI 0))]) at_X5_set_5 rfl ?_
            refine E_iload at_X5_set_7 rfl ?_
            refine E_if (t := 19) (b := true) at_X5_set_9 rfl (by decide) ?_
            refine E_aload_n at_X5_set_19 rfl ?_
            refine E_getfield (v := .ref 31) at_X5_set_20 w0 rfl (by decide) rfl ?_
            refine E_iload_n at_X5_set_23 rfl ?_
            refine E_aalN (b := 49 + 2 * a1k) at_X5_set_24 w31 (by omega) (w_shs (by omega)) ?_
            refine E_iload_n at_X5_set_25 rfl ?_
            have e4 : Ev ab_Z0 1 35 [.ref (49 + 2 * a1k), .int a2] (ww im lf s d k ls rf rz ra rn rq lt m1 m2 m3 m4 bd fc hd sz el s g fm hm so si sh ce ca td wa kp la bf oo bo pw ow tr) (some (.int (nI 0)), (ww im lf s d k ls rf rz ra rn rq lt m1 m2 m3 m4 bd fc hd sz el s g fm hm so si sh ce ca td wa kp la bf oo bo pw ow tr)) := by
              refine Ef.in (md := mX3_hasElement) (L := [some (.ref (49 + 2 * a1k)), some (.int a2)]) rfl (Nat.le_of_ble_eq_true rfl) rfl ?_
              refine E_iload_n at_X3_hasElement_0 rfl ?_
              refine E_if (t := 16) (b := true) at_X3_hasElement_1 rfl ((cn_lt rfl (by decide : (0 : Int32).toInt = 0)).trans (decide_eq_true (by omega))) ?_
              refine E_iconst (x := nI 0) at_X3_hasElement_16 (by decide) ?_
              exact E_iret at_X3_hasElement_17 rfl
            refine E_callV (v := some (.int (nI 0))) (As := [.ref (49 + 2 * a1k), .int a2]) (r0 := []) (cs2 := (ww im lf s d k ls rf rz ra rn rq lt m1 m2 m3 m4 bd fc hd sz el s g fm hm so si sh ce ca td wa kp la bf oo bo pw ow tr)) at_X5_set_26 rfl rfl (Nat.le_of_ble_eq_true rfl) rfl (ab_rvOf (w_shv (j := a1k) (by omega) u1 u2) rfl) e4 (by decide) rfl ?_
            refine E_if (t := 38) (b := false) at_X5_set_29 rfl (by decide) ?_
            refine E_aload_n rfl rfl ?_
            refine E_iconst (x := nI 5) rfl (by decide) ?_
            refine E_callV (v := some (.int (-5))) (As := [.ref 0, .int (nI 5)]) (r0 := []) (cs2 := (ww im lf s d k ls rf rz ra rn rq lt m1 m2 m3 m4 bd (fc.set 5 ((fc.getD 5 0) + (nI 1))) hd sz el s g fm hm so si sh ce ca td wa kp la bf oo bo pw ow tr)) rfl rfl rfl (Nat.le_of_ble_eq_true rfl) rfl (ab_rvOf w0 rfl) (L18_X5_refuse (by omega)) (by decide) w_lens ?_
            exact E_iret rfl rfl
          · show Ev ab_Z0 2 136 [.ref 65, .int (nI a1k), .int a2, .long a3] (ww im lf s d k ls rf rz ra rn rq lt m1 m2 m3 m4 bd (fc.set 5 ((fc.getD 5 0) + (nI 1))) hd sz el s g fm hm so si sh ce ca td wa kp la bf oo bo pw ow tr) (some (.int (-5)), (ww im lf s d k ls rf rz ra rn rq lt m1 m2 m3 m4 bd (fc.set 5 ((fc.getD 5 0) + (nI 1))) hd sz el s g (fm.set 5 ((fm.getD 5 0) + (nI 1))) hm so si sh ce ca td wa kp la bf oo bo pw ow tr))
            refine Ef.in (md := mX6_set) (L := [some (.ref 65), some (.int (nI a1k)), some (.int a2), some (.long a3), none]) rfl (Nat.le_of_ble_eq_true rfl) rfl ?_
            refine E_aload_n at_X6_set_0 rfl ?_
            refine E_iload_n at_X6_set_1 rfl ?_
            refine E_callV (v := some (.int (nI 1))) (As := [.ref 65, .int (nI a1k)]) (r0 := []) (cs2 := (ww im lf s d k ls rf rz ra rn rq lt m1 m2 m3 m4 bd (fc.set 5 ((fc.getD 5 0) + (nI 1))) hd sz el s g fm hm so si sh ce ca td wa kp la bf oo bo pw ow tr)) at_X6_set_2 rfl rfl (Nat.le_of_ble_eq_true rfl) rfl (ab_rvOf w65 rfl) (L40_X6_isShelf (by omega) (by omega) (by omega)) (by decide) rfl ?_
            refine E_if (t := 14) (b := true) at_X6_set_5 rfl (by decide) ?_
            refine E_aload_n at_X6_set_14 rfl ?_
            refine E_getfield (v := .ref 76) at_X6_set_15 w65 rfl (by decide) rfl ?_
            refine E_iload_n at_X6_set_18 rfl ?_
            refine E_ialN (l := hm) (v := hm.getD a1k 0) at_X6_set_19 w76 (by omega) (by omega) rfl ?_
            refine E_iconst (x := nI 2) at_X6_set_20 (by decide) ?_
            refine E_ic (t := 31) (b := true) at_X6_set_21 rfl ((cn_ne (nI_toInt (by omega)) (nI_toInt (by omega))).trans (decide_eq_true (by omega))) ?_
            refine E_aload_n at_X6_set_31 rfl ?_
            refine E_getfield (v := .ref 76) at_X6_set_32 w65 rfl (by decide) rfl ?_
            refine E_iload_n at_X6_set_35 rfl ?_
            refine E_ialN (l := hm) (v := hm.getD a1k 0) at_X6_set_36 w76 (by omega) (by omega) rfl ?_
            refine E_if (t := 47) (b := true) at_X6_set_37 rfl ((cn_ne (nI_toInt (by omega)) (by decide : (0 : Int32).toInt = 0)).trans (decide_eq_true (by omega))) ?_
            refine E_iload_n at_X6_set_47 rfl ?_
            refine E_if (t := 61) (b := true) at_X6_set_48 rfl ((cn_lt rfl (by decide : (0 : Int32).toInt = 0)).trans (decide_eq_true (by omega))) ?_
            refine E_aload_n rfl rfl ?_
            refine E_bipush (x := (-5)) rfl (by decide) ?_
            refine E_callV (v := some (.int (-5))) (As := [.ref 65, .int (-5)]) (r0 := []) (cs2 := (ww im lf s d k ls rf rz ra rn rq lt m1 m2 m3 m4 bd (fc.set 5 ((fc.getD 5 0) + (nI 1))) hd sz el s g (fm.set 5 ((fm.getD 5 0) + (nI 1))) hm so si sh ce ca td wa kp la bf oo bo pw ow tr)) rfl rfl rfl (Nat.le_of_ble_eq_true rfl) rfl (ab_rvOf w65 rfl) (L19_X6_no (by omega)) (by decide) w_lens ?_
            exact E_iret rfl rfl
          · exact ⟨I, rfl, hf, iQ, iM, iT, iS, l_el, (lr.1), (lr.2.1), (lr.2.2.1), (by simp only [List.length_set]; exact (lr.2.2.2.1)), (by simp only [List.length_set]; exact (lr.2.2.2.2.1)), (lr.2.2.2.2.2.1), (lr.2.2.2.2.2.2.1), (lr.2.2.2.2.2.2.2.1), (lr.2.2.2.2.2.2.2.2.1), (lr.2.2.2.2.2.2.2.2.2.1), (lr.2.2.2.2.2.2.2.2.2.2.1), (lr.2.2.2.2.2.2.2.2.2.2.2.1), (lr.2.2.2.2.2.2.2.2.2.2.2.2.1), (lr.2.2.2.2.2.2.2.2.2.2.2.2.2.1), (lr.2.2.2.2.2.2.2.2.2.2.2.2.2.2.1), (lr.2.2.2.2.2.2.2.2.2.2.2.2.2.2.2.1), (lr.2.2.2.2.2.2.2.2.2.2.2.2.2.2.2.2.1), (lr.2.2.2.2.2.2.2.2.2.2.2.2.2.2.2.2.2.1), (lr.2.2.2.2.2.2.2.2.2.2.2.2.2.2.2.2.2.2.1), (lr.2.2.2.2.2.2.2.2.2.2.2.2.2.2.2.2.2.2.2.1), (lr.2.2.2.2.2.2.2.2.2.2.2.2.2.2.2.2.2.2.2.2)⟩
    · refine ⟨(-1), (im, lf, s, d, k, ls, rf, rz, ra, rn, rq, lt, m1, m2, m3, m4, bd, (fc.set 1 ((fc.getD 1 0) + (nI 1))), hd, sz, el, s, g, fm, hm, so, si, sh, ce, ca, td, wa, kp, la, bf, oo, bo, pw, ow, tr), (im, lf, s, d, k, ls, rf, rz, ra, rn, rq, lt, m1, m2, m3, m4, bd, (fc.set 1 ((fc.getD 1 0) + (nI 1))), hd, sz, el, s, g, (fm.set 1 ((fm.getD 1 0) + (nI 1))), hm, so, si, sh, ce, ca, td, wa, kp, la, bf, oo, bo, pw, ow, tr), ?_, ?_, ?_⟩
      · show Ev ab_Z0 3 77 [.ref 0, .int (nI a1k), .int a2, .long a3] (ww im lf s d k ls rf rz ra rn rq lt m1 m2 m3 m4 bd fc hd sz el s g fm hm so si sh ce ca td wa kp la bf oo bo pw ow tr) (some (.int (-1)), (ww im lf s d k ls rf rz ra rn rq lt m1 m2 m3 m4 bd (fc.set 1 ((fc.getD 1 0) + (nI 1))) hd sz el s g fm hm so si sh ce ca td wa kp la bf oo bo pw ow tr))
        refine Ef.in (md := mX5_set) (L := [some (.ref 0), some (.int (nI a1k)), some (.int a2), some (.long a3), none, none]) rfl (Nat.le_of_ble_eq_true rfl) rfl ?_
        refine E_aload_n at_X5_set_0 rfl ?_
        refine E_iload_n at_X5_set_1 rfl ?_
        have e1 : Ev ab_Z0 2 119 [.ref 0, .int (nI a1k)] (ww im lf s d k ls rf rz ra rn rq lt m1 m2 m3 m4 bd fc hd sz el s g fm hm so si sh ce ca td wa kp la bf oo bo pw ow tr) (some (.int (nI 1)), (ww im lf s d k ls rf rz ra rn rq lt m1 m2 m3 m4 bd fc hd sz el s g fm hm so si sh ce ca td wa kp la bf oo bo pw ow tr)) := by
          refine Ef.in (md := mX5_whyNoRow) (L := [some (.ref 0), some (.int (nI a1k))]) rfl (Nat.le_of_ble_eq_true rfl) rfl ?_
          refine E_iload_n at_X5_whyNoRow_0 rfl ?_
          refine E_callS (v := some (.int (nI 0))) (As := [.int (nI a1k)]) (r0 := []) (cs2 := (ww im lf s d k ls rf rz ra rn rq lt m1 m2 m3 m4 bd fc hd sz el s g fm hm so si sh ce ca td wa kp la bf oo bo pw ow tr)) at_X5_whyNoRow_1 rfl rfl (Nat.le_of_ble_eq_true rfl) rfl (L47_X5_isShelf (by omega) (by omega) (by omega)) (by decide) rfl ?_
          refine E_if (t := 9) (b := false) at_X5_whyNoRow_4 rfl (by decide) ?_
          refine E_iconst (x := nI 1) at_X5_whyNoRow_7 (by decide) ?_
          exact E_iret at_X5_whyNoRow_8 rfl
        refine E_callV (v := some (.int (nI 1))) (As := [.ref 0, .int (nI a1k)]) (r0 := []) (cs2 := (ww im lf s d k ls rf rz ra rn rq lt m1 m2 m3 m4 bd fc hd sz el s g fm hm so si sh ce ca td wa kp la bf oo bo pw ow tr)) at_X5_set_2 rfl rfl (Nat.le_of_ble_eq_true rfl) rfl (ab_rvOf w0 rfl) e1 (by decide) rfl ?_
        refine E_istore (L2 := [some (.ref 0), some (.int (nI a1k)), some (.int a2), some (.long a3), none, some (.int (nI 1))]) at_X5_set_5 rfl ?_
        refine E_iload at_X5_set_7 rfl ?_
        refine E_if (t := 19) (b := false) at_X5_set_9 rfl (by decide) ?_
        refine E_aload_n at_X5_set_12 rfl ?_
        refine E_iload at_X5_set_13 rfl ?_
        refine E_callV (v := some (.int (-1))) (As := [.ref 0, .int (nI 1)]) (r0 := []) (cs2 := (ww im lf s d k ls rf rz ra rn rq lt m1 m2 m3 m4 bd (fc.set 1 ((fc.getD 1 0) + (nI 1))) hd sz el s g fm hm so si sh ce ca td wa kp la bf oo bo pw ow tr)) at_X5_set_15 rfl rfl (Nat.le_of_ble_eq_true rfl) rfl (ab_rvOf w0 rfl) (L6_X5_refuse (by omega)) (by decide) w_lens ?_
        exact E_iret at_X5_set_18 rfl
      · show Ev ab_Z0 2 136 [.ref 65, .int (nI a1k), .int a2, .long a3] (ww im lf s d k ls rf rz ra rn rq lt m1 m2 m3 m4 bd (fc.set 1 ((fc.getD 1 0) + (nI 1))) hd sz el s g fm hm so si sh ce ca td wa kp la bf oo bo pw ow tr) (some (.int (-1)), (ww im lf s d k ls rf rz ra rn rq lt m1 m2 m3 m4 bd (fc.set 1 ((fc.getD 1 0) + (nI 1))) hd sz el s g (fm.set 1 ((fm.getD 1 0) + (nI 1))) hm so si sh ce ca td wa kp la bf oo bo pw ow tr))
        refine Ef.in (md := mX6_set) (L := [some (.ref 65), some (.int (nI a1k)), some (.int a2), some (.long a3), none]) rfl (Nat.le_of_ble_eq_true rfl) rfl ?_
        refine E_aload_n at_X6_set_0 rfl ?_
        refine E_iload_n at_X6_set_1 rfl ?_
        refine E_callV (v := some (.int (nI 0))) (As := [.ref 65, .int (nI a1k)]) (r0 := []) (cs2 := (ww im lf s d k ls rf rz ra rn rq lt m1 m2 m3 m4 bd (fc.set 1 ((fc.getD 1 0) + (nI 1))) hd sz el s g fm hm so si sh ce ca td wa kp la bf oo bo pw ow tr)) at_X6_set_2 rfl rfl (Nat.le_of_ble_eq_true rfl) rfl (ab_rvOf w65 rfl) (L48_X6_isShelf (by omega) (by omega) (by omega)) (by decide) rfl ?_
        refine E_if (t := 14) (b := false) at_X6_set_5 rfl (by decide) ?_
        refine E_aload_n rfl rfl ?_
        refine E_iconst (x := (-1)) rfl (by decide) ?_
        refine E_callV (v := some (.int (-1))) (As := [.ref 65, .int (-1)]) (r0 := []) (cs2 := (ww im lf s d k ls rf rz ra rn rq lt m1 m2 m3 m4 bd (fc.set 1 ((fc.getD 1 0) + (nI 1))) hd sz el s g (fm.set 1 ((fm.getD 1 0) + (nI 1))) hm so si sh ce ca td wa kp la bf oo bo pw ow tr)) rfl rfl rfl (Nat.le_of_ble_eq_true rfl) rfl (ab_rvOf w65 rfl) (L8_X6_no (by omega)) (by decide) w_lens ?_
        exact E_iret rfl rfl
      · exact ⟨I, rfl, hf, iQ, iM, iT, iS, l_el, (lr.1), (lr.2.1), (lr.2.2.1), (by simp only [List.length_set]; exact (lr.2.2.2.1)), (by simp only [List.length_set]; exact (lr.2.2.2.2.1)), (lr.2.2.2.2.2.1), (lr.2.2.2.2.2.2.1), (lr.2.2.2.2.2.2.2.1), (lr.2.2.2.2.2.2.2.2.1), (lr.2.2.2.2.2.2.2.2.2.1), (lr.2.2.2.2.2.2.2.2.2.2.1), (lr.2.2.2.2.2.2.2.2.2.2.2.1), (lr.2.2.2.2.2.2.2.2.2.2.2.2.1), (lr.2.2.2.2.2.2.2.2.2.2.2.2.2.1), (lr.2.2.2.2.2.2.2.2.2.2.2.2.2.2.1), (lr.2.2.2.2.2.2.2.2.2.2.2.2.2.2.2.1), (lr.2.2.2.2.2.2.2.2.2.2.2.2.2.2.2.2.1), (lr.2.2.2.2.2.2.2.2.2.2.2.2.2.2.2.2.2.1), (lr.2.2.2.2.2.2.2.2.2.2.2.2.2.2.2.2.2.2.1), (lr.2.2.2.2.2.2.2.2.2.2.2.2.2.2.2.2.2.2.2.1), (lr.2.2.2.2.2.2.2.2.2.2.2.2.2.2.2.2.2.2.2.2)⟩
  · refine ⟨(-1), (im, lf, s, d, k, ls, rf, rz, ra, rn, rq, lt, m1, m2, m3, m4, bd, (fc.set 1 ((fc.getD 1 0) + (nI 1))), hd, sz, el, s, g, fm, hm, so, si, sh, ce, ca, td, wa, kp, la, bf, oo, bo, pw, ow, tr), (im, lf, s, d, k, ls, rf, rz, ra, rn, rq, lt, m1, m2, m3, m4, bd, (fc.set 1 ((fc.getD 1 0) + (nI 1))), hd, sz, el, s, g, (fm.set 1 ((fm.getD 1 0) + (nI 1))), hm, so, si, sh, ce, ca, td, wa, kp, la, bf, oo, bo, pw, ow, tr), ?_, ?_, ?_⟩
    · show Ev ab_Z0 3 77 [.ref 0, .int a1, .int a2, .long a3] (ww im lf s d k ls rf rz ra rn rq lt m1 m2 m3 m4 bd fc hd sz el s g fm hm so si sh ce ca td wa kp la bf oo bo pw ow tr) (some (.int (-1)), (ww im lf s d k ls rf rz ra rn rq lt m1 m2 m3 m4 bd (fc.set 1 ((fc.getD 1 0) + (nI 1))) hd sz el s g fm hm so si sh ce ca td wa kp la bf oo bo pw ow tr))
      refine Ef.in (md := mX5_set) (L := [some (.ref 0), some (.int a1), some (.int a2), some (.long a3), none, none]) rfl (Nat.le_of_ble_eq_true rfl) rfl ?_
      refine E_aload_n at_X5_set_0 rfl ?_
      refine E_iload_n at_X5_set_1 rfl ?_
      have e1 : Ev ab_Z0 2 119 [.ref 0, .int a1] (ww im lf s d k ls rf rz ra rn rq lt m1 m2 m3 m4 bd fc hd sz el s g fm hm so si sh ce ca td wa kp la bf oo bo pw ow tr) (some (.int (nI 1)), (ww im lf s d k ls rf rz ra rn rq lt m1 m2 m3 m4 bd fc hd sz el s g fm hm so si sh ce ca td wa kp la bf oo bo pw ow tr)) := by
        refine Ef.in (md := mX5_whyNoRow) (L := [some (.ref 0), some (.int a1)]) rfl (Nat.le_of_ble_eq_true rfl) rfl ?_
        refine E_iload_n at_X5_whyNoRow_0 rfl ?_
        refine E_callS (v := some (.int (nI 0))) (As := [.int a1]) (r0 := []) (cs2 := (ww im lf s d k ls rf rz ra rn rq lt m1 m2 m3 m4 bd fc hd sz el s g fm hm so si sh ce ca td wa kp la bf oo bo pw ow tr)) at_X5_whyNoRow_1 rfl rfl (Nat.le_of_ble_eq_true rfl) rfl (L49_X5_isShelf (by omega) (by omega)) (by decide) rfl ?_
        refine E_if (t := 9) (b := false) at_X5_whyNoRow_4 rfl (by decide) ?_
        refine E_iconst (x := nI 1) at_X5_whyNoRow_7 (by decide) ?_
        exact E_iret at_X5_whyNoRow_8 rfl
      refine E_callV (v := some (.int (nI 1))) (As := [.ref 0, .int a1]) (r0 := []) (cs2 := (ww im lf s d k ls rf rz ra rn rq lt m1 m2 m3 m4 bd fc hd sz el s g fm hm so si sh ce ca td wa kp la bf oo bo pw ow tr)) at_X5_set_2 rfl rfl (Nat.le_of_ble_eq_true rfl) rfl (ab_rvOf w0 rfl) e1 (by decide) rfl ?_
      refine E_istore (L2 := [some (.ref 0), some (.int a1), some (.int a2), some (.long a3), none, some (.int (nI 1))]) at_X5_set_5 rfl ?_
      refine E_iload at_X5_set_7 rfl ?_
      refine E_if (t := 19) (b := false) at_X5_set_9 rfl (by decide) ?_
      refine E_aload_n at_X5_set_12 rfl ?_
      refine E_iload at_X5_set_13 rfl ?_
      refine E_callV (v := some (.int (-1))) (As := [.ref 0, .int (nI 1)]) (r0 := []) (cs2 := (ww im lf s d k ls rf rz ra rn rq lt m1 m2 m3 m4 bd (fc.set 1 ((fc.getD 1 0) + (nI 1))) hd sz el s g fm hm so si sh ce ca td wa kp la bf oo bo pw ow tr)) at_X5_set_15 rfl rfl (Nat.le_of_ble_eq_true rfl) rfl (ab_rvOf w0 rfl) (L6_X5_refuse (by omega)) (by decide) w_lens ?_
      exact E_iret at_X5_set_18 rfl
    · show Ev ab_Z0 2 136 [.ref 65, .int a1, .int a2, .long a3] (ww im lf s d k ls rf rz ra rn rq lt m1 m2 m3 m4 bd (fc.set 1 ((fc.getD 1 0) + (nI 1))) hd sz el s g fm hm so si sh ce ca td wa kp la bf oo bo pw ow tr) (some (.int (-1)), (ww im lf s d k ls rf rz ra rn rq lt m1 m2 m3 m4 bd (fc.set 1 ((fc.getD 1 0) + (nI 1))) hd sz el s g (fm.set 1 ((fm.getD 1 0) + (nI 1))) hm so si sh ce ca td wa kp la bf oo bo pw ow tr))
      refine Ef.in (md := mX6_set) (L := [some (.ref 65), some (.int a1), some (.int a2), some (.long a3), none]) rfl (Nat.le_of_ble_eq_true rfl) rfl ?_
      refine E_aload_n at_X6_set_0 rfl ?_
      refine E_iload_n at_X6_set_1 rfl ?_
      refine E_callV (v := some (.int (nI 0))) (As := [.ref 65, .int a1]) (r0 := []) (cs2 := (ww im lf s d k ls rf rz ra rn rq lt m1 m2 m3 m4 bd (fc.set 1 ((fc.getD 1 0) + (nI 1))) hd sz el s g fm hm so si sh ce ca td wa kp la bf oo bo pw ow tr)) at_X6_set_2 rfl rfl (Nat.le_of_ble_eq_true rfl) rfl (ab_rvOf w65 rfl) (L50_X6_isShelf (by omega) (by omega)) (by decide) rfl ?_
      refine E_if (t := 14) (b := false) at_X6_set_5 rfl (by decide) ?_
      refine E_aload_n rfl rfl ?_
      refine E_iconst (x := (-1)) rfl (by decide) ?_
      refine E_callV (v := some (.int (-1))) (As := [.ref 65, .int (-1)]) (r0 := []) (cs2 := (ww im lf s d k ls rf rz ra rn rq lt m1 m2 m3 m4 bd (fc.set 1 ((fc.getD 1 0) + (nI 1))) hd sz el s g (fm.set 1 ((fm.getD 1 0) + (nI 1))) hm so si sh ce ca td wa kp la bf oo bo pw ow tr)) rfl rfl rfl (Nat.le_of_ble_eq_true rfl) rfl (ab_rvOf w65 rfl) (L8_X6_no (by omega)) (by decide) w_lens ?_
      exact E_iret rfl rfl
    · exact ⟨I, rfl, hf, iQ, iM, iT, iS, l_el, (lr.1), (lr.2.1), (lr.2.2.1), (by simp only [List.length_set]; exact (lr.2.2.2.1)), (by simp only [List.length_set]; exact (lr.2.2.2.2.1)), (lr.2.2.2.2.2.1), (lr.2.2.2.2.2.2.1), (lr.2.2.2.2.2.2.2.1), (lr.2.2.2.2.2.2.2.2.1), (lr.2.2.2.2.2.2.2.2.2.1), (lr.2.2.2.2.2.2.2.2.2.2.1), (lr.2.2.2.2.2.2.2.2.2.2.2.1), (lr.2.2.2.2.2.2.2.2.2.2.2.2.1), (lr.2.2.2.2.2.2.2.2.2.2.2.2.2.1), (lr.2.2.2.2.2.2.2.2.2.2.2.2.2.2.1), (lr.2.2.2.2.2.2.2.2.2.2.2.2.2.2.2.1), (lr.2.2.2.2.2.2.2.2.2.2.2.2.2.2.2.2.1), (lr.2.2.2.2.2.2.2.2.2.2.2.2.2.2.2.2.2.1), (lr.2.2.2.2.2.2.2.2.2.2.2.2.2.2.2.2.2.2.1), (lr.2.2.2.2.2.2.2.2.2.2.2.2.2.2.2.2.2.2.2.1), (lr.2.2.2.2.2.2.2.2.2.2.2.2.2.2.2.2.2.2.2.2)⟩
