/-! rule; by program (wip/tools/op.py) -/
section LM
variable {im : Int32} {lf : Int32} {s : ab_q} {d : ab_q} {k : ab_q} {ls : List Int32} {rf : Int32} {rz : Int32} {ra : Int32} {rn : Int32} {rq : ab_q} {lt : List Int32} {m1 : Int32} {m2 : Int32} {m3 : Int32} {m4 : Int32} {bd : List Int32} {fc : List Int32} {hd : Nat → Int32} {sz : Nat → Int32} {el : Nat → List Int64} {t : ab_q} {g : Nat → Int32} {fm : List Int32} {hm : List Nat} {so : List Nat} {si : List Nat} {sh : List Int32} {ce : List Int64} {ca : List Int64} {td : List Int32} {wa : List Int32} {kp : List Int32} {la : List Int32} {bf : List Int32} {oo : List Int32} {bo : List Int32} {pw : List Int32} {ow : List Int32} {tr : List Int32}
theorem L35_X6_isFrom  : Ev ab_Z0 1 134 [.ref 65, .int (nI 0), .int (nI 0), .int (nI 1)] (ww im lf s d k ls rf rz ra rn rq lt m1 m2 m3 m4 bd fc hd sz el t g fm hm so si sh ce ca td wa kp la bf oo bo pw ow tr) (some (.int (nI 1)), (ww im lf s d k ls rf rz ra rn rq lt m1 m2 m3 m4 bd fc hd sz el t g fm hm so si sh ce ca td wa kp la bf oo bo pw ow tr)) := by
  refine Ef.in (md := mX6_isFrom) (L := [some (.ref 65), some (.int (nI 0)), some (.int (nI 0)), some (.int (nI 1))]) rfl (Nat.le_of_ble_eq_true rfl) rfl ?_
  refine E_iload_n at_X6_isFrom_0 rfl ?_
  refine E_iload_n at_X6_isFrom_1 rfl ?_
  refine E_ic (t := 14) (b := false) at_X6_isFrom_2 rfl (by decide) ?_
  refine E_iload_n at_X6_isFrom_5 rfl ?_
  refine E_iload_n at_X6_isFrom_6 rfl ?_
  refine E_ic (t := 14) (b := false) at_X6_isFrom_7 rfl (by decide) ?_
  refine E_iconst (x := nI 1) at_X6_isFrom_10 (by decide) ?_
  refine E_goto (t := 15) at_X6_isFrom_11 rfl ?_
  exact E_iret at_X6_isFrom_15 rfl
theorem L36_X6_isFrom  : Ev ab_Z0 1 134 [.ref 65, .int (nI 1), .int (nI 0), .int (nI 1)] (ww im lf s d k ls rf rz ra rn rq lt m1 m2 m3 m4 bd fc hd sz el t g fm hm so si sh ce ca td wa kp la bf oo bo pw ow tr) (some (.int (nI 1)), (ww im lf s d k ls rf rz ra rn rq lt m1 m2 m3 m4 bd fc hd sz el t g fm hm so si sh ce ca td wa kp la bf oo bo pw ow tr)) := by
  refine Ef.in (md := mX6_isFrom) (L := [some (.ref 65), some (.int (nI 1)), some (.int (nI 0)), some (.int (nI 1))]) rfl (Nat.le_of_ble_eq_true rfl) rfl ?_
  refine E_iload_n at_X6_isFrom_0 rfl ?_
  refine E_iload_n at_X6_isFrom_1 rfl ?_
  refine E_ic (t := 14) (b := false) at_X6_isFrom_2 rfl (by decide) ?_
  refine E_iload_n at_X6_isFrom_5 rfl ?_
  refine E_iload_n at_X6_isFrom_6 rfl ?_
  refine E_ic (t := 14) (b := false) at_X6_isFrom_7 rfl (by decide) ?_
  refine E_iconst (x := nI 1) at_X6_isFrom_10 (by decide) ?_
  refine E_goto (t := 15) at_X6_isFrom_11 rfl ?_
  exact E_iret at_X6_isFrom_15 rfl
theorem L37_X6_isFrom {x1 : Nat} (h0 : x1 < 2147483648) (h1 : ¬ (x1 < 0)) (h2 : 1 < x1) : Ev ab_Z0 1 134 [.ref 65, .int (nI x1), .int (nI 0), .int (nI 1)] (ww im lf s d k ls rf rz ra rn rq lt m1 m2 m3 m4 bd fc hd sz el t g fm hm so si sh ce ca td wa kp la bf oo bo pw ow tr) (some (.int (nI 0)), (ww im lf s d k ls rf rz ra rn rq lt m1 m2 m3 m4 bd fc hd sz el t g fm hm so si sh ce ca td wa kp la bf oo bo pw ow tr)) := by
  refine Ef.in (md := mX6_isFrom) (L := [some (.ref 65), some (.int (nI x1)), some (.int (nI 0)), some (.int (nI 1))]) rfl (Nat.le_of_ble_eq_true rfl) rfl ?_
  refine E_iload_n at_X6_isFrom_0 rfl ?_
  refine E_iload_n at_X6_isFrom_1 rfl ?_
  refine E_ic (t := 14) (b := false) at_X6_isFrom_2 rfl ((cn_lt (nI_toInt (by omega)) (nI_toInt (by omega))).trans (decide_eq_false (by omega))) ?_
  refine E_iload_n at_X6_isFrom_5 rfl ?_
  refine E_iload_n at_X6_isFrom_6 rfl ?_
  refine E_ic (t := 14) (b := true) at_X6_isFrom_7 rfl ((cn_gt (nI_toInt (by omega)) (nI_toInt (by omega))).trans (decide_eq_true (by omega))) ?_
  refine E_iconst (x := nI 0) at_X6_isFrom_14 (by decide) ?_
  exact E_iret at_X6_isFrom_15 rfl
theorem L38_X6_isFrom {x1 : Int32} (h0 : x1.toInt < 0) (h1 : x1.toInt < 0) : Ev ab_Z0 1 134 [.ref 65, .int x1, .int (nI 0), .int (nI 1)] (ww im lf s d k ls rf rz ra rn rq lt m1 m2 m3 m4 bd fc hd sz el t g fm hm so si sh ce ca td wa kp la bf oo bo pw ow tr) (some (.int (nI 0)), (ww im lf s d k ls rf rz ra rn rq lt m1 m2 m3 m4 bd fc hd sz el t g fm hm so si sh ce ca td wa kp la bf oo bo pw ow tr)) := by
  refine Ef.in (md := mX6_isFrom) (L := [some (.ref 65), some (.int x1), some (.int (nI 0)), some (.int (nI 1))]) rfl (Nat.le_of_ble_eq_true rfl) rfl ?_
  refine E_iload_n at_X6_isFrom_0 rfl ?_
  refine E_iload_n at_X6_isFrom_1 rfl ?_
  refine E_ic (t := 14) (b := true) at_X6_isFrom_2 rfl ((cn_lt rfl (nI_toInt (by omega))).trans (decide_eq_true (by omega))) ?_
  refine E_iconst (x := nI 0) at_X6_isFrom_14 (by decide) ?_
  exact E_iret at_X6_isFrom_15 rfl
end LM
set_option maxHeartbeats 4000000 in
theorem op_rule (x : St) (hx : wI x) (a1 : Int32) : ∃ (r : Int32) (x1 x2 : St), Ev ab_Z0 3 86 [.ref 0, .int a1] (wt x) (some (.int r), wt x1) ∧ Ev ab_Z0 2 151 [.ref 65, .int a1] (wt x1) (some (.int r), wt x2) ∧ wI x2 := by
  obtain ⟨im, lf, s, d, k, ls, rf, rz, ra, rn, rq, lt, m1, m2, m3, m4, bd, fc, hd, sz, el, t, g, fm, hm, so, si, sh, ce, ca, td, wa, kp, la, bf, oo, bo, pw, ow, tr⟩ := x
  obtain ⟨I, ts, hf, iQ, iM, iT, iS, l_el, lr⟩ := hx
  replace lr : Hd _ := lr
  have l_fc := lr.2.2.2.1
  have l_fm := lr.2.2.2.2.1
  subst ts
  obtain ⟨⟨i0, i1, i2, i3⟩, ⟨i4, i5, i6, i7, i8⟩, ⟨i9, i10⟩, I1, I2, I3, I4⟩ := id I
  rcases ab_int a1 with ⟨a1k, f0, rfl⟩ | f0
  · by_cases f1 : a1k = 0
    · subst f1
      refine ⟨(qR s), (im, lf, (qs_R s (nI 0)), d, k, ls, rf, rz, ra, rn, rq, lt, m1, m2, m3, m4, bd, fc, hd, sz, el, s, g, fm, hm, so, si, sh, ce, ca, td, wa, kp, la, bf, oo, bo, pw, ow, tr), (im, lf, (qs_R s (nI 0)), d, k, ls, rf, rz, ra, rn, rq, lt, m1, m2, m3, m4, bd, fc, hd, sz, el, (qs_R s (nI 0)), g, fm, hm, so, si, sh, ce, ca, td, wa, kp, la, bf, oo, bo, pw, ow, tr), ?_, ?_, ?_⟩
      · show Ev ab_Z0 3 86 [.ref 0, .int (nI 0)] (ww im lf s d k ls rf rz ra rn rq lt m1 m2 m3 m4 bd fc hd sz el s g fm hm so si sh ce ca td wa kp la bf oo bo pw ow tr) (some (.int (qR s)), (ww im lf (qs_R s (nI 0)) d k ls rf rz ra rn rq lt m1 m2 m3 m4 bd fc hd sz el s g fm hm so si sh ce ca td wa kp la bf oo bo pw ow tr))
        refine Ef.in (md := mX5_rule) (L := [some (.ref 0), some (.int (nI 0)), none]) rfl (Nat.le_of_ble_eq_true rfl) rfl ?_
        refine E_iload_n at_X5_rule_0 rfl ?_
        refine E_if (t := 16) (b := true) at_X5_rule_1 rfl (by decide) ?_
        refine E_aload_n rfl rfl ?_
        refine E_getfield (v := .ref 1) rfl w0 rfl (by decide) rfl ?_
        refine E_getfield (v := .int (qR s)) rfl w1 rfl (by decide) rfl ?_
        refine E_istore_n (L2 := [some (.ref 0), some (.int (nI 0)), some (.int (qR s))]) rfl rfl ?_
        refine E_aload_n rfl rfl ?_
        refine E_getfield (v := .ref 1) rfl w0 rfl (by decide) rfl ?_
        refine E_iload_n rfl rfl ?_
        refine E_putfield (cs2 := (ww im lf (qs_R s (nI 0)) d k ls rf rz ra rn rq lt m1 m2 m3 m4 bd fc hd sz el s g fm hm so si sh ce ca td wa kp la bf oo bo pw ow tr)) rfl w1 rfl (by decide) (Nat.le_of_ble_eq_true rfl) rfl rfl rfl w_pt1_R ?_
        refine E_iload_n rfl rfl ?_
        exact E_iret rfl rfl
      · show Ev ab_Z0 2 151 [.ref 65, .int (nI 0)] (ww im lf (qs_R s (nI 0)) d k ls rf rz ra rn rq lt m1 m2 m3 m4 bd fc hd sz el s g fm hm so si sh ce ca td wa kp la bf oo bo pw ow tr) (some (.int (qR s)), (ww im lf (qs_R s (nI 0)) d k ls rf rz ra rn rq lt m1 m2 m3 m4 bd fc hd sz el (qs_R s (nI 0)) g fm hm so si sh ce ca td wa kp la bf oo bo pw ow tr))
        refine Ef.in (md := mX6_rule) (L := [some (.ref 65), some (.int (nI 0)), none]) rfl (Nat.le_of_ble_eq_true rfl) rfl ?_
        refine E_aload_n at_X6_rule_0 rfl ?_
        refine E_iload_n at_X6_rule_1 rfl ?_
        refine E_iconst (x := nI 0) at_X6_rule_2 (by decide) ?_
        refine E_iconst (x := nI 1) at_X6_rule_3 (by decide) ?_
        refine E_callV (v := some (.int (nI 1))) (As := [.ref 65, .int (nI 0), .int (nI 0), .int (nI 1)]) (r0 := []) (cs2 := (ww im lf (qs_R s (nI 0)) d k ls rf rz ra rn rq lt m1 m2 m3 m4 bd fc hd sz el s g fm hm so si sh ce ca td wa kp la bf oo bo pw ow tr)) at_X6_rule_4 rfl rfl (Nat.le_of_ble_eq_true rfl) rfl (ab_rvOf w65 rfl) (L35_X6_isFrom) (by decide) rfl ?_
        refine E_if (t := 17) (b := true) at_X6_rule_7 rfl (by decide) ?_
        refine E_aload_n rfl rfl ?_
        refine E_getfield (v := .int (qR s)) rfl w65 rfl (by decide) rfl ?_
        refine E_istore_n (L2 := [some (.ref 65), some (.int (nI 0)), some (.int (qR s))]) rfl rfl ?_
        refine E_aload_n rfl rfl ?_
        refine E_iload_n rfl rfl ?_
        refine E_putfield (cs2 := (ww im lf (qs_R s (nI 0)) d k ls rf rz ra rn rq lt m1 m2 m3 m4 bd fc hd sz el (qs_R s (nI 0)) g fm hm so si sh ce ca td wa kp la bf oo bo pw ow tr)) rfl w65 rfl (by decide) (Nat.le_of_ble_eq_true rfl) rfl rfl rfl w_pt65_R ?_
        refine E_iload_n rfl rfl ?_
        exact E_iret rfl rfl
      · exact ⟨(qI_R I (by first | exact Or.inl rfl | exact Or.inr rfl)), rfl, hf, iQ, iM, iT, iS, l_el, (lr.1), (lr.2.1), (lr.2.2.1), (lr.2.2.2.1), (lr.2.2.2.2.1), (lr.2.2.2.2.2.1), (lr.2.2.2.2.2.2.1), (lr.2.2.2.2.2.2.2.1), (lr.2.2.2.2.2.2.2.2.1), (lr.2.2.2.2.2.2.2.2.2.1), (lr.2.2.2.2.2.2.2.2.2.2.1), (lr.2.2.2.2.2.2.2.2.2.2.2.1), (lr.2.2.2.2.2.2.2.2.2.2.2.2.1), (lr.2.2.2.2.2.2.2.2.2.2.2.2.2.1), (lr.2.2.2.2.2.2.2.2.2.2.2.2.2.2.1), (lr.2.2.2.2.2.2.2.2.2.2.2.2.2.2.2.1), (lr.2.2.2.2.2.2.2.2.2.2.2.2.2.2.2.2.1), (lr.2.2.2.2.2.2.2.2.2.2.2.2.2.2.2.2.2.1), (lr.2.2.2.2.2.2.2.2.2.2.2.2.2.2.2.2.2.2.1), (lr.2.2.2.2.2.2.2.2.2.2.2.2.2.2.2.2.2.2.2.1), (lr.2.2.2.2.2.2.2.2.2.2.2.2.2.2.2.2.2.2.2.2)⟩
    · by_cases f2 : a1k = 1
      · subst f2
        refine ⟨(qR s), (im, lf, (qs_R s (nI 1)), d, k, ls, rf, rz, ra, rn, rq, lt, m1, m2, m3, m4, bd, fc, hd, sz, el, s, g, fm, hm, so, si, sh, ce, ca, td, wa, kp, la, bf, oo, bo, pw, ow, tr), (im, lf, (qs_R s (nI 1)), d, k, ls, rf, rz, ra, rn, rq, lt, m1, m2, m3, m4, bd, fc, hd, sz, el, (qs_R s (nI 1)), g, fm, hm, so, si, sh, ce, ca, td, wa, kp, la, bf, oo, bo, pw, ow, tr), ?_, ?_, ?_⟩
        · show Ev ab_Z0 3 86 [.ref 0, .int (nI 1)] (ww im lf s d k ls rf rz ra rn rq lt m1 m2 m3 m4 bd fc hd sz el s g fm hm so si sh ce ca td wa kp la bf oo bo pw ow tr) (some (.int (qR s)), (ww im lf (qs_R s (nI 1)) d k ls rf rz ra rn rq lt m1 m2 m3 m4 bd fc hd sz el s g fm hm so si sh ce ca td wa kp la bf oo bo pw ow tr))
          refine Ef.in (md := mX5_rule) (L := [some (.ref 0), some (.int (nI 1)), none]) rfl (Nat.le_of_ble_eq_true rfl) rfl ?_
          refine E_iload_n at_X5_rule_0 rfl ?_
          refine E_if (t := 16) (b := false) at_X5_rule_1 rfl (by decide) ?_
          refine E_iload_n rfl rfl ?_
          refine E_iconst (x := nI 1) rfl (by decide) ?_
          refine E_ic (t := 16) (b := true) rfl rfl (by decide) ?_
          refine E_aload_n rfl rfl ?_
          refine E_getfield (v := .ref 1) rfl w0 rfl (by decide) rfl ?_
          refine E_getfield (v := .int (qR s)) rfl w1 rfl (by decide) rfl ?_
          refine E_istore_n (L2 := [some (.ref 0), some (.int (nI 1)), some (.int (qR s))]) rfl rfl ?_
          refine E_aload_n rfl rfl ?_
          refine E_getfield (v := .ref 1) rfl w0 rfl (by decide) rfl ?_
          refine E_iload_n rfl rfl ?_
          refine E_putfield (cs2 := (ww im lf (qs_R s (nI 1)) d k ls rf rz ra rn rq lt m1 m2 m3 m4 bd fc hd sz el s g fm hm so si sh ce ca td wa kp la bf oo bo pw ow tr)) rfl w1 rfl (by decide) (Nat.le_of_ble_eq_true rfl) rfl rfl rfl w_pt1_R ?_
          refine E_iload_n rfl rfl ?_
          exact E_iret rfl rfl
        · show Ev ab_Z0 2 151 [.ref 65, .int (nI 1)] (ww im lf (qs_R s (nI 1)) d k ls rf rz ra rn rq lt m1 m2 m3 m4 bd fc hd sz el s g fm hm so si sh ce ca td wa kp la bf oo bo pw ow tr) (some (.int (qR s)), (ww im lf (qs_R s (nI 1)) d k ls rf rz ra rn rq lt m1 m2 m3 m4 bd fc hd sz el (qs_R s (nI 1)) g fm hm so si sh ce ca td wa kp la bf oo bo pw ow tr))
          refine Ef.in (md := mX6_rule) (L := [some (.ref 65), some (.int (nI 1)), none]) rfl (Nat.le_of_ble_eq_true rfl) rfl ?_
          refine E_aload_n at_X6_rule_0 rfl ?_
          refine E_iload_n at_X6_rule_1 rfl ?_
          refine E_iconst (x := nI 0) at_X6_rule_2 (by decide) ?_
          refine E_iconst (x := nI 1) at_X6_rule_3 (by decide) ?_
          refine E_callV (v := some (.int (nI 1))) (As := [.ref 65, .int (nI 1), .int (nI 0), .int (nI 1)]) (r0 := []) (cs2 := (ww im lf (qs_R s (nI 1)) d k ls rf rz ra rn rq lt m1 m2 m3 m4 bd fc hd sz el s g fm hm so si sh ce ca td wa kp la bf oo bo pw ow tr)) at_X6_rule_4 rfl rfl (Nat.le_of_ble_eq_true rfl) rfl (ab_rvOf w65 rfl) (L36_X6_isFrom) (by decide) rfl ?_
          refine E_if (t := 17) (b := true) at_X6_rule_7 rfl (by decide) ?_
          refine E_aload_n rfl rfl ?_
          refine E_getfield (v := .int (qR s)) rfl w65 rfl (by decide) rfl ?_
          refine E_istore_n (L2 := [some (.ref 65), some (.int (nI 1)), some (.int (qR s))]) rfl rfl ?_
          refine E_aload_n rfl rfl ?_
          refine E_iload_n rfl rfl ?_
          refine E_putfield (cs2 := (ww im lf (qs_R s (nI 1)) d k ls rf rz ra rn rq lt m1 m2 m3 m4 bd fc hd sz el (qs_R s (nI 1)) g fm hm so si sh ce ca td wa kp la bf oo bo pw ow tr)) rfl w65 rfl (by decide) (Nat.le_of_ble_eq_true rfl) rfl rfl rfl w_pt65_R ?_
          refine E_iload_n rfl rfl ?_
          exact E_iret rfl rfl
        · exact ⟨(qI_R I (by first | exact Or.inl rfl | exact Or.inr rfl)), rfl, hf, iQ, iM, iT, iS, l_el, (lr.1), (lr.2.1), (lr.2.2.1), (lr.2.2.2.1), (lr.2.2.2.2.1), (lr.2.2.2.2.2.1), (lr.2.2.2.2.2.2.1), (lr.2.2.2.2.2.2.2.1), (lr.2.2.2.2.2.2.2.2.1), (lr.2.2.2.2.2.2.2.2.2.1), (lr.2.2.2.2.2.2.2.2.2.2.1), (lr.2.2.2.2.2.2.2.2.2.2.2.1), (lr.2.2.2.2.2.2.2.2.2.2.2.2.1), (lr.2.2.2.2.2.2.2.2.2.2.2.2.2.1), (lr.2.2.2.2.2.2.2.2.2.2.2.2.2.2.1), (lr.2.2.2.2.2.2.2.2.2.2.2.2.2.2.2.1), (lr.2.2.2.2.2.2.2.2.2.2.2.2.2.2.2.2.1), (lr.2.2.2.2.2.2.2.2.2.2.2.2.2.2.2.2.2.1), (lr.2.2.2.2.2.2.2.2.2.2.2.2.2.2.2.2.2.2.1), (lr.2.2.2.2.2.2.2.2.2.2.2.2.2.2.2.2.2.2.2.1), (lr.2.2.2.2.2.2.2.2.2.2.2.2.2.2.2.2.2.2.2.2)⟩
      · refine ⟨(-6), (im, lf, s, d, k, ls, rf, rz, ra, rn, rq, lt, m1, m2, m3, m4, bd, (fc.set 6 ((fc.getD 6 0) + (nI 1))), hd, sz, el, s, g, fm, hm, so, si, sh, ce, ca, td, wa, kp, la, bf, oo, bo, pw, ow, tr), (im, lf, s, d, k, ls, rf, rz, ra, rn, rq, lt, m1, m2, m3, m4, bd, (fc.set 6 ((fc.getD 6 0) + (nI 1))), hd, sz, el, s, g, (fm.set 6 ((fm.getD 6 0) + (nI 1))), hm, so, si, sh, ce, ca, td, wa, kp, la, bf, oo, bo, pw, ow, tr), ?_, ?_, ?_⟩
        · show Ev ab_Z0 3 86 [.ref 0, .int (nI a1k)] (ww im lf s d k ls rf rz ra rn rq lt m1 m2 m3 m4 bd fc hd sz el s g fm hm so si sh ce ca td wa kp la bf oo bo pw ow tr) (some (.int (-6)), (ww im lf s d k ls rf rz ra rn rq lt m1 m2 m3 m4 bd (fc.set 6 ((fc.getD 6 0) + (nI 1))) hd sz el s g fm hm so si sh ce ca td wa kp la bf oo bo pw ow tr))
          refine Ef.in (md := mX5_rule) (L := [some (.ref 0), some (.int (nI a1k)), none]) rfl (Nat.le_of_ble_eq_true rfl) rfl ?_
          refine E_iload_n at_X5_rule_0 rfl ?_
          refine E_if (t := 16) (b := false) at_X5_rule_1 rfl ((cn_eq (nI_toInt (by omega)) (by decide : (0 : Int32).toInt = 0)).trans (decide_eq_false (by omega))) ?_
          refine E_iload_n rfl rfl ?_
          refine E_iconst (x := nI 1) rfl (by decide) ?_
          refine E_ic (t := 16) (b := false) rfl rfl ((cn_eq (nI_toInt (by omega)) (nI_toInt (by omega))).trans (decide_eq_false (by omega))) ?_
          refine E_aload_n rfl rfl ?_
          refine E_bipush (x := nI 6) rfl (by decide) ?_
          refine E_callV (v := some (.int (-6))) (As := [.ref 0, .int (nI 6)]) (r0 := []) (cs2 := (ww im lf s d k ls rf rz ra rn rq lt m1 m2 m3 m4 bd (fc.set 6 ((fc.getD 6 0) + (nI 1))) hd sz el s g fm hm so si sh ce ca td wa kp la bf oo bo pw ow tr)) rfl rfl rfl (Nat.le_of_ble_eq_true rfl) rfl (ab_rvOf w0 rfl) (L26_X5_refuse (by omega)) (by decide) w_lens ?_
          exact E_iret rfl rfl
        · show Ev ab_Z0 2 151 [.ref 65, .int (nI a1k)] (ww im lf s d k ls rf rz ra rn rq lt m1 m2 m3 m4 bd (fc.set 6 ((fc.getD 6 0) + (nI 1))) hd sz el s g fm hm so si sh ce ca td wa kp la bf oo bo pw ow tr) (some (.int (-6)), (ww im lf s d k ls rf rz ra rn rq lt m1 m2 m3 m4 bd (fc.set 6 ((fc.getD 6 0) + (nI 1))) hd sz el s g (fm.set 6 ((fm.getD 6 0) + (nI 1))) hm so si sh ce ca td wa kp la bf oo bo pw ow tr))
          refine Ef.in (md := mX6_rule) (L := [some (.ref 65), some (.int (nI a1k)), none]) rfl (Nat.le_of_ble_eq_true rfl) rfl ?_
          refine E_aload_n at_X6_rule_0 rfl ?_
          refine E_iload_n at_X6_rule_1 rfl ?_
          refine E_iconst (x := nI 0) at_X6_rule_2 (by decide) ?_
          refine E_iconst (x := nI 1) at_X6_rule_3 (by decide) ?_
          refine E_callV (v := some (.int (nI 0))) (As := [.ref 65, .int (nI a1k), .int (nI 0), .int (nI 1)]) (r0 := []) (cs2 := (ww im lf s d k ls rf rz ra rn rq lt m1 m2 m3 m4 bd (fc.set 6 ((fc.getD 6 0) + (nI 1))) hd sz el s g fm hm so si sh ce ca td wa kp la bf oo bo pw ow tr)) at_X6_rule_4 rfl rfl (Nat.le_of_ble_eq_true rfl) rfl (ab_rvOf w65 rfl) (L37_X6_isFrom (by omega) (by omega) (by omega)) (by decide) rfl ?_
          refine E_if (t := 17) (b := false) at_X6_rule_7 rfl (by decide) ?_
          refine E_aload_n rfl rfl ?_
          refine E_bipush (x := (-6)) rfl (by decide) ?_
          refine E_callV (v := some (.int (-6))) (As := [.ref 65, .int (-6)]) (r0 := []) (cs2 := (ww im lf s d k ls rf rz ra rn rq lt m1 m2 m3 m4 bd (fc.set 6 ((fc.getD 6 0) + (nI 1))) hd sz el s g (fm.set 6 ((fm.getD 6 0) + (nI 1))) hm so si sh ce ca td wa kp la bf oo bo pw ow tr)) rfl rfl rfl (Nat.le_of_ble_eq_true rfl) rfl (ab_rvOf w65 rfl) (L28_X6_no (by omega)) (by decide) w_lens ?_
          exact E_iret rfl rfl
        · exact ⟨I, rfl, hf, iQ, iM, iT, iS, l_el, (lr.1), (lr.2.1), (lr.2.2.1), (by simp only [List.length_set]; exact (lr.2.2.2.1)), (by simp only [List.length_set]; exact (lr.2.2.2.2.1)), (lr.2.2.2.2.2.1), (lr.2.2.2.2.2.2.1), (lr.2.2.2.2.2.2.2.1), (lr.2.2.2.2.2.2.2.2.1), (lr.2.2.2.2.2.2.2.2.2.1), (lr.2.2.2.2.2.2.2.2.2.2.1), (lr.2.2.2.2.2.2.2.2.2.2.2.1), (lr.2.2.2.2.2.2.2.2.2.2.2.2.1), (lr.2.2.2.2.2.2.2.2.2.2.2.2.2.1), (lr.2.2.2.2.2.2.2.2.2.2.2.2.2.2.1), (lr.2.2.2.2.2.2.2.2.2.2.2.2.2.2.2.1), (lr.2.2.2.2.2.2.2.2.2.2.2.2.2.2.2.2.1), (lr.2.2.2.2.2.2.2.2.2.2.2.2.2.2.2.2.2.1), (lr.2.2.2.2.2.2.2.2.2.2.2.2.2.2.2.2.2.2.1), (lr.2.2.2.2.2.2.2.2.2.2.2.2.2.2.2.2.2.2.2.1), (lr.2.2.2.2.2.2.2.2.2.2.2.2.2.2.2.2.2.2.2.2)⟩
  · refine ⟨(-6), (im, lf, s, d, k, ls, rf, rz, ra, rn, rq, lt, m1, m2, m3, m4, bd, (fc.set 6 ((fc.getD 6 0) + (nI 1))), hd, sz, el, s, g, fm, hm, so, si, sh, ce, ca, td, wa, kp, la, bf, oo, bo, pw, ow, tr), (im, lf, s, d, k, ls, rf, rz, ra, rn, rq, lt, m1, m2, m3, m4, bd, (fc.set 6 ((fc.getD 6 0) + (nI 1))), hd, sz, el, s, g, (fm.set 6 ((fm.getD 6 0) + (nI 1))), hm, so, si, sh, ce, ca, td, wa, kp, la, bf, oo, bo, pw, ow, tr), ?_, ?_, ?_⟩
    · show Ev ab_Z0 3 86 [.ref 0, .int a1] (ww im lf s d k ls rf rz ra rn rq lt m1 m2 m3 m4 bd fc hd sz el s g fm hm so si sh ce ca td wa kp la bf oo bo pw ow tr) (some (.int (-6)), (ww im lf s d k ls rf rz ra rn rq lt m1 m2 m3 m4 bd (fc.set 6 ((fc.getD 6 0) + (nI 1))) hd sz el s g fm hm so si sh ce ca td wa kp la bf oo bo pw ow tr))
      refine Ef.in (md := mX5_rule) (L := [some (.ref 0), some (.int a1), none]) rfl (Nat.le_of_ble_eq_true rfl) rfl ?_
      refine E_iload_n at_X5_rule_0 rfl ?_
      refine E_if (t := 16) (b := false) at_X5_rule_1 rfl ((cn_eq rfl (by decide : (0 : Int32).toInt = 0)).trans (decide_eq_false (by omega))) ?_
      refine E_iload_n rfl rfl ?_
      refine E_iconst (x := nI 1) rfl (by decide) ?_
      refine E_ic (t := 16) (b := false) rfl rfl ((cn_eq rfl (nI_toInt (by omega))).trans (decide_eq_false (by omega))) ?_
      refine E_aload_n rfl rfl ?_
      refine E_bipush (x := nI 6) rfl (by decide) ?_
      refine E_callV (v := some (.int (-6))) (As := [.ref 0, .int (nI 6)]) (r0 := []) (cs2 := (ww im lf s d k ls rf rz ra rn rq lt m1 m2 m3 m4 bd (fc.set 6 ((fc.getD 6 0) + (nI 1))) hd sz el s g fm hm so si sh ce ca td wa kp la bf oo bo pw ow tr)) rfl rfl rfl (Nat.le_of_ble_eq_true rfl) rfl (ab_rvOf w0 rfl) (L26_X5_refuse (by omega)) (by decide) w_lens ?_
      exact E_iret rfl rfl
    · show Ev ab_Z0 2 151 [.ref 65, .int a1] (ww im lf s d k ls rf rz ra rn rq lt m1 m2 m3 m4 bd (fc.set 6 ((fc.getD 6 0) + (nI 1))) hd sz el s g fm hm so si sh ce ca td wa kp la bf oo bo pw ow tr) (some (.int (-6)), (ww im lf s d k ls rf rz ra rn rq lt m1 m2 m3 m4 bd (fc.set 6 ((fc.getD 6 0) + (nI 1))) hd sz el s g (fm.set 6 ((fm.getD 6 0) + (nI 1))) hm so si sh ce ca td wa kp la bf oo bo pw ow tr))
      refine Ef.in (md := mX6_rule) (L := [some (.ref 65), some (.int a1), none]) rfl (Nat.le_of_ble_eq_true rfl) rfl ?_
      refine E_aload_n at_X6_rule_0 rfl ?_
      refine E_iload_n at_X6_rule_1 rfl ?_
      refine E_iconst (x := nI 0) at_X6_rule_2 (by decide) ?_
      refine E_iconst (x := nI 1) at_X6_rule_3 (by decide) ?_
      refine E_callV (v := some (.int (nI 0))) (As := [.ref 65, .int a1, .int (nI 0), .int (nI 1)]) (r0 := []) (cs2 := (ww im lf s d k ls rf rz ra rn rq lt m1 m2 m3 m4 bd (fc.set 6 ((fc.getD 6 0) + (nI 1))) hd sz el s g fm hm so si sh ce ca td wa kp la bf oo bo pw ow tr)) at_X6_rule_4 rfl rfl (Nat.le_of_ble_eq_true rfl) rfl (ab_rvOf w65 rfl) (L38_X6_isFrom (by omega) (by omega)) (by decide) rfl ?_
      refine E_if (t := 17) (b := false) at_X6_rule_7 rfl (by decide) ?_
      refine E_aload_n rfl rfl ?_
      refine E_bipush (x := (-6)) rfl (by decide) ?_
      refine E_callV (v := some (.int (-6))) (As := [.ref 65, .int (-6)]) (r0 := []) (cs2 := (ww im lf s d k ls rf rz ra rn rq lt m1 m2 m3 m4 bd (fc.set 6 ((fc.getD 6 0) + (nI 1))) hd sz el s g (fm.set 6 ((fm.getD 6 0) + (nI 1))) hm so si sh ce ca td wa kp la bf oo bo pw ow tr)) rfl rfl rfl (Nat.le_of_ble_eq_true rfl) rfl (ab_rvOf w65 rfl) (L28_X6_no (by omega)) (by decide) w_lens ?_
      exact E_iret rfl rfl
    · exact ⟨I, rfl, hf, iQ, iM, iT, iS, l_el, (lr.1), (lr.2.1), (lr.2.2.1), (by simp only [List.length_set]; exact (lr.2.2.2.1)), (by simp only [List.length_set]; exact (lr.2.2.2.2.1)), (lr.2.2.2.2.2.1), (lr.2.2.2.2.2.2.1), (lr.2.2.2.2.2.2.2.1), (lr.2.2.2.2.2.2.2.2.1), (lr.2.2.2.2.2.2.2.2.2.1), (lr.2.2.2.2.2.2.2.2.2.2.1), (lr.2.2.2.2.2.2.2.2.2.2.2.1), (lr.2.2.2.2.2.2.2.2.2.2.2.2.1), (lr.2.2.2.2.2.2.2.2.2.2.2.2.2.1), (lr.2.2.2.2.2.2.2.2.2.2.2.2.2.2.1), (lr.2.2.2.2.2.2.2.2.2.2.2.2.2.2.2.1), (lr.2.2.2.2.2.2.2.2.2.2.2.2.2.2.2.2.1), (lr.2.2.2.2.2.2.2.2.2.2.2.2.2.2.2.2.2.1), (lr.2.2.2.2.2.2.2.2.2.2.2.2.2.2.2.2.2.2.1), (lr.2.2.2.2.2.2.2.2.2.2.2.2.2.2.2.2.2.2.2.1), (lr.2.2.2.2.2.2.2.2.2.2.2.2.2.2.2.2.2.2.2.2)⟩
