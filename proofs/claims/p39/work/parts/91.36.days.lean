/-! days; by program (wip/tools/op.py) -/
section LM
variable {im : Int32} {lf : Int32} {s : ab_q} {d : ab_q} {k : ab_q} {ls : List Int32} {rf : Int32} {rz : Int32} {ra : Int32} {rn : Int32} {rq : ab_q} {lt : List Int32} {m1 : Int32} {m2 : Int32} {m3 : Int32} {m4 : Int32} {bd : List Int32} {fc : List Int32} {hd : Nat → Int32} {sz : Nat → Int32} {el : Nat → List Int64} {t : ab_q} {g : Nat → Int32} {fm : List Int32} {hm : List Nat} {so : List Nat} {si : List Nat} {sh : List Int32} {ce : List Int64} {ca : List Int64} {td : List Int32} {wa : List Int32} {kp : List Int32} {la : List Int32} {bf : List Int32} {oo : List Int32} {bo : List Int32} {pw : List Int32} {ow : List Int32} {tr : List Int32}
theorem L114_X5_isFrom {x0 : Nat} (h0 : x0 < 2147483648) (h1 : x0 < 1) : Ev ab_Z0 1 115 [.int (nI x0), .int (nI 1), .int (nI 40)] (ww im lf s d k ls rf rz ra rn rq lt m1 m2 m3 m4 bd fc hd sz el t g fm hm so si sh ce ca td wa kp la bf oo bo pw ow tr) (some (.int (nI 0)), (ww im lf s d k ls rf rz ra rn rq lt m1 m2 m3 m4 bd fc hd sz el t g fm hm so si sh ce ca td wa kp la bf oo bo pw ow tr)) := by
  refine Ef.in (md := mX5_isFrom) (L := [some (.int (nI x0)), some (.int (nI 1)), some (.int (nI 40))]) rfl (Nat.le_of_ble_eq_true rfl) rfl ?_
  refine E_iload_n rfl rfl ?_
  refine E_iload_n rfl rfl ?_
  refine E_ic (t := 14) (b := true) rfl rfl ((cn_lt (nI_toInt (by omega)) (nI_toInt (by omega))).trans (decide_eq_true (by omega))) ?_
  refine E_iconst (x := nI 0) rfl (by decide) ?_
  exact E_iret rfl rfl
theorem L115_X6_isFrom {x1 : Nat} (h0 : x1 < 2147483648) (h1 : x1 < 1) : Ev ab_Z0 1 134 [.ref 65, .int (nI x1), .int (nI 1), .int (nI 40)] (ww im lf s d k ls rf rz ra rn rq lt m1 m2 m3 m4 bd fc hd sz el t g fm hm so si sh ce ca td wa kp la bf oo bo pw ow tr) (some (.int (nI 0)), (ww im lf s d k ls rf rz ra rn rq lt m1 m2 m3 m4 bd fc hd sz el t g fm hm so si sh ce ca td wa kp la bf oo bo pw ow tr)) := by
  refine Ef.in (md := mX6_isFrom) (L := [some (.ref 65), some (.int (nI x1)), some (.int (nI 1)), some (.int (nI 40))]) rfl (Nat.le_of_ble_eq_true rfl) rfl ?_
  refine E_iload_n rfl rfl ?_
  refine E_iload_n rfl rfl ?_
  refine E_ic (t := 14) (b := true) rfl rfl ((cn_lt (nI_toInt (by omega)) (nI_toInt (by omega))).trans (decide_eq_true (by omega))) ?_
  refine E_iconst (x := nI 0) rfl (by decide) ?_
  exact E_iret rfl rfl
theorem L116_X5_isFrom {x0 : Nat} (h0 : x0 < 2147483648) (h1 : ¬ (x0 < 1)) (h2 : 40 < x0) : Ev ab_Z0 1 115 [.int (nI x0), .int (nI 1), .int (nI 40)] (ww im lf s d k ls rf rz ra rn rq lt m1 m2 m3 m4 bd fc hd sz el t g fm hm so si sh ce ca td wa kp la bf oo bo pw ow tr) (some (.int (nI 0)), (ww im lf s d k ls rf rz ra rn rq lt m1 m2 m3 m4 bd fc hd sz el t g fm hm so si sh ce ca td wa kp la bf oo bo pw ow tr)) := by
  refine Ef.in (md := mX5_isFrom) (L := [some (.int (nI x0)), some (.int (nI 1)), some (.int (nI 40))]) rfl (Nat.le_of_ble_eq_true rfl) rfl ?_
  refine E_iload_n rfl rfl ?_
  refine E_iload_n rfl rfl ?_
  refine E_ic (t := 14) (b := false) rfl rfl ((cn_lt (nI_toInt (by omega)) (nI_toInt (by omega))).trans (decide_eq_false (by omega))) ?_
  refine E_iload_n rfl rfl ?_
  refine E_iload_n rfl rfl ?_
  refine E_ic (t := 14) (b := true) rfl rfl ((cn_gt (nI_toInt (by omega)) (nI_toInt (by omega))).trans (decide_eq_true (by omega))) ?_
  refine E_iconst (x := nI 0) rfl (by decide) ?_
  exact E_iret rfl rfl
theorem L117_X6_isFrom {x1 : Nat} (h0 : x1 < 2147483648) (h1 : ¬ (x1 < 1)) (h2 : 40 < x1) : Ev ab_Z0 1 134 [.ref 65, .int (nI x1), .int (nI 1), .int (nI 40)] (ww im lf s d k ls rf rz ra rn rq lt m1 m2 m3 m4 bd fc hd sz el t g fm hm so si sh ce ca td wa kp la bf oo bo pw ow tr) (some (.int (nI 0)), (ww im lf s d k ls rf rz ra rn rq lt m1 m2 m3 m4 bd fc hd sz el t g fm hm so si sh ce ca td wa kp la bf oo bo pw ow tr)) := by
  refine Ef.in (md := mX6_isFrom) (L := [some (.ref 65), some (.int (nI x1)), some (.int (nI 1)), some (.int (nI 40))]) rfl (Nat.le_of_ble_eq_true rfl) rfl ?_
  refine E_iload_n rfl rfl ?_
  refine E_iload_n rfl rfl ?_
  refine E_ic (t := 14) (b := false) rfl rfl ((cn_lt (nI_toInt (by omega)) (nI_toInt (by omega))).trans (decide_eq_false (by omega))) ?_
  refine E_iload_n rfl rfl ?_
  refine E_iload_n rfl rfl ?_
  refine E_ic (t := 14) (b := true) rfl rfl ((cn_gt (nI_toInt (by omega)) (nI_toInt (by omega))).trans (decide_eq_true (by omega))) ?_
  refine E_iconst (x := nI 0) rfl (by decide) ?_
  exact E_iret rfl rfl
theorem L118_X5_isFrom {x0 : Nat} (h0 : x0 < 2147483648) (h1 : ¬ (x0 < 1)) (h2 : ¬ (40 < x0)) : Ev ab_Z0 1 115 [.int (nI x0), .int (nI 1), .int (nI 40)] (ww im lf s d k ls rf rz ra rn rq lt m1 m2 m3 m4 bd fc hd sz el t g fm hm so si sh ce ca td wa kp la bf oo bo pw ow tr) (some (.int (nI 1)), (ww im lf s d k ls rf rz ra rn rq lt m1 m2 m3 m4 bd fc hd sz el t g fm hm so si sh ce ca td wa kp la bf oo bo pw ow tr)) := by
  refine Ef.in (md := mX5_isFrom) (L := [some (.int (nI x0)), some (.int (nI 1)), some (.int (nI 40))]) rfl (Nat.le_of_ble_eq_true rfl) rfl ?_
  refine E_iload_n rfl rfl ?_
  refine E_iload_n rfl rfl ?_
  refine E_ic (t := 14) (b := false) rfl rfl ((cn_lt (nI_toInt (by omega)) (nI_toInt (by omega))).trans (decide_eq_false (by omega))) ?_
  refine E_iload_n rfl rfl ?_
  refine E_iload_n rfl rfl ?_
  refine E_ic (t := 14) (b := false) rfl rfl ((cn_gt (nI_toInt (by omega)) (nI_toInt (by omega))).trans (decide_eq_false (by omega))) ?_
  refine E_iconst (x := nI 1) rfl (by decide) ?_
  refine E_goto (t := 15) rfl rfl ?_
  exact E_iret rfl rfl
theorem L119_X6_isFrom {x1 : Nat} (h0 : x1 < 2147483648) (h1 : ¬ (x1 < 1)) (h2 : ¬ (40 < x1)) : Ev ab_Z0 1 134 [.ref 65, .int (nI x1), .int (nI 1), .int (nI 40)] (ww im lf s d k ls rf rz ra rn rq lt m1 m2 m3 m4 bd fc hd sz el t g fm hm so si sh ce ca td wa kp la bf oo bo pw ow tr) (some (.int (nI 1)), (ww im lf s d k ls rf rz ra rn rq lt m1 m2 m3 m4 bd fc hd sz el t g fm hm so si sh ce ca td wa kp la bf oo bo pw ow tr)) := by
  refine Ef.in (md := mX6_isFrom) (L := [some (.ref 65), some (.int (nI x1)), some (.int (nI 1)), some (.int (nI 40))]) rfl (Nat.le_of_ble_eq_true rfl) rfl ?_
  refine E_iload_n rfl rfl ?_
  refine E_iload_n rfl rfl ?_
  refine E_ic (t := 14) (b := false) rfl rfl ((cn_lt (nI_toInt (by omega)) (nI_toInt (by omega))).trans (decide_eq_false (by omega))) ?_
  refine E_iload_n rfl rfl ?_
  refine E_iload_n rfl rfl ?_
  refine E_ic (t := 14) (b := false) rfl rfl ((cn_gt (nI_toInt (by omega)) (nI_toInt (by omega))).trans (decide_eq_false (by omega))) ?_
  refine E_iconst (x := nI 1) rfl (by decide) ?_
  refine E_goto (t := 15) rfl rfl ?_
  exact E_iret rfl rfl
theorem L120_X5_isFrom {x0 : Int32} (h0 : x0.toInt < 0) (h1 : x0.toInt < 1) : Ev ab_Z0 1 115 [.int x0, .int (nI 1), .int (nI 40)] (ww im lf s d k ls rf rz ra rn rq lt m1 m2 m3 m4 bd fc hd sz el t g fm hm so si sh ce ca td wa kp la bf oo bo pw ow tr) (some (.int (nI 0)), (ww im lf s d k ls rf rz ra rn rq lt m1 m2 m3 m4 bd fc hd sz el t g fm hm so si sh ce ca td wa kp la bf oo bo pw ow tr)) := by
  refine Ef.in (md := mX5_isFrom) (L := [some (.int x0), some (.int (nI 1)), some (.int (nI 40))]) rfl (Nat.le_of_ble_eq_true rfl) rfl ?_
  refine E_iload_n rfl rfl ?_
  refine E_iload_n rfl rfl ?_
  refine E_ic (t := 14) (b := true) rfl rfl ((cn_lt rfl (nI_toInt (by omega))).trans (decide_eq_true (by omega))) ?_
  refine E_iconst (x := nI 0) rfl (by decide) ?_
  exact E_iret rfl rfl
theorem L121_X6_isFrom {x1 : Int32} (h0 : x1.toInt < 0) (h1 : x1.toInt < 1) : Ev ab_Z0 1 134 [.ref 65, .int x1, .int (nI 1), .int (nI 40)] (ww im lf s d k ls rf rz ra rn rq lt m1 m2 m3 m4 bd fc hd sz el t g fm hm so si sh ce ca td wa kp la bf oo bo pw ow tr) (some (.int (nI 0)), (ww im lf s d k ls rf rz ra rn rq lt m1 m2 m3 m4 bd fc hd sz el t g fm hm so si sh ce ca td wa kp la bf oo bo pw ow tr)) := by
  refine Ef.in (md := mX6_isFrom) (L := [some (.ref 65), some (.int x1), some (.int (nI 1)), some (.int (nI 40))]) rfl (Nat.le_of_ble_eq_true rfl) rfl ?_
  refine E_iload_n rfl rfl ?_
  refine E_iload_n rfl rfl ?_
  refine E_ic (t := 14) (b := true) rfl rfl ((cn_lt rfl (nI_toInt (by omega))).trans (decide_eq_true (by omega))) ?_
  refine E_iconst (x := nI 0) rfl (by decide) ?_
  exact E_iret rfl rfl
end LM
set_option maxHeartbeats 4000000 in
theorem op_days (x : St) (hx : wI x) (a1 : Int32) : ∃ (r : Int32) (x1 x2 : St), Ev ab_Z0 6 108 [.ref 0, .int a1] (wt x) (some (.int r), wt x1) ∧ Ev ab_Z0 7 202 [.ref 65, .int a1] (wt x1) (some (.int r), wt x2) ∧ wI x2 := by
  obtain ⟨im, lf, s, d, k, ls, rf, rz, ra, rn, rq, lt, m1, m2, m3, m4, bd, fc, hd, sz, el, t, g, fm, hm, so, si, sh, ce, ca, td, wa, kp, la, bf, oo, bo, pw, ow, tr⟩ := x
  obtain ⟨I, ts, hf, iQ, iM, iT, iS, l_el, lr⟩ := hx
  replace lr : Hd _ := lr
  have l_fc := lr.2.2.2.1
  have l_fm := lr.2.2.2.2.1
  subst ts
  obtain ⟨⟨i0, i1, i2, i3⟩, ⟨i4, i5, i6, i7, i8⟩, ⟨i9, i10⟩, I1, I2, I3, I4⟩ := id I
  by_cases f0 : (qM s) = 0
  · refine ⟨(-5), (im, lf, s, d, k, ls, rf, rz, ra, rn, rq, lt, m1, m2, m3, m4, bd, (fc.set 5 ((fc.getD 5 0) + (nI 1))), hd, sz, el, s, g, fm, hm, so, si, sh, ce, ca, td, wa, kp, la, bf, oo, bo, pw, ow, tr), (im, lf, s, d, k, ls, rf, rz, ra, rn, rq, lt, m1, m2, m3, m4, bd, (fc.set 5 ((fc.getD 5 0) + (nI 1))), hd, sz, el, s, g, (fm.set 5 ((fm.getD 5 0) + (nI 1))), hm, so, si, sh, ce, ca, td, wa, kp, la, bf, oo, bo, pw, ow, tr), ?_, ?_, ?_⟩
    · show Ev ab_Z0 6 108 [.ref 0, .int a1] (ww im lf s d k ls rf rz ra rn rq lt m1 m2 m3 m4 bd fc hd sz el s g fm hm so si sh ce ca td wa kp la bf oo bo pw ow tr) (some (.int (-5)), (ww im lf s d k ls rf rz ra rn rq lt m1 m2 m3 m4 bd (fc.set 5 ((fc.getD 5 0) + (nI 1))) hd sz el s g fm hm so si sh ce ca td wa kp la bf oo bo pw ow tr))
      refine Ef.in (md := mX5_days) (L := [some (.ref 0), some (.int a1), none]) rfl (Nat.le_of_ble_eq_true rfl) rfl ?_
      refine E_aload_n rfl rfl ?_
      refine E_getfield (v := .ref 1) rfl w0 rfl (by decide) rfl ?_
      refine E_getfield (v := .int (nI (qM s))) rfl w1 rfl (by decide) rfl ?_
      refine E_if (t := 16) (b := false) rfl rfl ((cn_ne (nI_toInt (by omega)) (by decide : (0 : Int32).toInt = 0)).trans (decide_eq_false (by omega))) ?_
      refine E_aload_n rfl rfl ?_
      refine E_iconst (x := nI 5) rfl (by decide) ?_
      refine E_callV (v := some (.int (-5))) (As := [.ref 0, .int (nI 5)]) (r0 := []) (cs2 := (ww im lf s d k ls rf rz ra rn rq lt m1 m2 m3 m4 bd (fc.set 5 ((fc.getD 5 0) + (nI 1))) hd sz el s g fm hm so si sh ce ca td wa kp la bf oo bo pw ow tr)) rfl rfl rfl (Nat.le_of_ble_eq_true rfl) rfl (ab_rvOf w0 rfl) (L18_X5_refuse (by omega)) (by decide) w_lens ?_
      exact E_iret rfl rfl
    · show Ev ab_Z0 7 202 [.ref 65, .int a1] (ww im lf s d k ls rf rz ra rn rq lt m1 m2 m3 m4 bd (fc.set 5 ((fc.getD 5 0) + (nI 1))) hd sz el s g fm hm so si sh ce ca td wa kp la bf oo bo pw ow tr) (some (.int (-5)), (ww im lf s d k ls rf rz ra rn rq lt m1 m2 m3 m4 bd (fc.set 5 ((fc.getD 5 0) + (nI 1))) hd sz el s g (fm.set 5 ((fm.getD 5 0) + (nI 1))) hm so si sh ce ca td wa kp la bf oo bo pw ow tr))
      refine Ef.in (md := mX6_days) (L := [some (.ref 65), some (.int a1), none]) rfl (Nat.le_of_ble_eq_true rfl) rfl ?_
      refine E_aload_n rfl rfl ?_
      refine E_getfield (v := .int (nI (qM s))) rfl w65 rfl (by decide) rfl ?_
      refine E_if (t := 14) (b := false) rfl rfl ((cn_ne (nI_toInt (by omega)) (by decide : (0 : Int32).toInt = 0)).trans (decide_eq_false (by omega))) ?_
      refine E_aload_n rfl rfl ?_
      refine E_bipush (x := (-5)) rfl (by decide) ?_
      refine E_callV (v := some (.int (-5))) (As := [.ref 65, .int (-5)]) (r0 := []) (cs2 := (ww im lf s d k ls rf rz ra rn rq lt m1 m2 m3 m4 bd (fc.set 5 ((fc.getD 5 0) + (nI 1))) hd sz el s g (fm.set 5 ((fm.getD 5 0) + (nI 1))) hm so si sh ce ca td wa kp la bf oo bo pw ow tr)) rfl rfl rfl (Nat.le_of_ble_eq_true rfl) rfl (ab_rvOf w65 rfl) (L19_X6_no (by omega)) (by decide) w_lens ?_
      exact E_iret rfl rfl
    · exact ⟨I, rfl, hf, iQ, iM, iT, iS, l_el, (lr.1), (lr.2.1), (lr.2.2.1), (by simp only [List.length_set]; exact (lr.2.2.2.1)), (by simp only [List.length_set]; exact (lr.2.2.2.2.1)), (lr.2.2.2.2.2.1), (lr.2.2.2.2.2.2.1), (lr.2.2.2.2.2.2.2.1), (lr.2.2.2.2.2.2.2.2.1), (lr.2.2.2.2.2.2.2.2.2.1), (lr.2.2.2.2.2.2.2.2.2.2.1), (lr.2.2.2.2.2.2.2.2.2.2.2.1), (lr.2.2.2.2.2.2.2.2.2.2.2.2.1), (lr.2.2.2.2.2.2.2.2.2.2.2.2.2.1), (lr.2.2.2.2.2.2.2.2.2.2.2.2.2.2.1), (lr.2.2.2.2.2.2.2.2.2.2.2.2.2.2.2.1), (lr.2.2.2.2.2.2.2.2.2.2.2.2.2.2.2.2.1), (lr.2.2.2.2.2.2.2.2.2.2.2.2.2.2.2.2.2.1), (lr.2.2.2.2.2.2.2.2.2.2.2.2.2.2.2.2.2.2.1), (lr.2.2.2.2.2.2.2.2.2.2.2.2.2.2.2.2.2.2.2.1), (lr.2.2.2.2.2.2.2.2.2.2.2.2.2.2.2.2.2.2.2.2)⟩
  · rcases ab_int a1 with ⟨a1k, f1, rfl⟩ | f1
    · by_cases f2 : a1k < 1
      · refine ⟨(-6), (im, lf, s, d, k, ls, rf, rz, ra, rn, rq, lt, m1, m2, m3, m4, bd, (fc.set 6 ((fc.getD 6 0) + (nI 1))), hd, sz, el, s, g, fm, hm, so, si, sh, ce, ca, td, wa, kp, la, bf, oo, bo, pw, ow, tr), (im, lf, s, d, k, ls, rf, rz, ra, rn, rq, lt, m1, m2, m3, m4, bd, (fc.set 6 ((fc.getD 6 0) + (nI 1))), hd, sz, el, s, g, (fm.set 6 ((fm.getD 6 0) + (nI 1))), hm, so, si, sh, ce, ca, td, wa, kp, la, bf, oo, bo, pw, ow, tr), ?_, ?_, ?_⟩
        · show Ev ab_Z0 6 108 [.ref 0, .int (nI a1k)] (ww im lf s d k ls rf rz ra rn rq lt m1 m2 m3 m4 bd fc hd sz el s g fm hm so si sh ce ca td wa kp la bf oo bo pw ow tr) (some (.int (-6)), (ww im lf s d k ls rf rz ra rn rq lt m1 m2 m3 m4 bd (fc.set 6 ((fc.getD 6 0) + (nI 1))) hd sz el s g fm hm so si sh ce ca td wa kp la bf oo bo pw ow tr))
          refine Ef.in (md := mX5_days) (L := [some (.ref 0), some (.int (nI a1k)), none]) rfl (Nat.le_of_ble_eq_true rfl) rfl ?_
          refine E_aload_n rfl rfl ?_
          refine E_getfield (v := .ref 1) rfl w0 rfl (by decide) rfl ?_
          refine E_getfield (v := .int (nI (qM s))) rfl w1 rfl (by decide) rfl ?_
          refine E_if (t := 16) (b := true) rfl rfl ((cn_ne (nI_toInt (by omega)) (by decide : (0 : Int32).toInt = 0)).trans (decide_eq_true (by omega))) ?_
          refine E_iload_n rfl rfl ?_
          refine E_iconst (x := nI 1) rfl (by decide) ?_
          refine E_bipush (x := nI 40) rfl (by decide) ?_
          refine E_callS (v := some (.int (nI 0))) (As := [.int (nI a1k), .int (nI 1), .int (nI 40)]) (r0 := []) (cs2 := (ww im lf s d k ls rf rz ra rn rq lt m1 m2 m3 m4 bd fc hd sz el s g fm hm so si sh ce ca td wa kp la bf oo bo pw ow tr)) rfl rfl rfl (Nat.le_of_ble_eq_true rfl) rfl (L114_X5_isFrom (by omega) (by omega)) (by decide) rfl ?_
          refine E_if (t := 33) (b := false) rfl rfl (by decide) ?_
          refine E_aload_n rfl rfl ?_
          refine E_bipush (x := nI 6) rfl (by decide) ?_
          refine E_callV (v := some (.int (-6))) (As := [.ref 0, .int (nI 6)]) (r0 := []) (cs2 := (ww im lf s d k ls rf rz ra rn rq lt m1 m2 m3 m4 bd (fc.set 6 ((fc.getD 6 0) + (nI 1))) hd sz el s g fm hm so si sh ce ca td wa kp la bf oo bo pw ow tr)) rfl rfl rfl (Nat.le_of_ble_eq_true rfl) rfl (ab_rvOf w0 rfl) (L26_X5_refuse (by omega)) (by decide) w_lens ?_
          exact E_iret rfl rfl
        · show Ev ab_Z0 7 202 [.ref 65, .int (nI a1k)] (ww im lf s d k ls rf rz ra rn rq lt m1 m2 m3 m4 bd (fc.set 6 ((fc.getD 6 0) + (nI 1))) hd sz el s g fm hm so si sh ce ca td wa kp la bf oo bo pw ow tr) (some (.int (-6)), (ww im lf s d k ls rf rz ra rn rq lt m1 m2 m3 m4 bd (fc.set 6 ((fc.getD 6 0) + (nI 1))) hd sz el s g (fm.set 6 ((fm.getD 6 0) + (nI 1))) hm so si sh ce ca td wa kp la bf oo bo pw ow tr))
          refine Ef.in (md := mX6_days) (L := [some (.ref 65), some (.int (nI a1k)), none]) rfl (Nat.le_of_ble_eq_true rfl) rfl ?_
          refine E_aload_n rfl rfl ?_
          refine E_getfield (v := .int (nI (qM s))) rfl w65 rfl (by decide) rfl ?_
          refine E_if (t := 14) (b := true) rfl rfl ((cn_ne (nI_toInt (by omega)) (by decide : (0 : Int32).toInt = 0)).trans (decide_eq_true (by omega))) ?_
          refine E_aload_n rfl rfl ?_
          refine E_iload_n rfl rfl ?_
          refine E_iconst (x := nI 1) rfl (by decide) ?_
          refine E_bipush (x := nI 40) rfl (by decide) ?_
          refine E_callV (v := some (.int (nI 0))) (As := [.ref 65, .int (nI a1k), .int (nI 1), .int (nI 40)]) (r0 := []) (cs2 := (ww im lf s d k ls rf rz ra rn rq lt m1 m2 m3 m4 bd (fc.set 6 ((fc.getD 6 0) + (nI 1))) hd sz el s g fm hm so si sh ce ca td wa kp la bf oo bo pw ow tr)) rfl rfl rfl (Nat.le_of_ble_eq_true rfl) rfl (ab_rvOf w65 rfl) (L115_X6_isFrom (by omega) (by omega)) (by decide) rfl ?_
          refine E_if (t := 32) (b := false) rfl rfl (by decide) ?_
          refine E_aload_n rfl rfl ?_
          refine E_bipush (x := (-6)) rfl (by decide) ?_
          refine E_callV (v := some (.int (-6))) (As := [.ref 65, .int (-6)]) (r0 := []) (cs2 := (ww im lf s d k ls rf rz ra rn rq lt m1 m2 m3 m4 bd (fc.set 6 ((fc.getD 6 0) + (nI 1))) hd sz el s g (fm.set 6 ((fm.getD 6 0) + (nI 1))) hm so si sh ce ca td wa kp la bf oo bo pw ow tr)) rfl rfl rfl (Nat.le_of_ble_eq_true rfl) rfl (ab_rvOf w65 rfl) (L28_X6_no (by omega)) (by decide) w_lens ?_
          exact E_iret rfl rfl
        · exact ⟨I, rfl, hf, iQ, iM, iT, iS, l_el, (lr.1), (lr.2.1), (lr.2.2.1), (by simp only [List.length_set]; exact (lr.2.2.2.1)), (by simp only [List.length_set]; exact (lr.2.2.2.2.1)), (lr.2.2.2.2.2.1), (lr.2.2.2.2.2.2.1), (lr.2.2.2.2.2.2.2.1), (lr.2.2.2.2.2.2.2.2.1), (lr.2.2.2.2.2.2.2.2.2.1), (lr.2.2.2.2.2.2.2.2.2.2.1), (lr.2.2.2.2.2.2.2.2.2.2.2.1), (lr.2.2.2.2.2.2.2.2.2.2.2.2.1), (lr.2.2.2.2.2.2.2.2.2.2.2.2.2.1), (lr.2.2.2.2.2.2.2.2.2.2.2.2.2.2.1), (lr.2.2.2.2.2.2.2.2.2.2.2.2.2.2.2.1), (lr.2.2.2.2.2.2.2.2.2.2.2.2.2.2.2.2.1), (lr.2.2.2.2.2.2.2.2.2.2.2.2.2.2.2.2.2.1), (lr.2.2.2.2.2.2.2.2.2.2.2.2.2.2.2.2.2.2.1), (lr.2.2.2.2.2.2.2.2.2.2.2.2.2.2.2.2.2.2.2.1), (lr.2.2.2.2.2.2.2.2.2.2.2.2.2.2.2.2.2.2.2.2)⟩
      · by_cases f3 : 40 < a1k
        · refine ⟨(-6), (im, lf, s, d, k, ls, rf, rz, ra, rn, rq, lt, m1, m2, m3, m4, bd, (fc.set 6 ((fc.getD 6 0) + (nI 1))), hd, sz, el, s, g, fm, hm, so, si, sh, ce, ca, td, wa, kp, la, bf, oo, bo, pw, ow, tr), (im, lf, s, d, k, ls, rf, rz, ra, rn, rq, lt, m1, m2, m3, m4, bd, (fc.set 6 ((fc.getD 6 0) + (nI 1))), hd, sz, el, s, g, (fm.set 6 ((fm.getD 6 0) + (nI 1))), hm, so, si, sh, ce, ca, td, wa, kp, la, bf, oo, bo, pw, ow, tr), ?_, ?_, ?_⟩
          · show Ev ab_Z0 6 108 [.ref 0, .int (nI a1k)] (ww im lf s d k ls rf rz ra rn rq lt m1 m2 m3 m4 bd fc hd sz el s g fm hm so si sh ce ca td wa kp la bf oo bo pw ow tr) (some (.int (-6)), (ww im lf s d k ls rf rz ra rn rq lt m1 m2 m3 m4 bd (fc.set 6 ((fc.getD 6 0) + (nI 1))) hd sz el s g fm hm so si sh ce ca td wa kp la bf oo bo pw ow tr))
            refine Ef.in (md := mX5_days) (L := [some (.ref 0), some (.int (nI a1k)), none]) rfl (Nat.le_of_ble_eq_true rfl) rfl ?_
            refine E_aload_n rfl rfl ?_
            refine E_getfield (v := .ref 1) rfl w0 rfl (by decide) rfl ?_
            refine E_getfield (v := .int (nI (qM s))) rfl w1 rfl (by decide) rfl ?_
            refine E_if (t := 16) (b := true) rfl rfl ((cn_ne (nI_toInt (by omega)) (by decide : (0 : Int32).toInt = 0)).trans (decide_eq_true (by omega))) ?_
            refine E_iload_n rfl rfl ?_
            refine E_iconst (x := nI 1) rfl (by decide) ?_
            refine E_bipush (x := nI 40) rfl (by decide) ?_
            refine E_callS (v := some (.int (nI 0))) (As := [.int (nI a1k), .int (nI 1), .int (nI 40)]) (r0 := []) (cs2 := (ww im lf s d k ls rf rz ra rn rq lt m1 m2 m3 m4 bd fc hd sz el s g fm hm so si sh ce ca td wa kp la bf oo bo pw ow tr)) rfl rfl rfl (Nat.le_of_ble_eq_true rfl) rfl (L116_X5_isFrom (by omega) (by omega) (by omega)) (by decide) rfl ?_
            refine E_if (t := 33) (b := false) rfl rfl (by decide) ?_
            refine E_aload_n rfl rfl ?_
            refine E_bipush (x := nI 6) rfl (by decide) ?_
            refine E_callV (v := some (.int (-6))) (As := [.ref 0, .int (nI 6)]) (r0 := []) (cs2 := (ww im lf s d k ls rf rz ra rn rq lt m1 m2 m3 m4 bd (fc.set 6 ((fc.getD 6 0) + (nI 1))) hd sz el s g fm hm so si sh ce ca td wa kp la bf oo bo pw ow tr)) rfl rfl rfl (Nat.le_of_ble_eq_true rfl) rfl (ab_rvOf w0 rfl) (L26_X5_refuse (by omega)) (by decide) w_lens ?_
            exact E_iret rfl rfl
          · show Ev ab_Z0 7 202 [.ref 65, .int (nI a1k)] (ww im lf s d k ls rf rz ra rn rq lt m1 m2 m3 m4 bd (fc.set 6 ((fc.getD 6 0) + (nI 1))) hd sz el s g fm hm so si sh ce ca td wa kp la bf oo bo pw ow tr) (some (.int (-6)), (ww im lf s d k ls rf rz ra rn rq lt m1 m2 m3 m4 bd (fc.set 6 ((fc.getD 6 0) + (nI 1))) hd sz el s g (fm.set 6 ((fm.getD 6 0) + (nI 1))) hm so si sh ce ca td wa kp la bf oo bo pw ow tr))
            refine Ef.in (md := mX6_days) (L := [some (.ref 65), some (.int (nI a1k)), none]) rfl (Nat.le_of_ble_eq_true rfl) rfl ?_
            refine E_aload_n rfl rfl ?_
            refine E_getfield (v := .int (nI (qM s))) rfl w65 rfl (by decide) rfl ?_
            refine E_if (t := 14) (b := true) rfl rfl ((cn_ne (nI_toInt (by omega)) (by decide : (0 : Int32).toInt = 0)).trans (decide_eq_true (by omega))) ?_
            refine E_aload_n rfl rfl ?_
            refine E_iload_n rfl rfl ?_
            refine E_iconst (x := nI 1) rfl (by decide) ?_
            refine E_bipush (x := nI 40) rfl (by decide) ?_
            refine E_callV (v := some (.int (nI 0))) (As := [.ref 65, .int (nI a1k), .int (nI 1), .int (nI 40)]) (r0 := []) (cs2 := (ww im lf s d k ls rf rz ra rn rq lt m1 m2 m3 m4 bd (fc.set 6 ((fc.getD 6 0) + (nI 1))) hd sz el s g fm hm so si sh ce ca td wa kp la bf oo bo pw ow tr)) rfl rfl rfl (Nat.le_of_ble_eq_true rfl) rfl (ab_rvOf w65 rfl) (L117_X6_isFrom (by omega) (by omega) (by omega)) (by decide) rfl ?_
            refine E_if (t := 32) (b := false) rfl rfl (by decide) ?_
            refine E_aload_n rfl rfl ?_
            refine E_bipush (x := (-6)) rfl (by decide) ?_
            refine E_callV (v := some (.int (-6))) (As := [.ref 65, .int (-6)]) (r0 := []) (cs2 := (ww im lf s d k ls rf rz ra rn rq lt m1 m2 m3 m4 bd (fc.set 6 ((fc.getD 6 0) + (nI 1))) hd sz el s g (fm.set 6 ((fm.getD 6 0) + (nI 1))) hm so si sh ce ca td wa kp la bf oo bo pw ow tr)) rfl rfl rfl (Nat.le_of_ble_eq_true rfl) rfl (ab_rvOf w65 rfl) (L28_X6_no (by omega)) (by decide) w_lens ?_
            exact E_iret rfl rfl
          · exact ⟨I, rfl, hf, iQ, iM, iT, iS, l_el, (lr.1), (lr.2.1), (lr.2.2.1), (by simp only [List.length_set]; exact (lr.2.2.2.1)), (by simp only [List.length_set]; exact (lr.2.2.2.2.1)), (lr.2.2.2.2.2.1), (lr.2.2.2.2.2.2.1), (lr.2.2.2.2.2.2.2.1), (lr.2.2.2.2.2.2.2.2.1), (lr.2.2.2.2.2.2.2.2.2.1), (lr.2.2.2.2.2.2.2.2.2.2.1), (lr.2.2.2.2.2.2.2.2.2.2.2.1), (lr.2.2.2.2.2.2.2.2.2.2.2.2.1), (lr.2.2.2.2.2.2.2.2.2.2.2.2.2.1), (lr.2.2.2.2.2.2.2.2.2.2.2.2.2.2.1), (lr.2.2.2.2.2.2.2.2.2.2.2.2.2.2.2.1), (lr.2.2.2.2.2.2.2.2.2.2.2.2.2.2.2.2.1), (lr.2.2.2.2.2.2.2.2.2.2.2.2.2.2.2.2.2.1), (lr.2.2.2.2.2.2.2.2.2.2.2.2.2.2.2.2.2.2.1), (lr.2.2.2.2.2.2.2.2.2.2.2.2.2.2.2.2.2.2.2.1), (lr.2.2.2.2.2.2.2.2.2.2.2.2.2.2.2.2.2.2.2.2)⟩
        · have hI9 := (dnI_I I (by omega) a1k).1
          obtain ⟨a9, b9, bf9, hb9, K9⟩ : ∃ (a9 b9 : Int32) (bf9 : List Int32), bf9.length = 100 ∧ ∀ r, Ef ab_Z0 6 mX6_days (34, [some (.ref 65), some (.int (nI a1k)), some (.int (nI a1k))], [], (ww im lf (dnI s a1k) d k ls rf rz ra rn rq lt m1 m2 m3 m4 bd fc hd sz el (dnI s a1k) (fUp (fUp g 36 a9) 37 b9) fm hm so si sh ce ca td wa kp la bf9 oo bo pw ow tr)) r → Ef ab_Z0 6 mX6_days (34, [some (.ref 65), some (.int (nI a1k)), some (.int (nI 0))], [], (ww im lf (dnI s a1k) d k ls rf rz ra rn rq lt m1 m2 m3 m4 bd fc hd sz el s g fm hm so si sh ce ca td wa kp la bf oo bo pw ow tr)) r := dn_m0 I (by omega) (by omega) (lr.2.2.2.2.2.2.2.2.2.2.2.2.2.2.2.1)
          refine ⟨(qGs (dnI s a1k) (qM (dnI s a1k))), (im, lf, (dnI s a1k), d, k, ls, rf, rz, ra, rn, rq, lt, m1, m2, m3, m4, bd, fc, hd, sz, el, s, g, fm, hm, so, si, sh, ce, ca, td, wa, kp, la, bf, oo, bo, pw, ow, tr), (im, lf, (dnI s a1k), d, k, ls, rf, rz, ra, rn, rq, lt, m1, m2, m3, m4, bd, fc, hd, sz, el, (dnI s a1k), (fUp (fUp g 36 a9) 37 b9), fm, hm, so, si, sh, ce, ca, td, wa, kp, la, bf9, oo, bo, pw, ow, tr), ?_, ?_, ?_⟩
          · show Ev ab_Z0 6 108 [.ref 0, .int (nI a1k)] (ww im lf s d k ls rf rz ra rn rq lt m1 m2 m3 m4 bd fc hd sz el s g fm hm so si sh ce ca td wa kp la bf oo bo pw ow tr) (some (.int (qGs (dnI s a1k) (qM (dnI s a1k)))), (ww im lf (dnI s a1k) d k ls rf rz ra rn rq lt m1 m2 m3 m4 bd fc hd sz el s g fm hm so si sh ce ca td wa kp la bf oo bo pw ow tr))
            refine Ef.in (md := mX5_days) (L := [some (.ref 0), some (.int (nI a1k)), none]) rfl (Nat.le_of_ble_eq_true rfl) rfl ?_
            refine E_aload_n rfl rfl ?_
            refine E_getfield (v := .ref 1) rfl w0 rfl (by decide) rfl ?_
            refine E_getfield (v := .int (nI (qM s))) rfl w1 rfl (by decide) rfl ?_
            refine E_if (t := 16) (b := true) rfl rfl ((cn_ne (nI_toInt (by omega)) (by decide : (0 : Int32).toInt = 0)).trans (decide_eq_true (by omega))) ?_
            refine E_iload_n rfl rfl ?_
            refine E_iconst (x := nI 1) rfl (by decide) ?_
            refine E_bipush (x := nI 40) rfl (by decide) ?_
            refine E_callS (v := some (.int (nI 1))) (As := [.int (nI a1k), .int (nI 1), .int (nI 40)]) (r0 := []) (cs2 := (ww im lf s d k ls rf rz ra rn rq lt m1 m2 m3 m4 bd fc hd sz el s g fm hm so si sh ce ca td wa kp la bf oo bo pw ow tr)) rfl rfl rfl (Nat.le_of_ble_eq_true rfl) rfl (L118_X5_isFrom (by omega) (by omega) (by omega)) (by decide) rfl ?_
            refine E_if (t := 33) (b := true) rfl rfl (by decide) ?_
            refine E_iconst (x := nI 0) rfl (by decide) ?_
            refine E_istore_n (L2 := [some (.ref 0), some (.int (nI a1k)), some (.int (nI 0))]) rfl rfl ?_
            refine dn_c I (by omega) (by omega) ?_ a1k 0 (Nat.zero_add _)
            refine E_aload_n rfl rfl ?_
            refine E_getfield (v := .ref 1) rfl w0 rfl (by decide) rfl ?_
            refine E_callV (v := some (.int (qGs (dnI s a1k) (qM (dnI s a1k))))) (As := [.ref 1]) (r0 := []) (cs2 := (ww im lf (dnI s a1k) d k ls rf rz ra rn rq lt m1 m2 m3 m4 bd fc hd sz el s g fm hm so si sh ce ca td wa kp la bf oo bo pw ow tr)) rfl rfl rfl (Nat.le_of_ble_eq_true rfl) rfl (ab_rvOf w1 rfl) (sq_grantedTogether w_q1 hI9) (by decide) rfl ?_
            exact E_iret rfl rfl
          · show Ev ab_Z0 7 202 [.ref 65, .int (nI a1k)] (ww im lf (dnI s a1k) d k ls rf rz ra rn rq lt m1 m2 m3 m4 bd fc hd sz el s g fm hm so si sh ce ca td wa kp la bf oo bo pw ow tr) (some (.int (qGs (dnI s a1k) (qM (dnI s a1k)))), (ww im lf (dnI s a1k) d k ls rf rz ra rn rq lt m1 m2 m3 m4 bd fc hd sz el (dnI s a1k) (fUp (fUp g 36 a9) 37 b9) fm hm so si sh ce ca td wa kp la bf9 oo bo pw ow tr))
            refine Ef.in (md := mX6_days) (L := [some (.ref 65), some (.int (nI a1k)), none]) rfl (Nat.le_of_ble_eq_true rfl) rfl ?_
            refine E_aload_n rfl rfl ?_
            refine E_getfield (v := .int (nI (qM s))) rfl w65 rfl (by decide) rfl ?_
            refine E_if (t := 14) (b := true) rfl rfl ((cn_ne (nI_toInt (by omega)) (by decide : (0 : Int32).toInt = 0)).trans (decide_eq_true (by omega))) ?_
            refine E_aload_n rfl rfl ?_
            refine E_iload_n rfl rfl ?_
            refine E_iconst (x := nI 1) rfl (by decide) ?_
            refine E_bipush (x := nI 40) rfl (by decide) ?_
            refine E_callV (v := some (.int (nI 1))) (As := [.ref 65, .int (nI a1k), .int (nI 1), .int (nI 40)]) (r0 := []) (cs2 := (ww im lf (dnI s a1k) d k ls rf rz ra rn rq lt m1 m2 m3 m4 bd fc hd sz el s g fm hm so si sh ce ca td wa kp la bf oo bo pw ow tr)) rfl rfl rfl (Nat.le_of_ble_eq_true rfl) rfl (ab_rvOf w65 rfl) (L119_X6_isFrom (by omega) (by omega) (by omega)) (by decide) rfl ?_
            refine E_if (t := 32) (b := true) rfl rfl (by decide) ?_
            refine E_iconst (x := nI 0) rfl (by decide) ?_
            refine E_istore_n (L2 := [some (.ref 65), some (.int (nI a1k)), some (.int (nI 0))]) rfl rfl ?_
            refine K9 _ ?_
            refine E_iload_n rfl rfl ?_
            refine E_iload_n rfl rfl ?_
            refine E_ic (t := 49) (b := true) rfl rfl ((cn_ge (nI_toInt (by omega)) (nI_toInt (by omega))).trans (decide_eq_true (by omega))) ?_
            refine E_aload_n rfl rfl ?_
            refine E_callV (v := some (.int (qGs (dnI s a1k) (qM (dnI s a1k))))) (As := [.ref 65]) (r0 := []) (cs2 := (ww im lf (dnI s a1k) d k ls rf rz ra rn rq lt m1 m2 m3 m4 bd fc hd sz el (dnI s a1k) (fUp (fUp g 36 a9) 37 b9) fm hm so si sh ce ca td wa kp la bf9 oo bo pw ow tr)) rfl rfl rfl (Nat.le_of_ble_eq_true rfl) rfl (ab_rvOf w65 rfl) (mo_allGranted w_m hI9) (by decide) rfl ?_
            exact E_iret rfl rfl
          · exact ⟨hI9, rfl, hf, iQ, iM, iT, (iS.n (s2 := (dnI s a1k)) (Nat.le_of_eq (dnI_I I (by omega) _).2.2.symm)), l_el, (lr.1), (lr.2.1), (lr.2.2.1), (lr.2.2.2.1), (lr.2.2.2.2.1), (lr.2.2.2.2.2.1), (lr.2.2.2.2.2.2.1), (lr.2.2.2.2.2.2.2.1), (lr.2.2.2.2.2.2.2.2.1), (lr.2.2.2.2.2.2.2.2.2.1), (lr.2.2.2.2.2.2.2.2.2.2.1), (lr.2.2.2.2.2.2.2.2.2.2.2.1), (lr.2.2.2.2.2.2.2.2.2.2.2.2.1), (lr.2.2.2.2.2.2.2.2.2.2.2.2.2.1), (lr.2.2.2.2.2.2.2.2.2.2.2.2.2.2.1), hb9, (lr.2.2.2.2.2.2.2.2.2.2.2.2.2.2.2.2.1), (lr.2.2.2.2.2.2.2.2.2.2.2.2.2.2.2.2.2.1), (lr.2.2.2.2.2.2.2.2.2.2.2.2.2.2.2.2.2.2.1), (lr.2.2.2.2.2.2.2.2.2.2.2.2.2.2.2.2.2.2.2.1), (lr.2.2.2.2.2.2.2.2.2.2.2.2.2.2.2.2.2.2.2.2)⟩
    · refine ⟨(-6), (im, lf, s, d, k, ls, rf, rz, ra, rn, rq, lt, m1, m2, m3, m4, bd, (fc.set 6 ((fc.getD 6 0) + (nI 1))), hd, sz, el, s, g, fm, hm, so, si, sh, ce, ca, td, wa, kp, la, bf, oo, bo, pw, ow, tr), (im, lf, s, d, k, ls, rf, rz, ra, rn, rq, lt, m1, m2, m3, m4, bd, (fc.set 6 ((fc.getD 6 0) + (nI 1))), hd, sz, el, s, g, (fm.set 6 ((fm.getD 6 0) + (nI 1))), hm, so, si, sh, ce, ca, td, wa, kp, la, bf, oo, bo, pw, ow, tr), ?_, ?_, ?_⟩
      · show Ev ab_Z0 6 108 [.ref 0, .int a1] (ww im lf s d k ls rf rz ra rn rq lt m1 m2 m3 m4 bd fc hd sz el s g fm hm so si sh ce ca td wa kp la bf oo bo pw ow tr) (some (.int (-6)), (ww im lf s d k ls rf rz ra rn rq lt m1 m2 m3 m4 bd (fc.set 6 ((fc.getD 6 0) + (nI 1))) hd sz el s g fm hm so si sh ce ca td wa kp la bf oo bo pw ow tr))
        refine Ef.in (md := mX5_days) (L := [some (.ref 0), some (.int a1), none]) rfl (Nat.le_of_ble_eq_true rfl) rfl ?_
        refine E_aload_n rfl rfl ?_
        refine E_getfield (v := .ref 1) rfl w0 rfl (by decide) rfl ?_
        refine E_getfield (v := .int (nI (qM s))) rfl w1 rfl (by decide) rfl ?_
        refine E_if (t := 16) (b := true) rfl rfl ((cn_ne (nI_toInt (by omega)) (by decide : (0 : Int32).toInt = 0)).trans (decide_eq_true (by omega))) ?_
        refine E_iload_n rfl rfl ?_
        refine E_iconst (x := nI 1) rfl (by decide) ?_
        refine E_bipush (x := nI 40) rfl (by decide) ?_
        refine E_callS (v := some (.int (nI 0))) (As := [.int a1, .int (nI 1), .int (nI 40)]) (r0 := []) (cs2 := (ww im lf s d k ls rf rz ra rn rq lt m1 m2 m3 m4 bd fc hd sz el s g fm hm so si sh ce ca td wa kp la bf oo bo pw ow tr)) rfl rfl rfl (Nat.le_of_ble_eq_true rfl) rfl (L120_X5_isFrom (by omega) (by omega)) (by decide) rfl ?_
        refine E_if (t := 33) (b := false) rfl rfl (by decide) ?_
        refine E_aload_n rfl rfl ?_
        refine E_bipush (x := nI 6) rfl (by decide) ?_
        refine E_callV (v := some (.int (-6))) (As := [.ref 0, .int (nI 6)]) (r0 := []) (cs2 := (ww im lf s d k ls rf rz ra rn rq lt m1 m2 m3 m4 bd (fc.set 6 ((fc.getD 6 0) + (nI 1))) hd sz el s g fm hm so si sh ce ca td wa kp la bf oo bo pw ow tr)) rfl rfl rfl (Nat.le_of_ble_eq_true rfl) rfl (ab_rvOf w0 rfl) (L26_X5_refuse (by omega)) (by decide) w_lens ?_
        exact E_iret rfl rfl
      · show Ev ab_Z0 7 202 [.ref 65, .int a1] (ww im lf s d k ls rf rz ra rn rq lt m1 m2 m3 m4 bd (fc.set 6 ((fc.getD 6 0) + (nI 1))) hd sz el s g fm hm so si sh ce ca td wa kp la bf oo bo pw ow tr) (some (.int (-6)), (ww im lf s d k ls rf rz ra rn rq lt m1 m2 m3 m4 bd (fc.set 6 ((fc.getD 6 0) + (nI 1))) hd sz el s g (fm.set 6 ((fm.getD 6 0) + (nI 1))) hm so si sh ce ca td wa kp la bf oo bo pw ow tr))
        refine Ef.in (md := mX6_days) (L := [some (.ref 65), some (.int a1), none]) rfl (Nat.le_of_ble_eq_true rfl) rfl ?_
        refine E_aload_n rfl rfl ?_
        refine E_getfield (v := .int (nI (qM s))) rfl w65 rfl (by decide) rfl ?_
        refine E_if (t := 14) (b := true) rfl rfl ((cn_ne (nI_toInt (by omega)) (by decide : (0 : Int32).toInt = 0)).trans (decide_eq_true (by omega))) ?_
        refine E_aload_n rfl rfl ?_
        refine E_iload_n rfl rfl ?_
        refine E_iconst (x := nI 1) rfl (by decide) ?_
        refine E_bipush (x := nI 40) rfl (by decide) ?_
        refine E_callV (v := some (.int (nI 0))) (As := [.ref 65, .int a1, .int (nI 1), .int (nI 40)]) (r0 := []) (cs2 := (ww im lf s d k ls rf rz ra rn rq lt m1 m2 m3 m4 bd (fc.set 6 ((fc.getD 6 0) + (nI 1))) hd sz el s g fm hm so si sh ce ca td wa kp la bf oo bo pw ow tr)) rfl rfl rfl (Nat.le_of_ble_eq_true rfl) rfl (ab_rvOf w65 rfl) (L121_X6_isFrom (by omega) (by omega)) (by decide) rfl ?_
        refine E_if (t := 32) (b := false) rfl rfl (by decide) ?_
        refine E_aload_n rfl rfl ?_
        refine E_bipush (x := (-6)) rfl (by decide) ?_
        refine E_callV (v := some (.int (-6))) (As := [.ref 65, .int (-6)]) (r0 := []) (cs2 := (ww im lf s d k ls rf rz ra rn rq lt m1 m2 m3 m4 bd (fc.set 6 ((fc.getD 6 0) + (nI 1))) hd sz el s g (fm.set 6 ((fm.getD 6 0) + (nI 1))) hm so si sh ce ca td wa kp la bf oo bo pw ow tr)) rfl rfl rfl (Nat.le_of_ble_eq_true rfl) rfl (ab_rvOf w65 rfl) (L28_X6_no (by omega)) (by decide) w_lens ?_
        exact E_iret rfl rfl
      · exact ⟨I, rfl, hf, iQ, iM, iT, iS, l_el, (lr.1), (lr.2.1), (lr.2.2.1), (by simp only [List.length_set]; exact (lr.2.2.2.1)), (by simp only [List.length_set]; exact (lr.2.2.2.2.1)), (lr.2.2.2.2.2.1), (lr.2.2.2.2.2.2.1), (lr.2.2.2.2.2.2.2.1), (lr.2.2.2.2.2.2.2.2.1), (lr.2.2.2.2.2.2.2.2.2.1), (lr.2.2.2.2.2.2.2.2.2.2.1), (lr.2.2.2.2.2.2.2.2.2.2.2.1), (lr.2.2.2.2.2.2.2.2.2.2.2.2.1), (lr.2.2.2.2.2.2.2.2.2.2.2.2.2.1), (lr.2.2.2.2.2.2.2.2.2.2.2.2.2.2.1), (lr.2.2.2.2.2.2.2.2.2.2.2.2.2.2.2.1), (lr.2.2.2.2.2.2.2.2.2.2.2.2.2.2.2.2.1), (lr.2.2.2.2.2.2.2.2.2.2.2.2.2.2.2.2.2.1), (lr.2.2.2.2.2.2.2.2.2.2.2.2.2.2.2.2.2.2.1), (lr.2.2.2.2.2.2.2.2.2.2.2.2.2.2.2.2.2.2.2.1), (lr.2.2.2.2.2.2.2.2.2.2.2.2.2.2.2.2.2.2.2.2)⟩
