/-! person; by program (wip/tools/op.py) -/
section LM
variable {im : Int32} {lf : Int32} {s : ab_q} {d : ab_q} {k : ab_q} {ls : List Int32} {rf : Int32} {rz : Int32} {ra : Int32} {rn : Int32} {rq : ab_q} {lt : List Int32} {m1 : Int32} {m2 : Int32} {m3 : Int32} {m4 : Int32} {bd : List Int32} {fc : List Int32} {hd : Nat → Int32} {sz : Nat → Int32} {el : Nat → List Int64} {t : ab_q} {g : Nat → Int32} {fm : List Int32} {hm : List Nat} {so : List Nat} {si : List Nat} {sh : List Int32} {ce : List Int64} {ca : List Int64} {td : List Int32} {wa : List Int32} {kp : List Int32} {la : List Int32} {bf : List Int32} {oo : List Int32} {bo : List Int32} {pw : List Int32} {ow : List Int32} {tr : List Int32}
theorem L82_X5_isFrom {x0 : Nat} (h0 : x0 < 2147483648) (h1 : ¬ (x0 < 0)) (h2 : 99 < x0) : Ev ab_Z0 1 115 [.int (nI x0), .int (nI 0), .int (nI 99)] (ww im lf s d k ls rf rz ra rn rq lt m1 m2 m3 m4 bd fc hd sz el t g fm hm so si sh ce ca td wa kp la bf oo bo pw ow tr) (some (.int (nI 0)), (ww im lf s d k ls rf rz ra rn rq lt m1 m2 m3 m4 bd fc hd sz el t g fm hm so si sh ce ca td wa kp la bf oo bo pw ow tr)) := by
  refine Ef.in (md := mX5_isFrom) (L := [some (.int (nI x0)), some (.int (nI 0)), some (.int (nI 99))]) rfl (Nat.le_of_ble_eq_true rfl) rfl ?_
  refine E_iload_n at_X5_isFrom_0 rfl ?_
  refine E_iload_n at_X5_isFrom_1 rfl ?_
  refine E_ic (t := 14) (b := false) at_X5_isFrom_2 rfl ((cn_lt (nI_toInt (by omega)) (nI_toInt (by omega))).trans (decide_eq_false (by omega))) ?_
  refine E_iload_n at_X5_isFrom_5 rfl ?_
  refine E_iload_n at_X5_isFrom_6 rfl ?_
  refine E_ic (t := 14) (b := true) at_X5_isFrom_7 rfl ((cn_gt (nI_toInt (by omega)) (nI_toInt (by omega))).trans (decide_eq_true (by omega))) ?_
  refine E_iconst (x := nI 0) at_X5_isFrom_14 (by decide) ?_
  exact E_iret at_X5_isFrom_15 rfl
theorem L83_X6_isFrom {x1 : Nat} (h0 : x1 < 2147483648) (h1 : ¬ (x1 < 0)) (h2 : 99 < x1) : Ev ab_Z0 1 134 [.ref 65, .int (nI x1), .int (nI 0), .int (nI 99)] (ww im lf s d k ls rf rz ra rn rq lt m1 m2 m3 m4 bd fc hd sz el t g fm hm so si sh ce ca td wa kp la bf oo bo pw ow tr) (some (.int (nI 0)), (ww im lf s d k ls rf rz ra rn rq lt m1 m2 m3 m4 bd fc hd sz el t g fm hm so si sh ce ca td wa kp la bf oo bo pw ow tr)) := by
  refine Ef.in (md := mX6_isFrom) (L := [some (.ref 65), some (.int (nI x1)), some (.int (nI 0)), some (.int (nI 99))]) rfl (Nat.le_of_ble_eq_true rfl) rfl ?_
  refine E_iload_n at_X6_isFrom_0 rfl ?_
  refine E_iload_n at_X6_isFrom_1 rfl ?_
  refine E_ic (t := 14) (b := false) at_X6_isFrom_2 rfl ((cn_lt (nI_toInt (by omega)) (nI_toInt (by omega))).trans (decide_eq_false (by omega))) ?_
  refine E_iload_n at_X6_isFrom_5 rfl ?_
  refine E_iload_n at_X6_isFrom_6 rfl ?_
  refine E_ic (t := 14) (b := true) at_X6_isFrom_7 rfl ((cn_gt (nI_toInt (by omega)) (nI_toInt (by omega))).trans (decide_eq_true (by omega))) ?_
  refine E_iconst (x := nI 0) at_X6_isFrom_14 (by decide) ?_
  exact E_iret at_X6_isFrom_15 rfl
theorem L84_X5_isFrom {x0 : Nat} (h0 : x0 < 2147483648) (h1 : ¬ (x0 < 0)) (h2 : ¬ (99 < x0)) : Ev ab_Z0 1 115 [.int (nI x0), .int (nI 0), .int (nI 99)] (ww im lf s d k ls rf rz ra rn rq lt m1 m2 m3 m4 bd fc hd sz el t g fm hm so si sh ce ca td wa kp la bf oo bo pw ow tr) (some (.int (nI 1)), (ww im lf s d k ls rf rz ra rn rq lt m1 m2 m3 m4 bd fc hd sz el t g fm hm so si sh ce ca td wa kp la bf oo bo pw ow tr)) := by
  refine Ef.in (md := mX5_isFrom) (L := [some (.int (nI x0)), some (.int (nI 0)), some (.int (nI 99))]) rfl (Nat.le_of_ble_eq_true rfl) rfl ?_
  refine E_iload_n at_X5_isFrom_0 rfl ?_
  refine E_iload_n at_X5_isFrom_1 rfl ?_
  refine E_ic (t := 14) (b := false) at_X5_isFrom_2 rfl ((cn_lt (nI_toInt (by omega)) (nI_toInt (by omega))).trans (decide_eq_false (by omega))) ?_
  refine E_iload_n at_X5_isFrom_5 rfl ?_
  refine E_iload_n at_X5_isFrom_6 rfl ?_
  refine E_ic (t := 14) (b := false) at_X5_isFrom_7 rfl ((cn_gt (nI_toInt (by omega)) (nI_toInt (by omega))).trans (decide_eq_false (by omega))) ?_
  refine E_iconst (x := nI 1) at_X5_isFrom_10 (by decide) ?_
  refine E_goto (t := 15) at_X5_isFrom_11 rfl ?_
  exact E_iret at_X5_isFrom_15 rfl
theorem L85_X6_isFrom {x1 : Nat} (h0 : x1 < 2147483648) (h1 : ¬ (x1 < 0)) (h2 : ¬ (99 < x1)) : Ev ab_Z0 1 134 [.ref 65, .int (nI x1), .int (nI 0), .int (nI 99)] (ww im lf s d k ls rf rz ra rn rq lt m1 m2 m3 m4 bd fc hd sz el t g fm hm so si sh ce ca td wa kp la bf oo bo pw ow tr) (some (.int (nI 1)), (ww im lf s d k ls rf rz ra rn rq lt m1 m2 m3 m4 bd fc hd sz el t g fm hm so si sh ce ca td wa kp la bf oo bo pw ow tr)) := by
  refine Ef.in (md := mX6_isFrom) (L := [some (.ref 65), some (.int (nI x1)), some (.int (nI 0)), some (.int (nI 99))]) rfl (Nat.le_of_ble_eq_true rfl) rfl ?_
  refine E_iload_n at_X6_isFrom_0 rfl ?_
  refine E_iload_n at_X6_isFrom_1 rfl ?_
  refine E_ic (t := 14) (b := false) at_X6_isFrom_2 rfl ((cn_lt (nI_toInt (by omega)) (nI_toInt (by omega))).trans (decide_eq_false (by omega))) ?_
  refine E_iload_n at_X6_isFrom_5 rfl ?_
  refine E_iload_n at_X6_isFrom_6 rfl ?_
  refine E_ic (t := 14) (b := false) at_X6_isFrom_7 rfl ((cn_gt (nI_toInt (by omega)) (nI_toInt (by omega))).trans (decide_eq_false (by omega))) ?_
  refine E_iconst (x := nI 1) at_X6_isFrom_10 (by decide) ?_
  refine E_goto (t := 15) at_X6_isFrom_11 rfl ?_
  exact E_iret at_X6_isFrom_15 rfl
theorem L86_X4_hasRoomForPerson  (h0 : (qM s) < 6) (h1 : qM s ≤ 6) : Ev ab_Z0 1 53 [.ref 1] (ww im lf s d k ls rf rz ra rn rq lt m1 m2 m3 m4 bd fc hd sz el t g fm hm so si sh ce ca td wa kp la bf oo bo pw ow tr) (some (.int (nI 1)), (ww im lf s d k ls rf rz ra rn rq lt m1 m2 m3 m4 bd fc hd sz el t g fm hm so si sh ce ca td wa kp la bf oo bo pw ow tr)) := by
  refine Ef.in (md := mX4_hasRoomForPerson) (L := [some (.ref 1)]) rfl (Nat.le_of_ble_eq_true rfl) rfl ?_
  refine E_aload_n at_X4_hasRoomForPerson_0 rfl ?_
  refine E_getfield (v := .int (nI (qM s))) at_X4_hasRoomForPerson_1 w1 rfl (by decide) rfl ?_
  refine E_bipush (x := nI 6) at_X4_hasRoomForPerson_4 (by decide) ?_
  refine E_ic (t := 13) (b := false) at_X4_hasRoomForPerson_6 rfl ((cn_ge (nI_toInt (by omega)) (nI_toInt (by omega))).trans (decide_eq_false (by omega))) ?_
  refine E_iconst (x := nI 1) at_X4_hasRoomForPerson_9 (by decide) ?_
  refine E_goto (t := 14) at_X4_hasRoomForPerson_10 rfl ?_
  exact E_iret at_X4_hasRoomForPerson_14 rfl
theorem L87_X4_hasRoomForPerson  (h0 : ¬ ((qM s) < 6)) (h1 : qM s ≤ 6) : Ev ab_Z0 1 53 [.ref 1] (ww im lf s d k ls rf rz ra rn rq lt m1 m2 m3 m4 bd fc hd sz el t g fm hm so si sh ce ca td wa kp la bf oo bo pw ow tr) (some (.int (nI 0)), (ww im lf s d k ls rf rz ra rn rq lt m1 m2 m3 m4 bd fc hd sz el t g fm hm so si sh ce ca td wa kp la bf oo bo pw ow tr)) := by
  refine Ef.in (md := mX4_hasRoomForPerson) (L := [some (.ref 1)]) rfl (Nat.le_of_ble_eq_true rfl) rfl ?_
  refine E_aload_n at_X4_hasRoomForPerson_0 rfl ?_
  refine E_getfield (v := .int (nI (qM s))) at_X4_hasRoomForPerson_1 w1 rfl (by decide) rfl ?_
  refine E_bipush (x := nI 6) at_X4_hasRoomForPerson_4 (by decide) ?_
  refine E_ic (t := 13) (b := true) at_X4_hasRoomForPerson_6 rfl ((cn_ge (nI_toInt (by omega)) (nI_toInt (by omega))).trans (decide_eq_true (by omega))) ?_
  refine E_iconst (x := nI 0) rfl (by decide) ?_
  exact E_iret at_X4_hasRoomForPerson_14 rfl
theorem L88_X5_isFrom {x0 : Int32} (h0 : x0.toInt < 0) (h1 : x0.toInt < 0) : Ev ab_Z0 1 115 [.int x0, .int (nI 0), .int (nI 99)] (ww im lf s d k ls rf rz ra rn rq lt m1 m2 m3 m4 bd fc hd sz el t g fm hm so si sh ce ca td wa kp la bf oo bo pw ow tr) (some (.int (nI 0)), (ww im lf s d k ls rf rz ra rn rq lt m1 m2 m3 m4 bd fc hd sz el t g fm hm so si sh ce ca td wa kp la bf oo bo pw ow tr)) := by
  refine Ef.in (md := mX5_isFrom) (L := [some (.int x0), some (.int (nI 0)), some (.int (nI 99))]) rfl (Nat.le_of_ble_eq_true rfl) rfl ?_
  refine E_iload_n at_X5_isFrom_0 rfl ?_
  refine E_iload_n at_X5_isFrom_1 rfl ?_
  refine E_ic (t := 14) (b := true) at_X5_isFrom_2 rfl ((cn_lt rfl (nI_toInt (by omega))).trans (decide_eq_true (by omega))) ?_
  refine E_iconst (x := nI 0) at_X5_isFrom_14 (by decide) ?_
  exact E_iret at_X5_isFrom_15 rfl
theorem L89_X6_isFrom {x1 : Int32} (h0 : x1.toInt < 0) (h1 : x1.toInt < 0) : Ev ab_Z0 1 134 [.ref 65, .int x1, .int (nI 0), .int (nI 99)] (ww im lf s d k ls rf rz ra rn rq lt m1 m2 m3 m4 bd fc hd sz el t g fm hm so si sh ce ca td wa kp la bf oo bo pw ow tr) (some (.int (nI 0)), (ww im lf s d k ls rf rz ra rn rq lt m1 m2 m3 m4 bd fc hd sz el t g fm hm so si sh ce ca td wa kp la bf oo bo pw ow tr)) := by
  refine Ef.in (md := mX6_isFrom) (L := [some (.ref 65), some (.int x1), some (.int (nI 0)), some (.int (nI 99))]) rfl (Nat.le_of_ble_eq_true rfl) rfl ?_
  refine E_iload_n at_X6_isFrom_0 rfl ?_
  refine E_iload_n at_X6_isFrom_1 rfl ?_
  refine E_ic (t := 14) (b := true) at_X6_isFrom_2 rfl ((cn_lt rfl (nI_toInt (by omega))).trans (decide_eq_true (by omega))) ?_
  refine E_iconst (x := nI 0) at_X6_isFrom_14 (by decide) ?_
  exact E_iret at_X6_isFrom_15 rfl
end LM
set_option maxHeartbeats 4000000 in
theorem op_person (x : St) (hx : wI x) (a1 : Int32) (a2 : Int32) (a3 : Int32) : ∃ (r : Int32) (x1 x2 : St), Ev ab_Z0 3 84 [.ref 0, .int a1, .int a2, .int a3] (wt x) (some (.int r), wt x1) ∧ Ev ab_Z0 2 149 [.ref 65, .int a1, .int a2, .int a3] (wt x1) (some (.int r), wt x2) ∧ wI x2 := by
  obtain ⟨im, lf, s, d, k, ls, rf, rz, ra, rn, rq, lt, m1, m2, m3, m4, bd, fc, hd, sz, el, t, g, fm, hm, so, si, sh, ce, ca, td, wa, kp, la, bf, oo, bo, pw, ow, tr⟩ := x
  obtain ⟨I, ts, hf, iQ, iM, iT, iS, l_el, lr⟩ := hx
  replace lr : Hd _ := lr
  have l_fc := lr.2.2.2.1
  have l_fm := lr.2.2.2.2.1
  subst ts
  obtain ⟨⟨i0, i1, i2, i3⟩, ⟨i4, i5, i6, i7, i8⟩, ⟨i9, i10⟩, I1, I2, I3, I4⟩ := id I
  rcases ab_int a3 with ⟨a3k, f0, rfl⟩ | f0
  · by_cases f1 : a3k < 8
    · rcases ab_int a1 with ⟨a1k, f2, rfl⟩ | f2
      · by_cases f3 : 99 < a1k
        · refine ⟨(-6), (im, lf, s, d, k, ls, rf, rz, ra, rn, rq, lt, m1, m2, m3, m4, bd, (fc.set 6 ((fc.getD 6 0) + (nI 1))), hd, sz, el, s, g, fm, hm, so, si, sh, ce, ca, td, wa, kp, la, bf, oo, bo, pw, ow, tr), (im, lf, s, d, k, ls, rf, rz, ra, rn, rq, lt, m1, m2, m3, m4, bd, (fc.set 6 ((fc.getD 6 0) + (nI 1))), hd, sz, el, s, g, (fm.set 6 ((fm.getD 6 0) + (nI 1))), hm, so, si, sh, ce, ca, td, wa, kp, la, bf, oo, bo, pw, ow, tr), ?_, ?_, ?_⟩
          · show Ev ab_Z0 3 84 [.ref 0, .int (nI a1k), .int a2, .int (nI a3k)] (ww im lf s d k ls rf rz ra rn rq lt m1 m2 m3 m4 bd fc hd sz el s g fm hm so si sh ce ca td wa kp la bf oo bo pw ow tr) (some (.int (-6)), (ww im lf s d k ls rf rz ra rn rq lt m1 m2 m3 m4 bd (fc.set 6 ((fc.getD 6 0) + (nI 1))) hd sz el s g fm hm so si sh ce ca td wa kp la bf oo bo pw ow tr))
            refine Ef.in (md := mX5_person) (L := [some (.ref 0), some (.int (nI a1k)), some (.int a2), some (.int (nI a3k))]) rfl (Nat.le_of_ble_eq_true rfl) rfl ?_
            refine E_iload_n at_X5_person_0 rfl ?_
            refine E_callS (v := some (.int (nI 1))) (As := [.int (nI a3k)]) (r0 := []) (cs2 := (ww im lf s d k ls rf rz ra rn rq lt m1 m2 m3 m4 bd fc hd sz el s g fm hm so si sh ce ca td wa kp la bf oo bo pw ow tr)) at_X5_person_1 rfl rfl (Nat.le_of_ble_eq_true rfl) rfl (L1_X4_isWish (by omega) (by omega) (by omega)) (by decide) rfl ?_
            refine E_if (t := 13) (b := true) at_X5_person_4 rfl (by decide) ?_
            refine E_iload_n at_X5_person_13 rfl ?_
            refine E_iconst (x := nI 0) at_X5_person_14 (by decide) ?_
            refine E_bipush (x := nI 99) at_X5_person_15 (by decide) ?_
            refine E_callS (v := some (.int (nI 0))) (As := [.int (nI a1k), .int (nI 0), .int (nI 99)]) (r0 := []) (cs2 := (ww im lf s d k ls rf rz ra rn rq lt m1 m2 m3 m4 bd fc hd sz el s g fm hm so si sh ce ca td wa kp la bf oo bo pw ow tr)) at_X5_person_17 rfl rfl (Nat.le_of_ble_eq_true rfl) rfl (L82_X5_isFrom (by omega) (by omega) (by omega)) (by decide) rfl ?_
            refine E_if (t := 33) (b := true) at_X5_person_20 rfl (by decide) ?_
            refine E_aload_n at_X5_person_33 rfl ?_
            refine E_bipush (x := nI 6) at_X5_person_34 (by decide) ?_
            refine E_callV (v := some (.int (-6))) (As := [.ref 0, .int (nI 6)]) (r0 := []) (cs2 := (ww im lf s d k ls rf rz ra rn rq lt m1 m2 m3 m4 bd (fc.set 6 ((fc.getD 6 0) + (nI 1))) hd sz el s g fm hm so si sh ce ca td wa kp la bf oo bo pw ow tr)) at_X5_person_36 rfl rfl (Nat.le_of_ble_eq_true rfl) rfl (ab_rvOf w0 rfl) (L26_X5_refuse (by omega)) (by decide) w_lens ?_
            exact E_iret at_X5_person_39 rfl
          · show Ev ab_Z0 2 149 [.ref 65, .int (nI a1k), .int a2, .int (nI a3k)] (ww im lf s d k ls rf rz ra rn rq lt m1 m2 m3 m4 bd (fc.set 6 ((fc.getD 6 0) + (nI 1))) hd sz el s g fm hm so si sh ce ca td wa kp la bf oo bo pw ow tr) (some (.int (-6)), (ww im lf s d k ls rf rz ra rn rq lt m1 m2 m3 m4 bd (fc.set 6 ((fc.getD 6 0) + (nI 1))) hd sz el s g (fm.set 6 ((fm.getD 6 0) + (nI 1))) hm so si sh ce ca td wa kp la bf oo bo pw ow tr))
            refine Ef.in (md := mX6_person) (L := [some (.ref 65), some (.int (nI a1k)), some (.int a2), some (.int (nI a3k))]) rfl (Nat.le_of_ble_eq_true rfl) rfl ?_
            refine E_aload_n at_X6_person_0 rfl ?_
            refine E_iload_n at_X6_person_1 rfl ?_
            refine E_iconst (x := nI 0) at_X6_person_2 (by decide) ?_
            refine E_bipush (x := nI 7) at_X6_person_3 (by decide) ?_
            refine E_callV (v := some (.int (nI 1))) (As := [.ref 65, .int (nI a3k), .int (nI 0), .int (nI 7)]) (r0 := []) (cs2 := (ww im lf s d k ls rf rz ra rn rq lt m1 m2 m3 m4 bd (fc.set 6 ((fc.getD 6 0) + (nI 1))) hd sz el s g fm hm so si sh ce ca td wa kp la bf oo bo pw ow tr)) at_X6_person_5 rfl rfl (Nat.le_of_ble_eq_true rfl) rfl (ab_rvOf w65 rfl) (L3_X6_isFrom (by omega) (by omega) (by omega)) (by decide) rfl ?_
            refine E_if (t := 17) (b := true) at_X6_person_8 rfl (by decide) ?_
            refine E_aload_n at_X6_person_17 rfl ?_
            refine E_iload_n at_X6_person_18 rfl ?_
            refine E_iconst (x := nI 0) at_X6_person_19 (by decide) ?_
            refine E_bipush (x := nI 99) at_X6_person_20 (by decide) ?_
            refine E_callV (v := some (.int (nI 0))) (As := [.ref 65, .int (nI a1k), .int (nI 0), .int (nI 99)]) (r0 := []) (cs2 := (ww im lf s d k ls rf rz ra rn rq lt m1 m2 m3 m4 bd (fc.set 6 ((fc.getD 6 0) + (nI 1))) hd sz el s g fm hm so si sh ce ca td wa kp la bf oo bo pw ow tr)) at_X6_person_22 rfl rfl (Nat.le_of_ble_eq_true rfl) rfl (ab_rvOf w65 rfl) (L83_X6_isFrom (by omega) (by omega) (by omega)) (by decide) rfl ?_
            refine E_if (t := 39) (b := true) at_X6_person_25 rfl (by decide) ?_
            refine E_aload_n at_X6_person_39 rfl ?_
            refine E_bipush (x := (-6)) at_X6_person_40 (by decide) ?_
            refine E_callV (v := some (.int (-6))) (As := [.ref 65, .int (-6)]) (r0 := []) (cs2 := (ww im lf s d k ls rf rz ra rn rq lt m1 m2 m3 m4 bd (fc.set 6 ((fc.getD 6 0) + (nI 1))) hd sz el s g (fm.set 6 ((fm.getD 6 0) + (nI 1))) hm so si sh ce ca td wa kp la bf oo bo pw ow tr)) at_X6_person_42 rfl rfl (Nat.le_of_ble_eq_true rfl) rfl (ab_rvOf w65 rfl) (L28_X6_no (by omega)) (by decide) w_lens ?_
            exact E_iret at_X6_person_45 rfl
          · exact ⟨I, rfl, hf, iQ, iM, iT, iS, l_el, (lr.1), (lr.2.1), (lr.2.2.1), (by simp only [List.length_set]; exact (lr.2.2.2.1)), (by simp only [List.length_set]; exact (lr.2.2.2.2.1)), (lr.2.2.2.2.2.1), (lr.2.2.2.2.2.2.1), (lr.2.2.2.2.2.2.2.1), (lr.2.2.2.2.2.2.2.2.1), (lr.2.2.2.2.2.2.2.2.2.1), (lr.2.2.2.2.2.2.2.2.2.2.1), (lr.2.2.2.2.2.2.2.2.2.2.2.1), (lr.2.2.2.2.2.2.2.2.2.2.2.2.1), (lr.2.2.2.2.2.2.2.2.2.2.2.2.2.1), (lr.2.2.2.2.2.2.2.2.2.2.2.2.2.2.1), (lr.2.2.2.2.2.2.2.2.2.2.2.2.2.2.2.1), (lr.2.2.2.2.2.2.2.2.2.2.2.2.2.2.2.2.1), (lr.2.2.2.2.2.2.2.2.2.2.2.2.2.2.2.2.2.1), (lr.2.2.2.2.2.2.2.2.2.2.2.2.2.2.2.2.2.2.1), (lr.2.2.2.2.2.2.2.2.2.2.2.2.2.2.2.2.2.2.2.1), (lr.2.2.2.2.2.2.2.2.2.2.2.2.2.2.2.2.2.2.2.2)⟩
        · rcases ab_int a2 with ⟨a2k, f4, rfl⟩ | f4
          · by_cases f5 : 9 < a2k
            · refine ⟨(-6), (im, lf, s, d, k, ls, rf, rz, ra, rn, rq, lt, m1, m2, m3, m4, bd, (fc.set 6 ((fc.getD 6 0) + (nI 1))), hd, sz, el, s, g, fm, hm, so, si, sh, ce, ca, td, wa, kp, la, bf, oo, bo, pw, ow, tr), (im, lf, s, d, k, ls, rf, rz, ra, rn, rq, lt, m1, m2, m3, m4, bd, (fc.set 6 ((fc.getD 6 0) + (nI 1))), hd, sz, el, s, g, (fm.set 6 ((fm.getD 6 0) + (nI 1))), hm, so, si, sh, ce, ca, td, wa, kp, la, bf, oo, bo, pw, ow, tr), ?_, ?_, ?_⟩
              · show Ev ab_Z0 3 84 [.ref 0, .int (nI a1k), .int (nI a2k), .int (nI a3k)] (ww im lf s d k ls rf rz ra rn rq lt m1 m2 m3 m4 bd fc hd sz el s g fm hm so si sh ce ca td wa kp la bf oo bo pw ow tr) (some (.int (-6)), (ww im lf s d k ls rf rz ra rn rq lt m1 m2 m3 m4 bd (fc.set 6 ((fc.getD 6 0) + (nI 1))) hd sz el s g fm hm so si sh ce ca td wa kp la bf oo bo pw ow tr))
                refine Ef.in (md := mX5_person) (L := [some (.ref 0), some (.int (nI a1k)), some (.int (nI a2k)), some (.int (nI a3k))]) rfl (Nat.le_of_ble_eq_true rfl) rfl ?_
                refine E_iload_n at_X5_person_0 rfl ?_
                refine E_callS (v := some (.int (nI 1))) (As := [.int (nI a3k)]) (r0 := []) (cs2 := (ww im lf s d k ls rf rz ra rn rq lt m1 m2 m3 m4 bd fc hd sz el s g fm hm so si sh ce ca td wa kp la bf oo bo pw ow tr)) at_X5_person_1 rfl rfl (Nat.le_of_ble_eq_true rfl) rfl (L1_X4_isWish (by omega) (by omega) (by omega)) (by decide) rfl ?_
                refine E_if (t := 13) (b := true) at_X5_person_4 rfl (by decide) ?_
                refine E_iload_n at_X5_person_13 rfl ?_
                refine E_iconst (x := nI 0) at_X5_person_14 (by decide) ?_
                refine E_bipush (x := nI 99) at_X5_person_15 (by decide) ?_
                refine E_callS (v := some (.int (nI 1))) (As := [.int (nI a1k), .int (nI 0), .int (nI 99)]) (r0 := []) (cs2 := (ww im lf s d k ls rf rz ra rn rq lt m1 m2 m3 m4 bd fc hd sz el s g fm hm so si sh ce ca td wa kp la bf oo bo pw ow tr)) at_X5_person_17 rfl rfl (Nat.le_of_ble_eq_true rfl) rfl (L84_X5_isFrom (by omega) (by omega) (by omega)) (by decide) rfl ?_
                refine E_if (t := 33) (b := false) at_X5_person_20 rfl (by decide) ?_
                refine E_iload_n at_X5_person_23 rfl ?_
                refine E_iconst (x := nI 0) at_X5_person_24 (by decide) ?_
                refine E_bipush (x := nI 9) at_X5_person_25 (by decide) ?_
                refine E_callS (v := some (.int (nI 0))) (As := [.int (nI a2k), .int (nI 0), .int (nI 9)]) (r0 := []) (cs2 := (ww im lf s d k ls rf rz ra rn rq lt m1 m2 m3 m4 bd fc hd sz el s g fm hm so si sh ce ca td wa kp la bf oo bo pw ow tr)) at_X5_person_27 rfl rfl (Nat.le_of_ble_eq_true rfl) rfl (L66_X5_isFrom (by omega) (by omega) (by omega)) (by decide) rfl ?_
                refine E_if (t := 40) (b := false) at_X5_person_30 rfl (by decide) ?_
                refine E_aload_n at_X5_person_33 rfl ?_
                refine E_bipush (x := nI 6) at_X5_person_34 (by decide) ?_
                refine E_callV (v := some (.int (-6))) (As := [.ref 0, .int (nI 6)]) (r0 := []) (cs2 := (ww im lf s d k ls rf rz ra rn rq lt m1 m2 m3 m4 bd (fc.set 6 ((fc.getD 6 0) + (nI 1))) hd sz el s g fm hm so si sh ce ca td wa kp la bf oo bo pw ow tr)) at_X5_person_36 rfl rfl (Nat.le_of_ble_eq_true rfl) rfl (ab_rvOf w0 rfl) (L26_X5_refuse (by omega)) (by decide) w_lens ?_
                exact E_iret at_X5_person_39 rfl
              · show Ev ab_Z0 2 149 [.ref 65, .int (nI a1k), .int (nI a2k), .int (nI a3k)] (ww im lf s d k ls rf rz ra rn rq lt m1 m2 m3 m4 bd (fc.set 6 ((fc.getD 6 0) + (nI 1))) hd sz el s g fm hm so si sh ce ca td wa kp la bf oo bo pw ow tr) (some (.int (-6)), (ww im lf s d k ls rf rz ra rn rq lt m1 m2 m3 m4 bd (fc.set 6 ((fc.getD 6 0) + (nI 1))) hd sz el s g (fm.set 6 ((fm.getD 6 0) + (nI 1))) hm so si sh ce ca td wa kp la bf oo bo pw ow tr))
                refine Ef.in (md := mX6_person) (L := [some (.ref 65), some (.int (nI a1k)), some (.int (nI a2k)), some (.int (nI a3k))]) rfl (Nat.le_of_ble_eq_true rfl) rfl ?_
                refine E_aload_n at_X6_person_0 rfl ?_
                refine E_iload_n at_X6_person_1 rfl ?_
                refine E_iconst (x := nI 0) at_X6_person_2 (by decide) ?_
                refine E_bipush (x := nI 7) at_X6_person_3 (by decide) ?_
                refine E_callV (v := some (.int (nI 1))) (As := [.ref 65, .int (nI a3k), .int (nI 0), .int (nI 7)]) (r0 := []) (cs2 := (ww im lf s d k ls rf rz ra rn rq lt m1 m2 m3 m4 bd (fc.set 6 ((fc.getD 6 0) + (nI 1))) hd sz el s g fm hm so si sh ce ca td wa kp la bf oo bo pw ow tr)) at_X6_person_5 rfl rfl (Nat.le_of_ble_eq_true rfl) rfl (ab_rvOf w65 rfl) (L3_X6_isFrom (by omega) (by omega) (by omega)) (by decide) rfl ?_
                refine E_if (t := 17) (b := true) at_X6_person_8 rfl (by decide) ?_
                refine E_aload_n at_X6_person_17 rfl ?_
                refine E_iload_n at_X6_person_18 rfl ?_
                refine E_iconst (x := nI 0) at_X6_person_19 (by decide) ?_
                refine E_bipush (x := nI 99) at_X6_person_20 (by decide) ?_
                refine E_callV (v := some (.int (nI 1))) (As := [.ref 65, .int (nI a1k), .int (nI 0), .int (nI 99)]) (r0 := []) (cs2 := (ww im lf s d k ls rf rz ra rn rq lt m1 m2 m3 m4 bd (fc.set 6 ((fc.getD 6 0) + (nI 1))) hd sz el s g fm hm so si sh ce ca td wa kp la bf oo bo pw ow tr)) at_X6_person_22 rfl rfl (Nat.le_of_ble_eq_true rfl) rfl (ab_rvOf w65 rfl) (L85_X6_isFrom (by omega) (by omega) (by omega)) (by decide) rfl ?_
                refine E_if (t := 39) (b := false) at_X6_person_25 rfl (by decide) ?_
                refine E_aload_n at_X6_person_28 rfl ?_
                refine E_iload_n at_X6_person_29 rfl ?_
                refine E_iconst (x := nI 0) at_X6_person_30 (by decide) ?_
                refine E_bipush (x := nI 9) at_X6_person_31 (by decide) ?_
                refine E_callV (v := some (.int (nI 0))) (As := [.ref 65, .int (nI a2k), .int (nI 0), .int (nI 9)]) (r0 := []) (cs2 := (ww im lf s d k ls rf rz ra rn rq lt m1 m2 m3 m4 bd (fc.set 6 ((fc.getD 6 0) + (nI 1))) hd sz el s g fm hm so si sh ce ca td wa kp la bf oo bo pw ow tr)) at_X6_person_33 rfl rfl (Nat.le_of_ble_eq_true rfl) rfl (ab_rvOf w65 rfl) (L67_X6_isFrom (by omega) (by omega) (by omega)) (by decide) rfl ?_
                refine E_if (t := 46) (b := false) at_X6_person_36 rfl (by decide) ?_
                refine E_aload_n at_X6_person_39 rfl ?_
                refine E_bipush (x := (-6)) at_X6_person_40 (by decide) ?_
                refine E_callV (v := some (.int (-6))) (As := [.ref 65, .int (-6)]) (r0 := []) (cs2 := (ww im lf s d k ls rf rz ra rn rq lt m1 m2 m3 m4 bd (fc.set 6 ((fc.getD 6 0) + (nI 1))) hd sz el s g (fm.set 6 ((fm.getD 6 0) + (nI 1))) hm so si sh ce ca td wa kp la bf oo bo pw ow tr)) at_X6_person_42 rfl rfl (Nat.le_of_ble_eq_true rfl) rfl (ab_rvOf w65 rfl) (L28_X6_no (by omega)) (by decide) w_lens ?_
                exact E_iret at_X6_person_45 rfl
              · exact ⟨I, rfl, hf, iQ, iM, iT, iS, l_el, (lr.1), (lr.2.1), (lr.2.2.1), (by simp only [List.length_set]; exact (lr.2.2.2.1)), (by simp only [List.length_set]; exact (lr.2.2.2.2.1)), (lr.2.2.2.2.2.1), (lr.2.2.2.2.2.2.1), (lr.2.2.2.2.2.2.2.1), (lr.2.2.2.2.2.2.2.2.1), (lr.2.2.2.2.2.2.2.2.2.1), (lr.2.2.2.2.2.2.2.2.2.2.1), (lr.2.2.2.2.2.2.2.2.2.2.2.1), (lr.2.2.2.2.2.2.2.2.2.2.2.2.1), (lr.2.2.2.2.2.2.2.2.2.2.2.2.2.1), (lr.2.2.2.2.2.2.2.2.2.2.2.2.2.2.1), (lr.2.2.2.2.2.2.2.2.2.2.2.2.2.2.2.1), (lr.2.2.2.2.2.2.2.2.2.2.2.2.2.2.2.2.1), (lr.2.2.2.2.2.2.2.2.2.2.2.2.2.2.2.2.2.1), (lr.2.2.2.2.2.2.2.2.2.2.2.2.2.2.2.2.2.2.1), (lr.2.2.2.2.2.2.2.2.2.2.2.2.2.2.2.2.2.2.2.1), (lr.2.2.2.2.2.2.2.2.2.2.2.2.2.2.2.2.2.2.2.2)⟩
            · by_cases f6 : (qM s) < 6
              · refine ⟨(nI (qM s)), (im, lf, (qs_M (qs_G (qs_W (qs_L (qs_U s ((qU s).set (qM s) a1k)) ((qL s).set (qM s) a2k)) ((qW s).set (qM s) a3k)) ((qG s).set (qM s) (nI 0))) ((qM s) + 1)), d, k, ls, rf, rz, ra, rn, rq, lt, m1, m2, m3, m4, bd, fc, hd, sz, el, s, g, fm, hm, so, si, sh, ce, ca, td, wa, kp, la, bf, oo, bo, pw, ow, tr), (im, lf, (qs_M (qs_G (qs_W (qs_L (qs_U s ((qU s).set (qM s) a1k)) ((qL s).set (qM s) a2k)) ((qW s).set (qM s) a3k)) ((qG s).set (qM s) (nI 0))) ((qM s) + 1)), d, k, ls, rf, rz, ra, rn, rq, lt, m1, m2, m3, m4, bd, fc, hd, sz, el, (qs_M (qs_G (qs_W (qs_L (qs_U s ((qU s).set (qM s) a1k)) ((qL s).set (qM s) a2k)) ((qW s).set (qM s) a3k)) ((qG s).set (qM s) (nI 0))) ((qM s) + 1)), g, fm, hm, so, si, sh, ce, ca, td, wa, kp, la, bf, oo, bo, pw, ow, tr), ?_, ?_, ?_⟩
                · show Ev ab_Z0 3 84 [.ref 0, .int (nI a1k), .int (nI a2k), .int (nI a3k)] (ww im lf s d k ls rf rz ra rn rq lt m1 m2 m3 m4 bd fc hd sz el s g fm hm so si sh ce ca td wa kp la bf oo bo pw ow tr) (some (.int (nI (qM s))), (ww im lf (qs_M (qs_G (qs_W (qs_L (qs_U s ((qU s).set (qM s) a1k)) ((qL s).set (qM s) a2k)) ((qW s).set (qM s) a3k)) ((qG s).set (qM s) (nI 0))) ((qM s) + 1)) d k ls rf rz ra rn rq lt m1 m2 m3 m4 bd fc hd sz el s g fm hm so si sh ce ca td wa kp la bf oo bo pw ow tr))
                  refine Ef.in (md := mX5_person) (L := [some (.ref 0), some (.int (nI a1k)), some (.int (nI a2k)), some (.int (nI a3k))]) rfl (Nat.le_of_ble_eq_true rfl) rfl ?_
                  refine E_iload_n at_X5_person_0 rfl ?_
                  refine E_callS (v := some (.int (nI 1))) (As := [.int (nI a3k)]) (r0 := []) (cs2 := (ww im lf s d k ls rf rz ra rn rq lt m1 m2 m3 m4 bd fc hd sz el s g fm hm so si sh ce ca td wa kp la bf oo bo pw ow tr)) at_X5_person_1 rfl rfl (Nat.le_of_ble_eq_true rfl) rfl (L1_X4_isWish (by omega) (by omega) (by omega)) (by decide) rfl ?_
                  refine E_if (t := 13) (b := true) at_X5_person_4 rfl (by decide) ?_
                  refine E_iload_n at_X5_person_13 rfl ?_
                  refine E_iconst (x := nI 0) at_X5_person_14 (by decide) ?_
                  refine E_bipush (x := nI 99) at_X5_person_15 (by decide) ?_
                  refine E_callS (v := some (.int (nI 1))) (As := [.int (nI a1k), .int (nI 0), .int (nI 99)]) (r0 := []) (cs2 := (ww im lf s d k ls rf rz ra rn rq lt m1 m2 m3 m4 bd fc hd sz el s g fm hm so si sh ce ca td wa kp la bf oo bo pw ow tr)) at_X5_person_17 rfl rfl (Nat.le_of_ble_eq_true rfl) rfl (L84_X5_isFrom (by omega) (by omega) (by omega)) (by decide) rfl ?_
                  refine E_if (t := 33) (b := false) at_X5_person_20 rfl (by decide) ?_
                  refine E_iload_n at_X5_person_23 rfl ?_
                  refine E_iconst (x := nI 0) at_X5_person_24 (by decide) ?_
                  refine E_bipush (x := nI 9) at_X5_person_25 (by decide) ?_
                  refine E_callS (v := some (.int (nI 1))) (As := [.int (nI a2k), .int (nI 0), .int (nI 9)]) (r0 := []) (cs2 := (ww im lf s d k ls rf rz ra rn rq lt m1 m2 m3 m4 bd fc hd sz el s g fm hm so si sh ce ca td wa kp la bf oo bo pw ow tr)) at_X5_person_27 rfl rfl (Nat.le_of_ble_eq_true rfl) rfl (L68_X5_isFrom (by omega) (by omega) (by omega)) (by decide) rfl ?_
                  refine E_if (t := 40) (b := true) at_X5_person_30 rfl (by decide) ?_
                  refine E_aload_n rfl rfl ?_
                  refine E_getfield (v := .ref 1) rfl w0 rfl (by decide) rfl ?_
                  refine E_callV (v := some (.int (nI 1))) (As := [.ref 1]) (r0 := []) (cs2 := (ww im lf s d k ls rf rz ra rn rq lt m1 m2 m3 m4 bd fc hd sz el s g fm hm so si sh ce ca td wa kp la bf oo bo pw ow tr)) rfl rfl rfl (Nat.le_of_ble_eq_true rfl) rfl (ab_rvOf w1 rfl) (L86_X4_hasRoomForPerson (by omega) (by omega)) (by decide) rfl ?_
                  refine E_if (t := 57) (b := true) rfl rfl (by decide) ?_
                  refine E_aload_n rfl rfl ?_
                  refine E_getfield (v := .ref 1) rfl w0 rfl (by decide) rfl ?_
                  refine E_iload_n rfl rfl ?_
                  refine E_iload_n rfl rfl ?_
                  refine E_iload_n rfl rfl ?_
                  have e1 : Ev ab_Z0 2 57 [.ref 1, .int (nI a1k), .int (nI a2k), .int (nI a3k)] (ww im lf s d k ls rf rz ra rn rq lt m1 m2 m3 m4 bd fc hd sz el s g fm hm so si sh ce ca td wa kp la bf oo bo pw ow tr) (some (.int (nI (qM s))), (ww im lf (qs_M (qs_G (qs_W (qs_L (qs_U s ((qU s).set (qM s) a1k)) ((qL s).set (qM s) a2k)) ((qW s).set (qM s) a3k)) ((qG s).set (qM s) (nI 0))) ((qM s) + 1)) d k ls rf rz ra rn rq lt m1 m2 m3 m4 bd fc hd sz el s g fm hm so si sh ce ca td wa kp la bf oo bo pw ow tr)) := by
                    refine Ef.in (md := mX4_addPerson) (L := [some (.ref 1), some (.int (nI a1k)), some (.int (nI a2k)), some (.int (nI a3k)), none]) rfl (Nat.le_of_ble_eq_true rfl) rfl ?_
                    refine E_aload_n rfl rfl ?_
                    refine E_callV (v := some (.int (nI 1))) (As := [.ref 1]) (r0 := []) (cs2 := (ww im lf s d k ls rf rz ra rn rq lt m1 m2 m3 m4 bd fc hd sz el s g fm hm so si sh ce ca td wa kp la bf oo bo pw ow tr)) rfl rfl rfl (Nat.le_of_ble_eq_true rfl) rfl (ab_rvOf w1 rfl) (L86_X4_hasRoomForPerson (by omega) (by omega)) (by decide) rfl ?_
                    refine E_if (t := 9) (b := true) rfl rfl (by decide) ?_
                    refine E_aload_n rfl rfl ?_
                    refine E_getfield (v := .int (nI (qM s))) rfl w1 rfl (by decide) rfl ?_
                    refine E_istore (L2 := [some (.ref 1), some (.int (nI a1k)), some (.int (nI a2k)), some (.int (nI a3k)), some (.int (nI (qM s)))]) rfl rfl ?_
                    refine E_aload_n rfl rfl ?_
                    refine E_getfield (v := .ref 6) rfl w1 rfl (by decide) rfl ?_
                    refine E_iload rfl rfl ?_
                    refine E_iload_n rfl rfl ?_
                    refine E_iasN (l := qU s) (cs2 := (ww im lf (qs_U s ((qU s).set (qM s) a1k)) d k ls rf rz ra rn rq lt m1 m2 m3 m4 bd fc hd sz el s g fm hm so si sh ce ca td wa kp la bf oo bo pw ow tr)) rfl w6 (by omega) (by omega) w_pt1_U ?_
                    refine E_aload_n rfl rfl ?_
                    refine E_getfield (v := .ref 7) rfl w1 rfl (by decide) rfl ?_
                    refine E_iload rfl rfl ?_
                    refine E_iload_n rfl rfl ?_
                    refine E_iasN (l := qL s) (cs2 := (ww im lf (qs_L (qs_U s ((qU s).set (qM s) a1k)) ((qL s).set (qM s) a2k)) d k ls rf rz ra rn rq lt m1 m2 m3 m4 bd fc hd sz el s g fm hm so si sh ce ca td wa kp la bf oo bo pw ow tr)) rfl (w7v qg_LU) (by omega) (by omega) w_pt1_L ?_
                    refine E_aload_n rfl rfl ?_
                    refine E_getfield (v := .ref 8) rfl w1 rfl (by decide) rfl ?_
                    refine E_iload rfl rfl ?_
                    refine E_iload_n rfl rfl ?_
                    refine E_iasN (l := qW s) (cs2 := (ww im lf (qs_W (qs_L (qs_U s ((qU s).set (qM s) a1k)) ((qL s).set (qM s) a2k)) ((qW s).set (qM s) a3k)) d k ls rf rz ra rn rq lt m1 m2 m3 m4 bd fc hd sz el s g fm hm so si sh ce ca td wa kp la bf oo bo pw ow tr)) rfl (w8v (qg_WL.trans qg_WU)) (by omega) (by omega) w_pt1_W ?_
                    refine E_aload_n rfl rfl ?_
                    refine E_getfield (v := .ref 9) rfl w1 rfl (by decide) rfl ?_
                    refine E_iload rfl rfl ?_
                    refine E_iconst (x := nI 0) rfl (by decide) ?_
                    refine E_iasI (l := qG s) (cs2 := (ww im lf (qs_G (qs_W (qs_L (qs_U s ((qU s).set (qM s) a1k)) ((qL s).set (qM s) a2k)) ((qW s).set (qM s) a3k)) ((qG s).set (qM s) (nI 0))) d k ls rf rz ra rn rq lt m1 m2 m3 m4 bd fc hd sz el s g fm hm so si sh ce ca td wa kp la bf oo bo pw ow tr)) rfl (w9v (qg_GW.trans (qg_GL.trans qg_GU))) (by omega) (by omega) w_pt1_G ?_
                    refine E_aload_n rfl rfl ?_
                    refine E_dup rfl rfl ?_
                    refine E_getfield (v := .int (nI (qM s))) rfl w1 rfl (by decide) (congrArg (fun z => some (Value.int (nI z))) (qg_MG.trans (qg_MW.trans (qg_ML.trans qg_MU)))) ?_
                    refine E_iconst (x := nI 1) rfl (by decide) ?_
                    refine E_iadd (z := nI ((qM s) + 1)) rfl (nI_add _ _) ?_
                    refine E_putfield (cs2 := (ww im lf (qs_M (qs_G (qs_W (qs_L (qs_U s ((qU s).set (qM s) a1k)) ((qL s).set (qM s) a2k)) ((qW s).set (qM s) a3k)) ((qG s).set (qM s) (nI 0))) ((qM s) + 1)) d k ls rf rz ra rn rq lt m1 m2 m3 m4 bd fc hd sz el s g fm hm so si sh ce ca td wa kp la bf oo bo pw ow tr)) rfl w1 rfl (by decide) (Nat.le_of_ble_eq_true rfl) rfl rfl rfl w_pt1_M ?_
                    refine E_iload rfl rfl ?_
                    exact E_iret rfl rfl
                  refine E_callV (v := some (.int (nI (qM s)))) (As := [.ref 1, .int (nI a1k), .int (nI a2k), .int (nI a3k)]) (r0 := []) (cs2 := (ww im lf (qs_M (qs_G (qs_W (qs_L (qs_U s ((qU s).set (qM s) a1k)) ((qL s).set (qM s) a2k)) ((qW s).set (qM s) a3k)) ((qG s).set (qM s) (nI 0))) ((qM s) + 1)) d k ls rf rz ra rn rq lt m1 m2 m3 m4 bd fc hd sz el s g fm hm so si sh ce ca td wa kp la bf oo bo pw ow tr)) rfl rfl rfl (Nat.le_of_ble_eq_true rfl) rfl (ab_rvOf w1 rfl) e1 (by decide) w_lens ?_
                  exact E_iret rfl rfl
                · show Ev ab_Z0 2 149 [.ref 65, .int (nI a1k), .int (nI a2k), .int (nI a3k)] (ww im lf (qs_M (qs_G (qs_W (qs_L (qs_U s ((qU s).set (qM s) a1k)) ((qL s).set (qM s) a2k)) ((qW s).set (qM s) a3k)) ((qG s).set (qM s) (nI 0))) ((qM s) + 1)) d k ls rf rz ra rn rq lt m1 m2 m3 m4 bd fc hd sz el s g fm hm so si sh ce ca td wa kp la bf oo bo pw ow tr) (some (.int (nI (qM s))), (ww im lf (qs_M (qs_G (qs_W (qs_L (qs_U s ((qU s).set (qM s) a1k)) ((qL s).set (qM s) a2k)) ((qW s).set (qM s) a3k)) ((qG s).set (qM s) (nI 0))) ((qM s) + 1)) d k ls rf rz ra rn rq lt m1 m2 m3 m4 bd fc hd sz el (qs_M (qs_G (qs_W (qs_L (qs_U s ((qU s).set (qM s) a1k)) ((qL s).set (qM s) a2k)) ((qW s).set (qM s) a3k)) ((qG s).set (qM s) (nI 0))) ((qM s) + 1)) g fm hm so si sh ce ca td wa kp la bf oo bo pw ow tr))
                  refine Ef.in (md := mX6_person) (L := [some (.ref 65), some (.int (nI a1k)), some (.int (nI a2k)), some (.int (nI a3k))]) rfl (Nat.le_of_ble_eq_true rfl) rfl ?_
                  refine E_aload_n at_X6_person_0 rfl ?_
                  refine E_iload_n at_X6_person_1 rfl ?_
                  refine E_iconst (x := nI 0) at_X6_person_2 (by decide) ?_
                  refine E_bipush (x := nI 7) at_X6_person_3 (by decide) ?_
                  refine E_callV (v := some (.int (nI 1))) (As := [.ref 65, .int (nI a3k), .int (nI 0), .int (nI 7)]) (r0 := []) (cs2 := (ww im lf (qs_M (qs_G (qs_W (qs_L (qs_U s ((qU s).set (qM s) a1k)) ((qL s).set (qM s) a2k)) ((qW s).set (qM s) a3k)) ((qG s).set (qM s) (nI 0))) ((qM s) + 1)) d k ls rf rz ra rn rq lt m1 m2 m3 m4 bd fc hd sz el s g fm hm so si sh ce ca td wa kp la bf oo bo pw ow tr)) at_X6_person_5 rfl rfl (Nat.le_of_ble_eq_true rfl) rfl (ab_rvOf w65 rfl) (L3_X6_isFrom (by omega) (by omega) (by omega)) (by decide) rfl ?_
                  refine E_if (t := 17) (b := true) at_X6_person_8 rfl (by decide) ?_
                  refine E_aload_n at_X6_person_17 rfl ?_
                  refine E_iload_n at_X6_person_18 rfl ?_
                  refine E_iconst (x := nI 0) at_X6_person_19 (by decide) ?_
                  refine E_bipush (x := nI 99) at_X6_person_20 (by decide) ?_
                  refine E_callV (v := some (.int (nI 1))) (As := [.ref 65, .int (nI a1k), .int (nI 0), .int (nI 99)]) (r0 := []) (cs2 := (ww im lf (qs_M (qs_G (qs_W (qs_L (qs_U s ((qU s).set (qM s) a1k)) ((qL s).set (qM s) a2k)) ((qW s).set (qM s) a3k)) ((qG s).set (qM s) (nI 0))) ((qM s) + 1)) d k ls rf rz ra rn rq lt m1 m2 m3 m4 bd fc hd sz el s g fm hm so si sh ce ca td wa kp la bf oo bo pw ow tr)) at_X6_person_22 rfl rfl (Nat.le_of_ble_eq_true rfl) rfl (ab_rvOf w65 rfl) (L85_X6_isFrom (by omega) (by omega) (by omega)) (by decide) rfl ?_
                  refine E_if (t := 39) (b := false) at_X6_person_25 rfl (by decide) ?_
                  refine E_aload_n at_X6_person_28 rfl ?_
                  refine E_iload_n at_X6_person_29 rfl ?_
                  refine E_iconst (x := nI 0) at_X6_person_30 (by decide) ?_
                  refine E_bipush (x := nI 9) at_X6_person_31 (by decide) ?_
                  refine E_callV (v := some (.int (nI 1))) (As := [.ref 65, .int (nI a2k), .int (nI 0), .int (nI 9)]) (r0 := []) (cs2 := (ww im lf (qs_M (qs_G (qs_W (qs_L (qs_U s ((qU s).set (qM s) a1k)) ((qL s).set (qM s) a2k)) ((qW s).set (qM s) a3k)) ((qG s).set (qM s) (nI 0))) ((qM s) + 1)) d k ls rf rz ra rn rq lt m1 m2 m3 m4 bd fc hd sz el s g fm hm so si sh ce ca td wa kp la bf oo bo pw ow tr)) at_X6_person_33 rfl rfl (Nat.le_of_ble_eq_true rfl) rfl (ab_rvOf w65 rfl) (L70_X6_isFrom (by omega) (by omega) (by omega)) (by decide) rfl ?_
                  refine E_if (t := 46) (b := true) at_X6_person_36 rfl (by decide) ?_
                  refine E_aload_n rfl rfl ?_
                  refine E_getfield (v := .int (nI (qM s))) rfl w65 rfl (by decide) rfl ?_
                  refine E_bipush (x := nI 6) rfl (by decide) ?_
                  refine E_ic (t := 64) (b := true) rfl rfl ((cn_ne (nI_toInt (by omega)) (nI_toInt (by omega))).trans (decide_eq_true (by omega))) ?_
                  refine E_aload_n rfl rfl ?_
                  refine E_iload_n rfl rfl ?_
                  refine E_iload_n rfl rfl ?_
                  refine E_iload_n rfl rfl ?_
                  have e2 : Ev ab_Z0 1 147 [.ref 65, .int (nI a1k), .int (nI a2k), .int (nI a3k)] (ww im lf (qs_M (qs_G (qs_W (qs_L (qs_U s ((qU s).set (qM s) a1k)) ((qL s).set (qM s) a2k)) ((qW s).set (qM s) a3k)) ((qG s).set (qM s) (nI 0))) ((qM s) + 1)) d k ls rf rz ra rn rq lt m1 m2 m3 m4 bd fc hd sz el s g fm hm so si sh ce ca td wa kp la bf oo bo pw ow tr) (some (.int (nI (qM s))), (ww im lf (qs_M (qs_G (qs_W (qs_L (qs_U s ((qU s).set (qM s) a1k)) ((qL s).set (qM s) a2k)) ((qW s).set (qM s) a3k)) ((qG s).set (qM s) (nI 0))) ((qM s) + 1)) d k ls rf rz ra rn rq lt m1 m2 m3 m4 bd fc hd sz el (qs_M (qs_G (qs_W (qs_L (qs_U s ((qU s).set (qM s) a1k)) ((qL s).set (qM s) a2k)) ((qW s).set (qM s) a3k)) ((qG s).set (qM s) (nI 0))) ((qM s) + 1)) g fm hm so si sh ce ca td wa kp la bf oo bo pw ow tr)) := by
                    refine Ef.in (md := mX6_addsPerson) (L := [some (.ref 65), some (.int (nI a1k)), some (.int (nI a2k)), some (.int (nI a3k))]) rfl (Nat.le_of_ble_eq_true rfl) rfl ?_
                    refine E_aload_n rfl rfl ?_
                    refine E_getfield (v := .ref 71) rfl w65 rfl (by decide) rfl ?_
                    refine E_aload_n rfl rfl ?_
                    refine E_getfield (v := .int (nI (qM s))) rfl w65 rfl (by decide) rfl ?_
                    refine E_iload_n rfl rfl ?_
                    refine E_iasN (l := qU s) (cs2 := (ww im lf (qs_M (qs_G (qs_W (qs_L (qs_U s ((qU s).set (qM s) a1k)) ((qL s).set (qM s) a2k)) ((qW s).set (qM s) a3k)) ((qG s).set (qM s) (nI 0))) ((qM s) + 1)) d k ls rf rz ra rn rq lt m1 m2 m3 m4 bd fc hd sz el (qs_U s ((qU s).set (qM s) a1k)) g fm hm so si sh ce ca td wa kp la bf oo bo pw ow tr)) rfl w71 (by omega) (by omega) w_pt65_U ?_
                    refine E_aload_n rfl rfl ?_
                    refine E_getfield (v := .ref 72) rfl w65 rfl (by decide) rfl ?_
                    refine E_aload_n rfl rfl ?_
                    refine E_getfield (v := .int (nI (qM s))) rfl w65 rfl (by decide) (congrArg (fun z => some (Value.int (nI z))) qg_MU) ?_
                    refine E_iload_n rfl rfl ?_
                    refine E_iasN (l := qL s) (cs2 := (ww im lf (qs_M (qs_G (qs_W (qs_L (qs_U s ((qU s).set (qM s) a1k)) ((qL s).set (qM s) a2k)) ((qW s).set (qM s) a3k)) ((qG s).set (qM s) (nI 0))) ((qM s) + 1)) d k ls rf rz ra rn rq lt m1 m2 m3 m4 bd fc hd sz el (qs_L (qs_U s ((qU s).set (qM s) a1k)) ((qL s).set (qM s) a2k)) g fm hm so si sh ce ca td wa kp la bf oo bo pw ow tr)) rfl (w72v qg_LU) (by omega) (by omega) w_pt65_L ?_
                    refine E_aload_n rfl rfl ?_
                    refine E_getfield (v := .ref 73) rfl w65 rfl (by decide) rfl ?_
                    refine E_aload_n rfl rfl ?_
                    refine E_getfield (v := .int (nI (qM s))) rfl w65 rfl (by decide) (congrArg (fun z => some (Value.int (nI z))) (qg_ML.trans qg_MU)) ?_
                    refine E_iload_n rfl rfl ?_
                    refine E_iasN (l := qW s) (cs2 := (ww im lf (qs_M (qs_G (qs_W (qs_L (qs_U s ((qU s).set (qM s) a1k)) ((qL s).set (qM s) a2k)) ((qW s).set (qM s) a3k)) ((qG s).set (qM s) (nI 0))) ((qM s) + 1)) d k ls rf rz ra rn rq lt m1 m2 m3 m4 bd fc hd sz el (qs_W (qs_L (qs_U s ((qU s).set (qM s) a1k)) ((qL s).set (qM s) a2k)) ((qW s).set (qM s) a3k)) g fm hm so si sh ce ca td wa kp la bf oo bo pw ow tr)) rfl (w73v (qg_WL.trans qg_WU)) (by omega) (by omega) w_pt65_W ?_
                    refine E_aload_n rfl rfl ?_
                    refine E_getfield (v := .ref 74) rfl w65 rfl (by decide) rfl ?_
                    refine E_aload_n rfl rfl ?_
                    refine E_getfield (v := .int (nI (qM s))) rfl w65 rfl (by decide) (congrArg (fun z => some (Value.int (nI z))) (qg_MW.trans (qg_ML.trans qg_MU))) ?_
                    refine E_iconst (x := nI 0) rfl (by decide) ?_
                    refine E_iasI (l := qG s) (cs2 := (ww im lf (qs_M (qs_G (qs_W (qs_L (qs_U s ((qU s).set (qM s) a1k)) ((qL s).set (qM s) a2k)) ((qW s).set (qM s) a3k)) ((qG s).set (qM s) (nI 0))) ((qM s) + 1)) d k ls rf rz ra rn rq lt m1 m2 m3 m4 bd fc hd sz el (qs_G (qs_W (qs_L (qs_U s ((qU s).set (qM s) a1k)) ((qL s).set (qM s) a2k)) ((qW s).set (qM s) a3k)) ((qG s).set (qM s) (nI 0))) g fm hm so si sh ce ca td wa kp la bf oo bo pw ow tr)) rfl (w74v (qg_GW.trans (qg_GL.trans qg_GU))) (by omega) (by omega) w_pt65_G ?_
                    refine E_aload_n rfl rfl ?_
                    refine E_dup rfl rfl ?_
                    refine E_getfield (v := .int (nI (qM s))) rfl w65 rfl (by decide) (congrArg (fun z => some (Value.int (nI z))) (qg_MG.trans (qg_MW.trans (qg_ML.trans qg_MU)))) ?_
                    refine E_dup_x1 rfl ⟨rfl, rfl⟩ ?_
                    refine E_iconst (x := nI 1) rfl (by decide) ?_
                    refine E_iadd (z := nI ((qM s) + 1)) rfl (nI_add _ _) ?_
                    refine E_putfield (cs2 := (ww im lf (qs_M (qs_G (qs_W (qs_L (qs_U s ((qU s).set (qM s) a1k)) ((qL s).set (qM s) a2k)) ((qW s).set (qM s) a3k)) ((qG s).set (qM s) (nI 0))) ((qM s) + 1)) d k ls rf rz ra rn rq lt m1 m2 m3 m4 bd fc hd sz el (qs_M (qs_G (qs_W (qs_L (qs_U s ((qU s).set (qM s) a1k)) ((qL s).set (qM s) a2k)) ((qW s).set (qM s) a3k)) ((qG s).set (qM s) (nI 0))) ((qM s) + 1)) g fm hm so si sh ce ca td wa kp la bf oo bo pw ow tr)) rfl w65 rfl (by decide) (Nat.le_of_ble_eq_true rfl) rfl rfl rfl w_pt65_M ?_
                    exact E_iret rfl rfl
                  refine E_callV (v := some (.int (nI (qM s)))) (As := [.ref 65, .int (nI a1k), .int (nI a2k), .int (nI a3k)]) (r0 := []) (cs2 := (ww im lf (qs_M (qs_G (qs_W (qs_L (qs_U s ((qU s).set (qM s) a1k)) ((qL s).set (qM s) a2k)) ((qW s).set (qM s) a3k)) ((qG s).set (qM s) (nI 0))) ((qM s) + 1)) d k ls rf rz ra rn rq lt m1 m2 m3 m4 bd fc hd sz el (qs_M (qs_G (qs_W (qs_L (qs_U s ((qU s).set (qM s) a1k)) ((qL s).set (qM s) a2k)) ((qW s).set (qM s) a3k)) ((qG s).set (qM s) (nI 0))) ((qM s) + 1)) g fm hm so si sh ce ca td wa kp la bf oo bo pw ow tr)) rfl rfl rfl (Nat.le_of_ble_eq_true rfl) rfl (ab_rvOf w65 rfl) e2 (by decide) w_lens ?_
                  exact E_iret rfl rfl
                · exact ⟨(qI_addM I (by omega) (by omega) (by omega) (by omega)), rfl, hf, iQ, iM, iT, iS, l_el, (lr.1), (lr.2.1), (lr.2.2.1), (lr.2.2.2.1), (lr.2.2.2.2.1), (lr.2.2.2.2.2.1), (lr.2.2.2.2.2.2.1), (lr.2.2.2.2.2.2.2.1), (lr.2.2.2.2.2.2.2.2.1), (lr.2.2.2.2.2.2.2.2.2.1), (lr.2.2.2.2.2.2.2.2.2.2.1), (lr.2.2.2.2.2.2.2.2.2.2.2.1), (lr.2.2.2.2.2.2.2.2.2.2.2.2.1), (lr.2.2.2.2.2.2.2.2.2.2.2.2.2.1), (lr.2.2.2.2.2.2.2.2.2.2.2.2.2.2.1), (lr.2.2.2.2.2.2.2.2.2.2.2.2.2.2.2.1), (lr.2.2.2.2.2.2.2.2.2.2.2.2.2.2.2.2.1), (lr.2.2.2.2.2.2.2.2.2.2.2.2.2.2.2.2.2.1), (lr.2.2.2.2.2.2.2.2.2.2.2.2.2.2.2.2.2.2.1), (lr.2.2.2.2.2.2.2.2.2.2.2.2.2.2.2.2.2.2.2.1), (lr.2.2.2.2.2.2.2.2.2.2.2.2.2.2.2.2.2.2.2.2)⟩
              · refine ⟨(-7), (im, lf, s, d, k, ls, rf, rz, ra, rn, rq, lt, m1, m2, m3, m4, bd, (fc.set 7 ((fc.getD 7 0) + (nI 1))), hd, sz, el, s, g, fm, hm, so, si, sh, ce, ca, td, wa, kp, la, bf, oo, bo, pw, ow, tr), (im, lf, s, d, k, ls, rf, rz, ra, rn, rq, lt, m1, m2, m3, m4, bd, (fc.set 7 ((fc.getD 7 0) + (nI 1))), hd, sz, el, s, g, (fm.set 7 ((fm.getD 7 0) + (nI 1))), hm, so, si, sh, ce, ca, td, wa, kp, la, bf, oo, bo, pw, ow, tr), ?_, ?_, ?_⟩
                · show Ev ab_Z0 3 84 [.ref 0, .int (nI a1k), .int (nI a2k), .int (nI a3k)] (ww im lf s d k ls rf rz ra rn rq lt m1 m2 m3 m4 bd fc hd sz el s g fm hm so si sh ce ca td wa kp la bf oo bo pw ow tr) (some (.int (-7)), (ww im lf s d k ls rf rz ra rn rq lt m1 m2 m3 m4 bd (fc.set 7 ((fc.getD 7 0) + (nI 1))) hd sz el s g fm hm so si sh ce ca td wa kp la bf oo bo pw ow tr))
                  refine Ef.in (md := mX5_person) (L := [some (.ref 0), some (.int (nI a1k)), some (.int (nI a2k)), some (.int (nI a3k))]) rfl (Nat.le_of_ble_eq_true rfl) rfl ?_
                  refine E_iload_n at_X5_person_0 rfl ?_
                  refine E_callS (v := some (.int (nI 1))) (As := [.int (nI a3k)]) (r0 := []) (cs2 := (ww im lf s d k ls rf rz ra rn rq lt m1 m2 m3 m4 bd fc hd sz el s g fm hm so si sh ce ca td wa kp la bf oo bo pw ow tr)) at_X5_person_1 rfl rfl (Nat.le_of_ble_eq_true rfl) rfl (L1_X4_isWish (by omega) (by omega) (by omega)) (by decide) rfl ?_
                  refine E_if (t := 13) (b := true) at_X5_person_4 rfl (by decide) ?_
                  refine E_iload_n at_X5_person_13 rfl ?_
                  refine E_iconst (x := nI 0) at_X5_person_14 (by decide) ?_
                  refine E_bipush (x := nI 99) at_X5_person_15 (by decide) ?_
                  refine E_callS (v := some (.int (nI 1))) (As := [.int (nI a1k), .int (nI 0), .int (nI 99)]) (r0 := []) (cs2 := (ww im lf s d k ls rf rz ra rn rq lt m1 m2 m3 m4 bd fc hd sz el s g fm hm so si sh ce ca td wa kp la bf oo bo pw ow tr)) at_X5_person_17 rfl rfl (Nat.le_of_ble_eq_true rfl) rfl (L84_X5_isFrom (by omega) (by omega) (by omega)) (by decide) rfl ?_
                  refine E_if (t := 33) (b := false) at_X5_person_20 rfl (by decide) ?_
                  refine E_iload_n at_X5_person_23 rfl ?_
                  refine E_iconst (x := nI 0) at_X5_person_24 (by decide) ?_
                  refine E_bipush (x := nI 9) at_X5_person_25 (by decide) ?_
                  refine E_callS (v := some (.int (nI 1))) (As := [.int (nI a2k), .int (nI 0), .int (nI 9)]) (r0 := []) (cs2 := (ww im lf s d k ls rf rz ra rn rq lt m1 m2 m3 m4 bd fc hd sz el s g fm hm so si sh ce ca td wa kp la bf oo bo pw ow tr)) at_X5_person_27 rfl rfl (Nat.le_of_ble_eq_true rfl) rfl (L68_X5_isFrom (by omega) (by omega) (by omega)) (by decide) rfl ?_
                  refine E_if (t := 40) (b := true) at_X5_person_30 rfl (by decide) ?_
                  refine E_aload_n rfl rfl ?_
                  refine E_getfield (v := .ref 1) rfl w0 rfl (by decide) rfl ?_
                  refine E_callV (v := some (.int (nI 0))) (As := [.ref 1]) (r0 := []) (cs2 := (ww im lf s d k ls rf rz ra rn rq lt m1 m2 m3 m4 bd fc hd sz el s g fm hm so si sh ce ca td wa kp la bf oo bo pw ow tr)) rfl rfl rfl (Nat.le_of_ble_eq_true rfl) rfl (ab_rvOf w1 rfl) (L87_X4_hasRoomForPerson (by omega) (by omega)) (by decide) rfl ?_
                  refine E_if (t := 57) (b := false) rfl rfl (by decide) ?_
                  refine E_aload_n rfl rfl ?_
                  refine E_bipush (x := nI 7) rfl (by decide) ?_
                  refine E_callV (v := some (.int (-7))) (As := [.ref 0, .int (nI 7)]) (r0 := []) (cs2 := (ww im lf s d k ls rf rz ra rn rq lt m1 m2 m3 m4 bd (fc.set 7 ((fc.getD 7 0) + (nI 1))) hd sz el s g fm hm so si sh ce ca td wa kp la bf oo bo pw ow tr)) rfl rfl rfl (Nat.le_of_ble_eq_true rfl) rfl (ab_rvOf w0 rfl) (L42_X5_refuse (by omega)) (by decide) w_lens ?_
                  exact E_iret rfl rfl
                · show Ev ab_Z0 2 149 [.ref 65, .int (nI a1k), .int (nI a2k), .int (nI a3k)] (ww im lf s d k ls rf rz ra rn rq lt m1 m2 m3 m4 bd (fc.set 7 ((fc.getD 7 0) + (nI 1))) hd sz el s g fm hm so si sh ce ca td wa kp la bf oo bo pw ow tr) (some (.int (-7)), (ww im lf s d k ls rf rz ra rn rq lt m1 m2 m3 m4 bd (fc.set 7 ((fc.getD 7 0) + (nI 1))) hd sz el s g (fm.set 7 ((fm.getD 7 0) + (nI 1))) hm so si sh ce ca td wa kp la bf oo bo pw ow tr))
                  refine Ef.in (md := mX6_person) (L := [some (.ref 65), some (.int (nI a1k)), some (.int (nI a2k)), some (.int (nI a3k))]) rfl (Nat.le_of_ble_eq_true rfl) rfl ?_
                  refine E_aload_n at_X6_person_0 rfl ?_
                  refine E_iload_n at_X6_person_1 rfl ?_
                  refine E_iconst (x := nI 0) at_X6_person_2 (by decide) ?_
                  refine E_bipush (x := nI 7) at_X6_person_3 (by decide) ?_
                  refine E_callV (v := some (.int (nI 1))) (As := [.ref 65, .int (nI a3k), .int (nI 0), .int (nI 7)]) (r0 := []) (cs2 := (ww im lf s d k ls rf rz ra rn rq lt m1 m2 m3 m4 bd (fc.set 7 ((fc.getD 7 0) + (nI 1))) hd sz el s g fm hm so si sh ce ca td wa kp la bf oo bo pw ow tr)) at_X6_person_5 rfl rfl (Nat.le_of_ble_eq_true rfl) rfl (ab_rvOf w65 rfl) (L3_X6_isFrom (by omega) (by omega) (by omega)) (by decide) rfl ?_
                  refine E_if (t := 17) (b := true) at_X6_person_8 rfl (by decide) ?_
                  refine E_aload_n at_X6_person_17 rfl ?_
                  refine E_iload_n at_X6_person_18 rfl ?_
                  refine E_iconst (x := nI 0) at_X6_person_19 (by decide) ?_
                  refine E_bipush (x := nI 99) at_X6_person_20 (by decide) ?_
                  refine E_callV (v := some (.int (nI 1))) (As := [.ref 65, .int (nI a1k), .int (nI 0), .int (nI 99)]) (r0 := []) (cs2 := (ww im lf s d k ls rf rz ra rn rq lt m1 m2 m3 m4 bd (fc.set 7 ((fc.getD 7 0) + (nI 1))) hd sz el s g fm hm so si sh ce ca td wa kp la bf oo bo pw ow tr)) at_X6_person_22 rfl rfl (Nat.le_of_ble_eq_true rfl) rfl (ab_rvOf w65 rfl) (L85_X6_isFrom (by omega) (by omega) (by omega)) (by decide) rfl ?_
                  refine E_if (t := 39) (b := false) at_X6_person_25 rfl (by decide) ?_
                  refine E_aload_n at_X6_person_28 rfl ?_
                  refine E_iload_n at_X6_person_29 rfl ?_
                  refine E_iconst (x := nI 0) at_X6_person_30 (by decide) ?_
                  refine E_bipush (x := nI 9) at_X6_person_31 (by decide) ?_
                  refine E_callV (v := some (.int (nI 1))) (As := [.ref 65, .int (nI a2k), .int (nI 0), .int (nI 9)]) (r0 := []) (cs2 := (ww im lf s d k ls rf rz ra rn rq lt m1 m2 m3 m4 bd (fc.set 7 ((fc.getD 7 0) + (nI 1))) hd sz el s g fm hm so si sh ce ca td wa kp la bf oo bo pw ow tr)) at_X6_person_33 rfl rfl (Nat.le_of_ble_eq_true rfl) rfl (ab_rvOf w65 rfl) (L70_X6_isFrom (by omega) (by omega) (by omega)) (by decide) rfl ?_
                  refine E_if (t := 46) (b := true) at_X6_person_36 rfl (by decide) ?_
                  refine E_aload_n rfl rfl ?_
                  refine E_getfield (v := .int (nI (qM s))) rfl w65 rfl (by decide) rfl ?_
                  refine E_bipush (x := nI 6) rfl (by decide) ?_
                  refine E_ic (t := 64) (b := false) rfl rfl ((cn_ne (nI_toInt (by omega)) (nI_toInt (by omega))).trans (decide_eq_false (by omega))) ?_
                  refine E_aload_n rfl rfl ?_
                  refine E_bipush (x := (-7)) rfl (by decide) ?_
                  refine E_callV (v := some (.int (-7))) (As := [.ref 65, .int (-7)]) (r0 := []) (cs2 := (ww im lf s d k ls rf rz ra rn rq lt m1 m2 m3 m4 bd (fc.set 7 ((fc.getD 7 0) + (nI 1))) hd sz el s g (fm.set 7 ((fm.getD 7 0) + (nI 1))) hm so si sh ce ca td wa kp la bf oo bo pw ow tr)) rfl rfl rfl (Nat.le_of_ble_eq_true rfl) rfl (ab_rvOf w65 rfl) (L43_X6_no (by omega)) (by decide) w_lens ?_
                  refine E_goto (t := 71) rfl rfl ?_
                  exact E_iret rfl rfl
                · exact ⟨I, rfl, hf, iQ, iM, iT, iS, l_el, (lr.1), (lr.2.1), (lr.2.2.1), (by simp only [List.length_set]; exact (lr.2.2.2.1)), (by simp only [List.length_set]; exact (lr.2.2.2.2.1)), (lr.2.2.2.2.2.1), (lr.2.2.2.2.2.2.1), (lr.2.2.2.2.2.2.2.1), (lr.2.2.2.2.2.2.2.2.1), (lr.2.2.2.2.2.2.2.2.2.1), (lr.2.2.2.2.2.2.2.2.2.2.1), (lr.2.2.2.2.2.2.2.2.2.2.2.1), (lr.2.2.2.2.2.2.2.2.2.2.2.2.1), (lr.2.2.2.2.2.2.2.2.2.2.2.2.2.1), (lr.2.2.2.2.2.2.2.2.2.2.2.2.2.2.1), (lr.2.2.2.2.2.2.2.2.2.2.2.2.2.2.2.1), (lr.2.2.2.2.2.2.2.2.2.2.2.2.2.2.2.2.1), (lr.2.2.2.2.2.2.2.2.2.2.2.2.2.2.2.2.2.1), (lr.2.2.2.2.2.2.2.2.2.2.2.2.2.2.2.2.2.2.1), (lr.2.2.2.2.2.2.2.2.2.2.2.2.2.2.2.2.2.2.2.1), (lr.2.2.2.2.2.2.2.2.2.2.2.2.2.2.2.2.2.2.2.2)⟩
          · refine ⟨(-6), (im, lf, s, d, k, ls, rf, rz, ra, rn, rq, lt, m1, m2, m3, m4, bd, (fc.set 6 ((fc.getD 6 0) + (nI 1))), hd, sz, el, s, g, fm, hm, so, si, sh, ce, ca, td, wa, kp, la, bf, oo, bo, pw, ow, tr), (im, lf, s, d, k, ls, rf, rz, ra, rn, rq, lt, m1, m2, m3, m4, bd, (fc.set 6 ((fc.getD 6 0) + (nI 1))), hd, sz, el, s, g, (fm.set 6 ((fm.getD 6 0) + (nI 1))), hm, so, si, sh, ce, ca, td, wa, kp, la, bf, oo, bo, pw, ow, tr), ?_, ?_, ?_⟩
            · show Ev ab_Z0 3 84 [.ref 0, .int (nI a1k), .int a2, .int (nI a3k)] (ww im lf s d k ls rf rz ra rn rq lt m1 m2 m3 m4 bd fc hd sz el s g fm hm so si sh ce ca td wa kp la bf oo bo pw ow tr) (some (.int (-6)), (ww im lf s d k ls rf rz ra rn rq lt m1 m2 m3 m4 bd (fc.set 6 ((fc.getD 6 0) + (nI 1))) hd sz el s g fm hm so si sh ce ca td wa kp la bf oo bo pw ow tr))
              refine Ef.in (md := mX5_person) (L := [some (.ref 0), some (.int (nI a1k)), some (.int a2), some (.int (nI a3k))]) rfl (Nat.le_of_ble_eq_true rfl) rfl ?_
              refine E_iload_n at_X5_person_0 rfl ?_
              refine E_callS (v := some (.int (nI 1))) (As := [.int (nI a3k)]) (r0 := []) (cs2 := (ww im lf s d k ls rf rz ra rn rq lt m1 m2 m3 m4 bd fc hd sz el s g fm hm so si sh ce ca td wa kp la bf oo bo pw ow tr)) at_X5_person_1 rfl rfl (Nat.le_of_ble_eq_true rfl) rfl (L1_X4_isWish (by omega) (by omega) (by omega)) (by decide) rfl ?_
              refine E_if (t := 13) (b := true) at_X5_person_4 rfl (by decide) ?_
              refine E_iload_n at_X5_person_13 rfl ?_
              refine E_iconst (x := nI 0) at_X5_person_14 (by decide) ?_
              refine E_bipush (x := nI 99) at_X5_person_15 (by decide) ?_
              refine E_callS (v := some (.int (nI 1))) (As := [.int (nI a1k), .int (nI 0), .int (nI 99)]) (r0 := []) (cs2 := (ww im lf s d k ls rf rz ra rn rq lt m1 m2 m3 m4 bd fc hd sz el s g fm hm so si sh ce ca td wa kp la bf oo bo pw ow tr)) at_X5_person_17 rfl rfl (Nat.le_of_ble_eq_true rfl) rfl (L84_X5_isFrom (by omega) (by omega) (by omega)) (by decide) rfl ?_
              refine E_if (t := 33) (b := false) at_X5_person_20 rfl (by decide) ?_
              refine E_iload_n at_X5_person_23 rfl ?_
              refine E_iconst (x := nI 0) at_X5_person_24 (by decide) ?_
              refine E_bipush (x := nI 9) at_X5_person_25 (by decide) ?_
              refine E_callS (v := some (.int (nI 0))) (As := [.int a2, .int (nI 0), .int (nI 9)]) (r0 := []) (cs2 := (ww im lf s d k ls rf rz ra rn rq lt m1 m2 m3 m4 bd fc hd sz el s g fm hm so si sh ce ca td wa kp la bf oo bo pw ow tr)) at_X5_person_27 rfl rfl (Nat.le_of_ble_eq_true rfl) rfl (L80_X5_isFrom (by omega) (by omega)) (by decide) rfl ?_
              refine E_if (t := 40) (b := false) at_X5_person_30 rfl (by decide) ?_
              refine E_aload_n at_X5_person_33 rfl ?_
              refine E_bipush (x := nI 6) at_X5_person_34 (by decide) ?_
              refine E_callV (v := some (.int (-6))) (As := [.ref 0, .int (nI 6)]) (r0 := []) (cs2 := (ww im lf s d k ls rf rz ra rn rq lt m1 m2 m3 m4 bd (fc.set 6 ((fc.getD 6 0) + (nI 1))) hd sz el s g fm hm so si sh ce ca td wa kp la bf oo bo pw ow tr)) at_X5_person_36 rfl rfl (Nat.le_of_ble_eq_true rfl) rfl (ab_rvOf w0 rfl) (L26_X5_refuse (by omega)) (by decide) w_lens ?_
              exact E_iret at_X5_person_39 rfl
            · show Ev ab_Z0 2 149 [.ref 65, .int (nI a1k), .int a2, .int (nI a3k)] (ww im lf s d k ls rf rz ra rn rq lt m1 m2 m3 m4 bd (fc.set 6 ((fc.getD 6 0) + (nI 1))) hd sz el s g fm hm so si sh ce ca td wa kp la bf oo bo pw ow tr) (some (.int (-6)), (ww im lf s d k ls rf rz ra rn rq lt m1 m2 m3 m4 bd (fc.set 6 ((fc.getD 6 0) + (nI 1))) hd sz el s g (fm.set 6 ((fm.getD 6 0) + (nI 1))) hm so si sh ce ca td wa kp la bf oo bo pw ow tr))
              refine Ef.in (md := mX6_person) (L := [some (.ref 65), some (.int (nI a1k)), some (.int a2), some (.int (nI a3k))]) rfl (Nat.le_of_ble_eq_true rfl) rfl ?_
              refine E_aload_n at_X6_person_0 rfl ?_
              refine E_iload_n at_X6_person_1 rfl ?_
              refine E_iconst (x := nI 0) at_X6_person_2 (by decide) ?_
              refine E_bipush (x := nI 7) at_X6_person_3 (by decide) ?_
              refine E_callV (v := some (.int (nI 1))) (As := [.ref 65, .int (nI a3k), .int (nI 0), .int (nI 7)]) (r0 := []) (cs2 := (ww im lf s d k ls rf rz ra rn rq lt m1 m2 m3 m4 bd (fc.set 6 ((fc.getD 6 0) + (nI 1))) hd sz el s g fm hm so si sh ce ca td wa kp la bf oo bo pw ow tr)) at_X6_person_5 rfl rfl (Nat.le_of_ble_eq_true rfl) rfl (ab_rvOf w65 rfl) (L3_X6_isFrom (by omega) (by omega) (by omega)) (by decide) rfl ?_
              refine E_if (t := 17) (b := true) at_X6_person_8 rfl (by decide) ?_
              refine E_aload_n at_X6_person_17 rfl ?_
              refine E_iload_n at_X6_person_18 rfl ?_
              refine E_iconst (x := nI 0) at_X6_person_19 (by decide) ?_
              refine E_bipush (x := nI 99) at_X6_person_20 (by decide) ?_
              refine E_callV (v := some (.int (nI 1))) (As := [.ref 65, .int (nI a1k), .int (nI 0), .int (nI 99)]) (r0 := []) (cs2 := (ww im lf s d k ls rf rz ra rn rq lt m1 m2 m3 m4 bd (fc.set 6 ((fc.getD 6 0) + (nI 1))) hd sz el s g fm hm so si sh ce ca td wa kp la bf oo bo pw ow tr)) at_X6_person_22 rfl rfl (Nat.le_of_ble_eq_true rfl) rfl (ab_rvOf w65 rfl) (L85_X6_isFrom (by omega) (by omega) (by omega)) (by decide) rfl ?_
              refine E_if (t := 39) (b := false) at_X6_person_25 rfl (by decide) ?_
              refine E_aload_n at_X6_person_28 rfl ?_
              refine E_iload_n at_X6_person_29 rfl ?_
              refine E_iconst (x := nI 0) at_X6_person_30 (by decide) ?_
              refine E_bipush (x := nI 9) at_X6_person_31 (by decide) ?_
              refine E_callV (v := some (.int (nI 0))) (As := [.ref 65, .int a2, .int (nI 0), .int (nI 9)]) (r0 := []) (cs2 := (ww im lf s d k ls rf rz ra rn rq lt m1 m2 m3 m4 bd (fc.set 6 ((fc.getD 6 0) + (nI 1))) hd sz el s g fm hm so si sh ce ca td wa kp la bf oo bo pw ow tr)) at_X6_person_33 rfl rfl (Nat.le_of_ble_eq_true rfl) rfl (ab_rvOf w65 rfl) (L81_X6_isFrom (by omega) (by omega)) (by decide) rfl ?_
              refine E_if (t := 46) (b := false) at_X6_person_36 rfl (by decide) ?_
              refine E_aload_n at_X6_person_39 rfl ?_
              refine E_bipush (x := (-6)) at_X6_person_40 (by decide) ?_
              refine E_callV (v := some (.int (-6))) (As := [.ref 65, .int (-6)]) (r0 := []) (cs2 := (ww im lf s d k ls rf rz ra rn rq lt m1 m2 m3 m4 bd (fc.set 6 ((fc.getD 6 0) + (nI 1))) hd sz el s g (fm.set 6 ((fm.getD 6 0) + (nI 1))) hm so si sh ce ca td wa kp la bf oo bo pw ow tr)) at_X6_person_42 rfl rfl (Nat.le_of_ble_eq_true rfl) rfl (ab_rvOf w65 rfl) (L28_X6_no (by omega)) (by decide) w_lens ?_
              exact E_iret at_X6_person_45 rfl
            · exact ⟨I, rfl, hf, iQ, iM, iT, iS, l_el, (lr.1), (lr.2.1), (lr.2.2.1), (by simp only [List.length_set]; exact (lr.2.2.2.1)), (by simp only [List.length_set]; exact (lr.2.2.2.2.1)), (lr.2.2.2.2.2.1), (lr.2.2.2.2.2.2.1), (lr.2.2.2.2.2.2.2.1), (lr.2.2.2.2.2.2.2.2.1), (lr.2.2.2.2.2.2.2.2.2.1), (lr.2.2.2.2.2.2.2.2.2.2.1), (lr.2.2.2.2.2.2.2.2.2.2.2.1), (lr.2.2.2.2.2.2.2.2.2.2.2.2.1), (lr.2.2.2.2.2.2.2.2.2.2.2.2.2.1), (lr.2.2.2.2.2.2.2.2.2.2.2.2.2.2.1), (lr.2.2.2.2.2.2.2.2.2.2.2.2.2.2.2.1), (lr.2.2.2.2.2.2.2.2.2.2.2.2.2.2.2.2.1), (lr.2.2.2.2.2.2.2.2.2.2.2.2.2.2.2.2.2.1), (lr.2.2.2.2.2.2.2.2.2.2.2.2.2.2.2.2.2.2.1), (lr.2.2.2.2.2.2.2.2.2.2.2.2.2.2.2.2.2.2.2.1), (lr.2.2.2.2.2.2.2.2.2.2.2.2.2.2.2.2.2.2.2.2)⟩
      · refine ⟨(-6), (im, lf, s, d, k, ls, rf, rz, ra, rn, rq, lt, m1, m2, m3, m4, bd, (fc.set 6 ((fc.getD 6 0) + (nI 1))), hd, sz, el, s, g, fm, hm, so, si, sh, ce, ca, td, wa, kp, la, bf, oo, bo, pw, ow, tr), (im, lf, s, d, k, ls, rf, rz, ra, rn, rq, lt, m1, m2, m3, m4, bd, (fc.set 6 ((fc.getD 6 0) + (nI 1))), hd, sz, el, s, g, (fm.set 6 ((fm.getD 6 0) + (nI 1))), hm, so, si, sh, ce, ca, td, wa, kp, la, bf, oo, bo, pw, ow, tr), ?_, ?_, ?_⟩
        · show Ev ab_Z0 3 84 [.ref 0, .int a1, .int a2, .int (nI a3k)] (ww im lf s d k ls rf rz ra rn rq lt m1 m2 m3 m4 bd fc hd sz el s g fm hm so si sh ce ca td wa kp la bf oo bo pw ow tr) (some (.int (-6)), (ww im lf s d k ls rf rz ra rn rq lt m1 m2 m3 m4 bd (fc.set 6 ((fc.getD 6 0) + (nI 1))) hd sz el s g fm hm so si sh ce ca td wa kp la bf oo bo pw ow tr))
          refine Ef.in (md := mX5_person) (L := [some (.ref 0), some (.int a1), some (.int a2), some (.int (nI a3k))]) rfl (Nat.le_of_ble_eq_true rfl) rfl ?_
          refine E_iload_n at_X5_person_0 rfl ?_
          refine E_callS (v := some (.int (nI 1))) (As := [.int (nI a3k)]) (r0 := []) (cs2 := (ww im lf s d k ls rf rz ra rn rq lt m1 m2 m3 m4 bd fc hd sz el s g fm hm so si sh ce ca td wa kp la bf oo bo pw ow tr)) at_X5_person_1 rfl rfl (Nat.le_of_ble_eq_true rfl) rfl (L1_X4_isWish (by omega) (by omega) (by omega)) (by decide) rfl ?_
          refine E_if (t := 13) (b := true) at_X5_person_4 rfl (by decide) ?_
          refine E_iload_n at_X5_person_13 rfl ?_
          refine E_iconst (x := nI 0) at_X5_person_14 (by decide) ?_
          refine E_bipush (x := nI 99) at_X5_person_15 (by decide) ?_
          refine E_callS (v := some (.int (nI 0))) (As := [.int a1, .int (nI 0), .int (nI 99)]) (r0 := []) (cs2 := (ww im lf s d k ls rf rz ra rn rq lt m1 m2 m3 m4 bd fc hd sz el s g fm hm so si sh ce ca td wa kp la bf oo bo pw ow tr)) at_X5_person_17 rfl rfl (Nat.le_of_ble_eq_true rfl) rfl (L88_X5_isFrom (by omega) (by omega)) (by decide) rfl ?_
          refine E_if (t := 33) (b := true) at_X5_person_20 rfl (by decide) ?_
          refine E_aload_n at_X5_person_33 rfl ?_
          refine E_bipush (x := nI 6) at_X5_person_34 (by decide) ?_
          refine E_callV (v := some (.int (-6))) (As := [.ref 0, .int (nI 6)]) (r0 := []) (cs2 := (ww im lf s d k ls rf rz ra rn rq lt m1 m2 m3 m4 bd (fc.set 6 ((fc.getD 6 0) + (nI 1))) hd sz el s g fm hm so si sh ce ca td wa kp la bf oo bo pw ow tr)) at_X5_person_36 rfl rfl (Nat.le_of_ble_eq_true rfl) rfl (ab_rvOf w0 rfl) (L26_X5_refuse (by omega)) (by decide) w_lens ?_
          exact E_iret at_X5_person_39 rfl
        · show Ev ab_Z0 2 149 [.ref 65, .int a1, .int a2, .int (nI a3k)] (ww im lf s d k ls rf rz ra rn rq lt m1 m2 m3 m4 bd (fc.set 6 ((fc.getD 6 0) + (nI 1))) hd sz el s g fm hm so si sh ce ca td wa kp la bf oo bo pw ow tr) (some (.int (-6)), (ww im lf s d k ls rf rz ra rn rq lt m1 m2 m3 m4 bd (fc.set 6 ((fc.getD 6 0) + (nI 1))) hd sz el s g (fm.set 6 ((fm.getD 6 0) + (nI 1))) hm so si sh ce ca td wa kp la bf oo bo pw ow tr))
          refine Ef.in (md := mX6_person) (L := [some (.ref 65), some (.int a1), some (.int a2), some (.int (nI a3k))]) rfl (Nat.le_of_ble_eq_true rfl) rfl ?_
          refine E_aload_n at_X6_person_0 rfl ?_
          refine E_iload_n at_X6_person_1 rfl ?_
          refine E_iconst (x := nI 0) at_X6_person_2 (by decide) ?_
          refine E_bipush (x := nI 7) at_X6_person_3 (by decide) ?_
          refine E_callV (v := some (.int (nI 1))) (As := [.ref 65, .int (nI a3k), .int (nI 0), .int (nI 7)]) (r0 := []) (cs2 := (ww im lf s d k ls rf rz ra rn rq lt m1 m2 m3 m4 bd (fc.set 6 ((fc.getD 6 0) + (nI 1))) hd sz el s g fm hm so si sh ce ca td wa kp la bf oo bo pw ow tr)) at_X6_person_5 rfl rfl (Nat.le_of_ble_eq_true rfl) rfl (ab_rvOf w65 rfl) (L3_X6_isFrom (by omega) (by omega) (by omega)) (by decide) rfl ?_
          refine E_if (t := 17) (b := true) at_X6_person_8 rfl (by decide) ?_
          refine E_aload_n at_X6_person_17 rfl ?_
          refine E_iload_n at_X6_person_18 rfl ?_
          refine E_iconst (x := nI 0) at_X6_person_19 (by decide) ?_
          refine E_bipush (x := nI 99) at_X6_person_20 (by decide) ?_
          refine E_callV (v := some (.int (nI 0))) (As := [.ref 65, .int a1, .int (nI 0), .int (nI 99)]) (r0 := []) (cs2 := (ww im lf s d k ls rf rz ra rn rq lt m1 m2 m3 m4 bd (fc.set 6 ((fc.getD 6 0) + (nI 1))) hd sz el s g fm hm so si sh ce ca td wa kp la bf oo bo pw ow tr)) at_X6_person_22 rfl rfl (Nat.le_of_ble_eq_true rfl) rfl (ab_rvOf w65 rfl) (L89_X6_isFrom (by omega) (by omega)) (by decide) rfl ?_
          refine E_if (t := 39) (b := true) at_X6_person_25 rfl (by decide) ?_
          refine E_aload_n at_X6_person_39 rfl ?_
          refine E_bipush (x := (-6)) at_X6_person_40 (by decide) ?_
          refine E_callV (v := some (.int (-6))) (As := [.ref 65, .int (-6)]) (r0 := []) (cs2 := (ww im lf s d k ls rf rz ra rn rq lt m1 m2 m3 m4 bd (fc.set 6 ((fc.getD 6 0) + (nI 1))) hd sz el s g (fm.set 6 ((fm.getD 6 0) + (nI 1))) hm so si sh ce ca td wa kp la bf oo bo pw ow tr)) at_X6_person_42 rfl rfl (Nat.le_of_ble_eq_true rfl) rfl (ab_rvOf w65 rfl) (L28_X6_no (by omega)) (by decide) w_lens ?_
          exact E_iret at_X6_person_45 rfl
        · exact ⟨I, rfl, hf, iQ, iM, iT, iS, l_el, (lr.1), (lr.2.1), (lr.2.2.1), (by simp only [List.length_set]; exact (lr.2.2.2.1)), (by simp only [List.length_set]; exact (lr.2.2.2.2.1)), (lr.2.2.2.2.2.1), (lr.2.2.2.2.2.2.1), (lr.2.2.2.2.2.2.2.1), (lr.2.2.2.2.2.2.2.2.1), (lr.2.2.2.2.2.2.2.2.2.1), (lr.2.2.2.2.2.2.2.2.2.2.1), (lr.2.2.2.2.2.2.2.2.2.2.2.1), (lr.2.2.2.2.2.2.2.2.2.2.2.2.1), (lr.2.2.2.2.2.2.2.2.2.2.2.2.2.1), (lr.2.2.2.2.2.2.2.2.2.2.2.2.2.2.1), (lr.2.2.2.2.2.2.2.2.2.2.2.2.2.2.2.1), (lr.2.2.2.2.2.2.2.2.2.2.2.2.2.2.2.2.1), (lr.2.2.2.2.2.2.2.2.2.2.2.2.2.2.2.2.2.1), (lr.2.2.2.2.2.2.2.2.2.2.2.2.2.2.2.2.2.2.1), (lr.2.2.2.2.2.2.2.2.2.2.2.2.2.2.2.2.2.2.2.1), (lr.2.2.2.2.2.2.2.2.2.2.2.2.2.2.2.2.2.2.2.2)⟩
    · refine ⟨(-1), (im, lf, s, d, k, ls, rf, rz, ra, rn, rq, lt, m1, m2, m3, m4, bd, (fc.set 1 ((fc.getD 1 0) + (nI 1))), hd, sz, el, s, g, fm, hm, so, si, sh, ce, ca, td, wa, kp, la, bf, oo, bo, pw, ow, tr), (im, lf, s, d, k, ls, rf, rz, ra, rn, rq, lt, m1, m2, m3, m4, bd, (fc.set 1 ((fc.getD 1 0) + (nI 1))), hd, sz, el, s, g, (fm.set 1 ((fm.getD 1 0) + (nI 1))), hm, so, si, sh, ce, ca, td, wa, kp, la, bf, oo, bo, pw, ow, tr), ?_, ?_, ?_⟩
      · show Ev ab_Z0 3 84 [.ref 0, .int a1, .int a2, .int (nI a3k)] (ww im lf s d k ls rf rz ra rn rq lt m1 m2 m3 m4 bd fc hd sz el s g fm hm so si sh ce ca td wa kp la bf oo bo pw ow tr) (some (.int (-1)), (ww im lf s d k ls rf rz ra rn rq lt m1 m2 m3 m4 bd (fc.set 1 ((fc.getD 1 0) + (nI 1))) hd sz el s g fm hm so si sh ce ca td wa kp la bf oo bo pw ow tr))
        refine Ef.in (md := mX5_person) (L := [some (.ref 0), some (.int a1), some (.int a2), some (.int (nI a3k))]) rfl (Nat.le_of_ble_eq_true rfl) rfl ?_
        refine E_iload_n at_X5_person_0 rfl ?_
        refine E_callS (v := some (.int (nI 0))) (As := [.int (nI a3k)]) (r0 := []) (cs2 := (ww im lf s d k ls rf rz ra rn rq lt m1 m2 m3 m4 bd fc hd sz el s g fm hm so si sh ce ca td wa kp la bf oo bo pw ow tr)) at_X5_person_1 rfl rfl (Nat.le_of_ble_eq_true rfl) rfl (L4_X4_isWish (by omega) (by omega) (by omega)) (by decide) rfl ?_
        refine E_if (t := 13) (b := false) at_X5_person_4 rfl (by decide) ?_
        refine E_aload_n rfl rfl ?_
        refine E_iconst (x := nI 1) rfl (by decide) ?_
        refine E_callV (v := some (.int (-1))) (As := [.ref 0, .int (nI 1)]) (r0 := []) (cs2 := (ww im lf s d k ls rf rz ra rn rq lt m1 m2 m3 m4 bd (fc.set 1 ((fc.getD 1 0) + (nI 1))) hd sz el s g fm hm so si sh ce ca td wa kp la bf oo bo pw ow tr)) rfl rfl rfl (Nat.le_of_ble_eq_true rfl) rfl (ab_rvOf w0 rfl) (L6_X5_refuse (by omega)) (by decide) w_lens ?_
        exact E_iret rfl rfl
      · show Ev ab_Z0 2 149 [.ref 65, .int a1, .int a2, .int (nI a3k)] (ww im lf s d k ls rf rz ra rn rq lt m1 m2 m3 m4 bd (fc.set 1 ((fc.getD 1 0) + (nI 1))) hd sz el s g fm hm so si sh ce ca td wa kp la bf oo bo pw ow tr) (some (.int (-1)), (ww im lf s d k ls rf rz ra rn rq lt m1 m2 m3 m4 bd (fc.set 1 ((fc.getD 1 0) + (nI 1))) hd sz el s g (fm.set 1 ((fm.getD 1 0) + (nI 1))) hm so si sh ce ca td wa kp la bf oo bo pw ow tr))
        refine Ef.in (md := mX6_person) (L := [some (.ref 65), some (.int a1), some (.int a2), some (.int (nI a3k))]) rfl (Nat.le_of_ble_eq_true rfl) rfl ?_
        refine E_aload_n at_X6_person_0 rfl ?_
        refine E_iload_n at_X6_person_1 rfl ?_
        refine E_iconst (x := nI 0) at_X6_person_2 (by decide) ?_
        refine E_bipush (x := nI 7) at_X6_person_3 (by decide) ?_
        refine E_callV (v := some (.int (nI 0))) (As := [.ref 65, .int (nI a3k), .int (nI 0), .int (nI 7)]) (r0 := []) (cs2 := (ww im lf s d k ls rf rz ra rn rq lt m1 m2 m3 m4 bd (fc.set 1 ((fc.getD 1 0) + (nI 1))) hd sz el s g fm hm so si sh ce ca td wa kp la bf oo bo pw ow tr)) at_X6_person_5 rfl rfl (Nat.le_of_ble_eq_true rfl) rfl (ab_rvOf w65 rfl) (L7_X6_isFrom (by omega) (by omega) (by omega)) (by decide) rfl ?_
        refine E_if (t := 17) (b := false) at_X6_person_8 rfl (by decide) ?_
        refine E_aload_n rfl rfl ?_
        refine E_iconst (x := (-1)) rfl (by decide) ?_
        refine E_callV (v := some (.int (-1))) (As := [.ref 65, .int (-1)]) (r0 := []) (cs2 := (ww im lf s d k ls rf rz ra rn rq lt m1 m2 m3 m4 bd (fc.set 1 ((fc.getD 1 0) + (nI 1))) hd sz el s g (fm.set 1 ((fm.getD 1 0) + (nI 1))) hm so si sh ce ca td wa kp la bf oo bo pw ow tr)) rfl rfl rfl (Nat.le_of_ble_eq_true rfl) rfl (ab_rvOf w65 rfl) (L8_X6_no (by omega)) (by decide) w_lens ?_
        exact E_iret rfl rfl
      · exact ⟨I, rfl, hf, iQ, iM, iT, iS, l_el, (lr.1), (lr.2.1), (lr.2.2.1), (by simp only [List.length_set]; exact (lr.2.2.2.1)), (by simp only [List.length_set]; exact (lr.2.2.2.2.1)), (lr.2.2.2.2.2.1), (lr.2.2.2.2.2.2.1), (lr.2.2.2.2.2.2.2.1), (lr.2.2.2.2.2.2.2.2.1), (lr.2.2.2.2.2.2.2.2.2.1), (lr.2.2.2.2.2.2.2.2.2.2.1), (lr.2.2.2.2.2.2.2.2.2.2.2.1), (lr.2.2.2.2.2.2.2.2.2.2.2.2.1), (lr.2.2.2.2.2.2.2.2.2.2.2.2.2.1), (lr.2.2.2.2.2.2.2.2.2.2.2.2.2.2.1), (lr.2.2.2.2.2.2.2.2.2.2.2.2.2.2.2.1), (lr.2.2.2.2.2.2.2.2.2.2.2.2.2.2.2.2.1), (lr.2.2.2.2.2.2.2.2.2.2.2.2.2.2.2.2.2.1), (lr.2.2.2.2.2.2.2.2.2.2.2.2.2.2.2.2.2.2.1), (lr.2.2.2.2.2.2.2.2.2.2.2.2.2.2.2.2.2.2.2.1), (lr.2.2.2.2.2.2.2.2.2.2.2.2.2.2.2.2.2.2.2.2)⟩
  · refine ⟨(-1), (im, lf, s, d, k, ls, rf, rz, ra, rn, rq, lt, m1, m2, m3, m4, bd, (fc.set 1 ((fc.getD 1 0) + (nI 1))), hd, sz, el, s, g, fm, hm, so, si, sh, ce, ca, td, wa, kp, la, bf, oo, bo, pw, ow, tr), (im, lf, s, d, k, ls, rf, rz, ra, rn, rq, lt, m1, m2, m3, m4, bd, (fc.set 1 ((fc.getD 1 0) + (nI 1))), hd, sz, el, s, g, (fm.set 1 ((fm.getD 1 0) + (nI 1))), hm, so, si, sh, ce, ca, td, wa, kp, la, bf, oo, bo, pw, ow, tr), ?_, ?_, ?_⟩
    · show Ev ab_Z0 3 84 [.ref 0, .int a1, .int a2, .int a3] (ww im lf s d k ls rf rz ra rn rq lt m1 m2 m3 m4 bd fc hd sz el s g fm hm so si sh ce ca td wa kp la bf oo bo pw ow tr) (some (.int (-1)), (ww im lf s d k ls rf rz ra rn rq lt m1 m2 m3 m4 bd (fc.set 1 ((fc.getD 1 0) + (nI 1))) hd sz el s g fm hm so si sh ce ca td wa kp la bf oo bo pw ow tr))
      refine Ef.in (md := mX5_person) (L := [some (.ref 0), some (.int a1), some (.int a2), some (.int a3)]) rfl (Nat.le_of_ble_eq_true rfl) rfl ?_
      refine E_iload_n at_X5_person_0 rfl ?_
      refine E_callS (v := some (.int (nI 0))) (As := [.int a3]) (r0 := []) (cs2 := (ww im lf s d k ls rf rz ra rn rq lt m1 m2 m3 m4 bd fc hd sz el s g fm hm so si sh ce ca td wa kp la bf oo bo pw ow tr)) at_X5_person_1 rfl rfl (Nat.le_of_ble_eq_true rfl) rfl (L9_X4_isWish (by omega) (by omega)) (by decide) rfl ?_
      refine E_if (t := 13) (b := false) at_X5_person_4 rfl (by decide) ?_
      refine E_aload_n rfl rfl ?_
      refine E_iconst (x := nI 1) rfl (by decide) ?_
      refine E_callV (v := some (.int (-1))) (As := [.ref 0, .int (nI 1)]) (r0 := []) (cs2 := (ww im lf s d k ls rf rz ra rn rq lt m1 m2 m3 m4 bd (fc.set 1 ((fc.getD 1 0) + (nI 1))) hd sz el s g fm hm so si sh ce ca td wa kp la bf oo bo pw ow tr)) rfl rfl rfl (Nat.le_of_ble_eq_true rfl) rfl (ab_rvOf w0 rfl) (L6_X5_refuse (by omega)) (by decide) w_lens ?_
      exact E_iret rfl rfl
    · show Ev ab_Z0 2 149 [.ref 65, .int a1, .int a2, .int a3] (ww im lf s d k ls rf rz ra rn rq lt m1 m2 m3 m4 bd (fc.set 1 ((fc.getD 1 0) + (nI 1))) hd sz el s g fm hm so si sh ce ca td wa kp la bf oo bo pw ow tr) (some (.int (-1)), (ww im lf s d k ls rf rz ra rn rq lt m1 m2 m3 m4 bd (fc.set 1 ((fc.getD 1 0) + (nI 1))) hd sz el s g (fm.set 1 ((fm.getD 1 0) + (nI 1))) hm so si sh ce ca td wa kp la bf oo bo pw ow tr))
      refine Ef.in (md := mX6_person) (L := [some (.ref 65), some (.int a1), some (.int a2), some (.int a3)]) rfl (Nat.le_of_ble_eq_true rfl) rfl ?_
      refine E_aload_n at_X6_person_0 rfl ?_
      refine E_iload_n at_X6_person_1 rfl ?_
      refine E_iconst (x := nI 0) at_X6_person_2 (by decide) ?_
      refine E_bipush (x := nI 7) at_X6_person_3 (by decide) ?_
      refine E_callV (v := some (.int (nI 0))) (As := [.ref 65, .int a3, .int (nI 0), .int (nI 7)]) (r0 := []) (cs2 := (ww im lf s d k ls rf rz ra rn rq lt m1 m2 m3 m4 bd (fc.set 1 ((fc.getD 1 0) + (nI 1))) hd sz el s g fm hm so si sh ce ca td wa kp la bf oo bo pw ow tr)) at_X6_person_5 rfl rfl (Nat.le_of_ble_eq_true rfl) rfl (ab_rvOf w65 rfl) (L10_X6_isFrom (by omega) (by omega)) (by decide) rfl ?_
      refine E_if (t := 17) (b := false) at_X6_person_8 rfl (by decide) ?_
      refine E_aload_n rfl rfl ?_
      refine E_iconst (x := (-1)) rfl (by decide) ?_
      refine E_callV (v := some (.int (-1))) (As := [.ref 65, .int (-1)]) (r0 := []) (cs2 := (ww im lf s d k ls rf rz ra rn rq lt m1 m2 m3 m4 bd (fc.set 1 ((fc.getD 1 0) + (nI 1))) hd sz el s g (fm.set 1 ((fm.getD 1 0) + (nI 1))) hm so si sh ce ca td wa kp la bf oo bo pw ow tr)) rfl rfl rfl (Nat.le_of_ble_eq_true rfl) rfl (ab_rvOf w65 rfl) (L8_X6_no (by omega)) (by decide) w_lens ?_
      exact E_iret rfl rfl
    · exact ⟨I, rfl, hf, iQ, iM, iT, iS, l_el, (lr.1), (lr.2.1), (lr.2.2.1), (by simp only [List.length_set]; exact (lr.2.2.2.1)), (by simp only [List.length_set]; exact (lr.2.2.2.2.1)), (lr.2.2.2.2.2.1), (lr.2.2.2.2.2.2.1), (lr.2.2.2.2.2.2.2.1), (lr.2.2.2.2.2.2.2.2.1), (lr.2.2.2.2.2.2.2.2.2.1), (lr.2.2.2.2.2.2.2.2.2.2.1), (lr.2.2.2.2.2.2.2.2.2.2.2.1), (lr.2.2.2.2.2.2.2.2.2.2.2.2.1), (lr.2.2.2.2.2.2.2.2.2.2.2.2.2.1), (lr.2.2.2.2.2.2.2.2.2.2.2.2.2.2.1), (lr.2.2.2.2.2.2.2.2.2.2.2.2.2.2.2.1), (lr.2.2.2.2.2.2.2.2.2.2.2.2.2.2.2.2.1), (lr.2.2.2.2.2.2.2.2.2.2.2.2.2.2.2.2.2.1), (lr.2.2.2.2.2.2.2.2.2.2.2.2.2.2.2.2.2.2.1), (lr.2.2.2.2.2.2.2.2.2.2.2.2.2.2.2.2.2.2.2.1), (lr.2.2.2.2.2.2.2.2.2.2.2.2.2.2.2.2.2.2.2.2)⟩
