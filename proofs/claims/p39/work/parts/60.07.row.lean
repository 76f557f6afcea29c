/-! row; by program (wip/tools/op.py) -/
section LM
variable {im : Int32} {lf : Int32} {s : ab_q} {d : ab_q} {k : ab_q} {ls : List Int32} {rf : Int32} {rz : Int32} {ra : Int32} {rn : Int32} {rq : ab_q} {lt : List Int32} {m1 : Int32} {m2 : Int32} {m3 : Int32} {m4 : Int32} {bd : List Int32} {fc : List Int32} {hd : Nat → Int32} {sz : Nat → Int32} {el : Nat → List Int64} {t : ab_q} {g : Nat → Int32} {fm : List Int32} {hm : List Nat} {so : List Nat} {si : List Nat} {sh : List Int32} {ce : List Int64} {ca : List Int64} {td : List Int32} {wa : List Int32} {kp : List Int32} {la : List Int32} {bf : List Int32} {oo : List Int32} {bo : List Int32} {pw : List Int32} {ow : List Int32} {tr : List Int32}
theorem L39_X5_isShelf {x0 : Nat} (h0 : x0 < 2147483648) (h1 : ¬ (x0 < 0)) (h2 : x0 < 8) : Ev ab_Z0 1 117 [.int (nI x0)] (ww im lf s d k ls rf rz ra rn rq lt m1 m2 m3 m4 bd fc hd sz el t g fm hm so si sh ce ca td wa kp la bf oo bo pw ow tr) (some (.int (nI 1)), (ww im lf s d k ls rf rz ra rn rq lt m1 m2 m3 m4 bd fc hd sz el t g fm hm so si sh ce ca td wa kp la bf oo bo pw ow tr)) := by
  refine Ef.in (md := mX5_isShelf) (L := [some (.int (nI x0))]) rfl (Nat.le_of_ble_eq_true rfl) rfl ?_
  refine E_iload_n rfl rfl ?_
  refine E_if (t := 14) (b := false) rfl rfl ((cn_lt (nI_toInt (by omega)) (by decide : (0 : Int32).toInt = 0)).trans (decide_eq_false (by omega))) ?_
  refine E_iload_n rfl rfl ?_
  refine E_bipush (x := nI 8) rfl (by decide) ?_
  refine E_ic (t := 14) (b := false) rfl rfl ((cn_ge (nI_toInt (by omega)) (nI_toInt (by omega))).trans (decide_eq_false (by omega))) ?_
  refine E_iconst (x := nI 1) rfl (by decide) ?_
  refine E_goto (t := 15) rfl rfl ?_
  exact E_iret rfl rfl
theorem L40_X6_isShelf {x1 : Nat} (h0 : x1 < 2147483648) (h1 : ¬ (x1 < 0)) (h2 : x1 < 8) : Ev ab_Z0 1 131 [.ref 65, .int (nI x1)] (ww im lf s d k ls rf rz ra rn rq lt m1 m2 m3 m4 bd fc hd sz el t g fm hm so si sh ce ca td wa kp la bf oo bo pw ow tr) (some (.int (nI 1)), (ww im lf s d k ls rf rz ra rn rq lt m1 m2 m3 m4 bd fc hd sz el t g fm hm so si sh ce ca td wa kp la bf oo bo pw ow tr)) := by
  refine Ef.in (md := mX6_isShelf) (L := [some (.ref 65), some (.int (nI x1))]) rfl (Nat.le_of_ble_eq_true rfl) rfl ?_
  refine E_iload_n rfl rfl ?_
  refine E_if (t := 14) (b := false) rfl rfl ((cn_lt (nI_toInt (by omega)) (by decide : (0 : Int32).toInt = 0)).trans (decide_eq_false (by omega))) ?_
  refine E_iload_n rfl rfl ?_
  refine E_bipush (x := nI 8) rfl (by decide) ?_
  refine E_ic (t := 14) (b := false) rfl rfl ((cn_ge (nI_toInt (by omega)) (nI_toInt (by omega))).trans (decide_eq_false (by omega))) ?_
  refine E_iconst (x := nI 1) rfl (by decide) ?_
  refine E_goto (t := 15) rfl rfl ?_
  exact E_iret rfl rfl
theorem L41_X5_isFrom  : Ev ab_Z0 1 115 [.int (nI 7), .int (nI 1), .int (nI 7)] (ww im lf s d k ls rf rz ra rn rq lt m1 m2 m3 m4 bd fc hd sz el t g fm hm so si sh ce ca td wa kp la bf oo bo pw ow tr) (some (.int (nI 1)), (ww im lf s d k ls rf rz ra rn rq lt m1 m2 m3 m4 bd fc hd sz el t g fm hm so si sh ce ca td wa kp la bf oo bo pw ow tr)) := by
  refine Ef.in (md := mX5_isFrom) (L := [some (.int (nI 7)), some (.int (nI 1)), some (.int (nI 7))]) rfl (Nat.le_of_ble_eq_true rfl) rfl ?_
  refine E_iload_n at_X5_isFrom_0 rfl ?_
  refine E_iload_n at_X5_isFrom_1 rfl ?_
  refine E_ic (t := 14) (b := false) at_X5_isFrom_2 rfl (by decide) ?_
  refine E_iload_n at_X5_isFrom_5 rfl ?_
  refine E_iload_n at_X5_isFrom_6 rfl ?_
  refine E_ic (t := 14) (b := false) at_X5_isFrom_7 rfl (by decide) ?_
  refine E_iconst (x := nI 1) at_X5_isFrom_10 (by decide) ?_
  refine E_goto (t := 15) at_X5_isFrom_11 rfl ?_
  exact E_iret at_X5_isFrom_15 rfl
theorem L42_X5_refuse  (h0 : fc.length = 8) : Ev ab_Z0 2 118 [.ref 0, .int (nI 7)] (ww im lf s d k ls rf rz ra rn rq lt m1 m2 m3 m4 bd fc hd sz el t g fm hm so si sh ce ca td wa kp la bf oo bo pw ow tr) (some (.int (-7)), (ww im lf s d k ls rf rz ra rn rq lt m1 m2 m3 m4 bd (fc.set 7 ((fc.getD 7 0) + (nI 1))) hd sz el t g fm hm so si sh ce ca td wa kp la bf oo bo pw ow tr)) := by
  refine Ef.in (md := mX5_refuse) (L := [some (.ref 0), some (.int (nI 7))]) rfl (Nat.le_of_ble_eq_true rfl) rfl ?_
  refine E_iload_n at_X5_refuse_0 rfl ?_
  refine E_iconst (x := nI 1) at_X5_refuse_1 (by decide) ?_
  refine E_bipush (x := nI 7) at_X5_refuse_2 (by decide) ?_
  refine E_callS (v := some (.int (nI 1))) (As := [.int (nI 7), .int (nI 1), .int (nI 7)]) (r0 := []) (cs2 := (ww im lf s d k ls rf rz ra rn rq lt m1 m2 m3 m4 bd fc hd sz el t g fm hm so si sh ce ca td wa kp la bf oo bo pw ow tr)) at_X5_refuse_4 rfl rfl (Nat.le_of_ble_eq_true rfl) rfl (L41_X5_isFrom) (by decide) rfl ?_
  refine E_if (t := 20) (b := false) at_X5_refuse_7 rfl (by decide) ?_
  refine E_aload_n at_X5_refuse_10 rfl ?_
  refine E_getfield (v := .ref 48) at_X5_refuse_11 w0 rfl (by decide) rfl ?_
  refine E_iload_n at_X5_refuse_14 rfl ?_
  refine E_dup2 at_X5_refuse_15 ⟨rfl, rfl⟩ ?_
  refine E_ialI (l := fc) (v := fc.getD 7 0) at_X5_refuse_16 w48 (by omega) (by omega) rfl ?_
  refine E_iconst (x := nI 1) at_X5_refuse_17 (by decide) ?_
  refine E_iadd (z := (fc.getD 7 0) + (nI 1)) at_X5_refuse_18 rfl ?_
  refine E_iasI (l := fc) (cs2 := (ww im lf s d k ls rf rz ra rn rq lt m1 m2 m3 m4 bd (fc.set 7 ((fc.getD 7 0) + (nI 1))) hd sz el t g fm hm so si sh ce ca td wa kp la bf oo bo pw ow tr)) at_X5_refuse_19 w48 (by omega) (by omega) rfl ?_
  refine E_iload_n at_X5_refuse_20 rfl ?_
  refine E_ineg (z := (-7)) at_X5_refuse_21 (by decide) ?_
  exact E_iret at_X5_refuse_22 rfl
theorem L43_X6_no  (h0 : fm.length = 8) : Ev ab_Z0 1 129 [.ref 65, .int (-7)] (ww im lf s d k ls rf rz ra rn rq lt m1 m2 m3 m4 bd fc hd sz el t g fm hm so si sh ce ca td wa kp la bf oo bo pw ow tr) (some (.int (-7)), (ww im lf s d k ls rf rz ra rn rq lt m1 m2 m3 m4 bd fc hd sz el t g (fm.set 7 ((fm.getD 7 0) + (nI 1))) hm so si sh ce ca td wa kp la bf oo bo pw ow tr)) := by
  refine Ef.in (md := mX6_no) (L := [some (.ref 65), some (.int (-7))]) rfl (Nat.le_of_ble_eq_true rfl) rfl ?_
  refine E_aload_n at_X6_no_0 rfl ?_
  refine E_getfield (v := .ref 66) at_X6_no_1 w65 rfl (by decide) rfl ?_
  refine E_iload_n at_X6_no_4 rfl ?_
  refine E_ineg (z := nI 7) at_X6_no_5 (by decide) ?_
  refine E_dup2 at_X6_no_6 ⟨rfl, rfl⟩ ?_
  refine E_ialI (l := fm) (v := fm.getD 7 0) at_X6_no_7 w66 (by omega) (by omega) rfl ?_
  refine E_iconst (x := nI 1) at_X6_no_8 (by decide) ?_
  refine E_iadd (z := (fm.getD 7 0) + (nI 1)) at_X6_no_9 rfl ?_
  refine E_iasI (l := fm) (cs2 := (ww im lf s d k ls rf rz ra rn rq lt m1 m2 m3 m4 bd fc hd sz el t g (fm.set 7 ((fm.getD 7 0) + (nI 1))) hm so si sh ce ca td wa kp la bf oo bo pw ow tr)) at_X6_no_10 w66 (by omega) (by omega) rfl ?_
  refine E_iload_n at_X6_no_11 rfl ?_
  exact E_iret at_X6_no_12 rfl
theorem L44_X5_isFrom  : Ev ab_Z0 1 115 [.int (nI 4), .int (nI 1), .int (nI 7)] (ww im lf s d k ls rf rz ra rn rq lt m1 m2 m3 m4 bd fc hd sz el t g fm hm so si sh ce ca td wa kp la bf oo bo pw ow tr) (some (.int (nI 1)), (ww im lf s d k ls rf rz ra rn rq lt m1 m2 m3 m4 bd fc hd sz el t g fm hm so si sh ce ca td wa kp la bf oo bo pw ow tr)) := by
  refine Ef.in (md := mX5_isFrom) (L := [some (.int (nI 4)), some (.int (nI 1)), some (.int (nI 7))]) rfl (Nat.le_of_ble_eq_true rfl) rfl ?_
  refine E_iload_n at_X5_isFrom_0 rfl ?_
  refine E_iload_n at_X5_isFrom_1 rfl ?_
  refine E_ic (t := 14) (b := false) at_X5_isFrom_2 rfl (by decide) ?_
  refine E_iload_n at_X5_isFrom_5 rfl ?_
  refine E_iload_n at_X5_isFrom_6 rfl ?_
  refine E_ic (t := 14) (b := false) at_X5_isFrom_7 rfl (by decide) ?_
  refine E_iconst (x := nI 1) at_X5_isFrom_10 (by decide) ?_
  refine E_goto (t := 15) at_X5_isFrom_11 rfl ?_
  exact E_iret at_X5_isFrom_15 rfl
theorem L45_X5_refuse  (h0 : fc.length = 8) : Ev ab_Z0 2 118 [.ref 0, .int (nI 4)] (ww im lf s d k ls rf rz ra rn rq lt m1 m2 m3 m4 bd fc hd sz el t g fm hm so si sh ce ca td wa kp la bf oo bo pw ow tr) (some (.int (-4)), (ww im lf s d k ls rf rz ra rn rq lt m1 m2 m3 m4 bd (fc.set 4 ((fc.getD 4 0) + (nI 1))) hd sz el t g fm hm so si sh ce ca td wa kp la bf oo bo pw ow tr)) := by
  refine Ef.in (md := mX5_refuse) (L := [some (.ref 0), some (.int (nI 4))]) rfl (Nat.le_of_ble_eq_true rfl) rfl ?_
  refine E_iload_n at_X5_refuse_0 rfl ?_
  refine E_iconst (x := nI 1) at_X5_refuse_1 (by decide) ?_
  refine E_bipush (x := nI 7) at_X5_refuse_2 (by decide) ?_
  refine E_callS (v := some (.int (nI 1))) (As := [.int (nI 4), .int (nI 1), .int (nI 7)]) (r0 := []) (cs2 := (ww im lf s d k ls rf rz ra rn rq lt m1 m2 m3 m4 bd fc hd sz el t g fm hm so si sh ce ca td wa kp la bf oo bo pw ow tr)) at_X5_refuse_4 rfl rfl (Nat.le_of_ble_eq_true rfl) rfl (L44_X5_isFrom) (by decide) rfl ?_
  refine E_if (t := 20) (b := false) at_X5_refuse_7 rfl (by decide) ?_
  refine E_aload_n at_X5_refuse_10 rfl ?_
  refine E_getfield (v := .ref 48) at_X5_refuse_11 w0 rfl (by decide) rfl ?_
  refine E_iload_n at_X5_refuse_14 rfl ?_
  refine E_dup2 at_X5_refuse_15 ⟨rfl, rfl⟩ ?_
  refine E_ialI (l := fc) (v := fc.getD 4 0) at_X5_refuse_16 w48 (by omega) (by omega) rfl ?_
  refine E_iconst (x := nI 1) at_X5_refuse_17 (by decide) ?_
  refine E_iadd (z := (fc.getD 4 0) + (nI 1)) at_X5_refuse_18 rfl ?_
  refine E_iasI (l := fc) (cs2 := (ww im lf s d k ls rf rz ra rn rq lt m1 m2 m3 m4 bd (fc.set 4 ((fc.getD 4 0) + (nI 1))) hd sz el t g fm hm so si sh ce ca td wa kp la bf oo bo pw ow tr)) at_X5_refuse_19 w48 (by omega) (by omega) rfl ?_
  refine E_iload_n at_X5_refuse_20 rfl ?_
  refine E_ineg (z := (-4)) at_X5_refuse_21 (by decide) ?_
  exact E_iret at_X5_refuse_22 rfl
theorem L46_X6_no  (h0 : fm.length = 8) : Ev ab_Z0 1 129 [.ref 65, .int (-4)] (ww im lf s d k ls rf rz ra rn rq lt m1 m2 m3 m4 bd fc hd sz el t g fm hm so si sh ce ca td wa kp la bf oo bo pw ow tr) (some (.int (-4)), (ww im lf s d k ls rf rz ra rn rq lt m1 m2 m3 m4 bd fc hd sz el t g (fm.set 4 ((fm.getD 4 0) + (nI 1))) hm so si sh ce ca td wa kp la bf oo bo pw ow tr)) := by
  refine Ef.in (md := mX6_no) (L := [some (.ref 65), some (.int (-4))]) rfl (Nat.le_of_ble_eq_true rfl) rfl ?_
  refine E_aload_n at_X6_no_0 rfl ?_
  refine E_getfield (v := .ref 66) at_X6_no_1 w65 rfl (by decide) rfl ?_
  refine E_iload_n at_X6_no_4 rfl ?_
  refine E_ineg (z := nI 4) at_X6_no_5 (by decide) ?_
  refine E_dup2 at_X6_no_6 ⟨rfl, rfl⟩ ?_
  refine E_ialI (l := fm) (v := fm.getD 4 0) at_X6_no_7 w66 (by omega) (by omega) rfl ?_
  refine E_iconst (x := nI 1) at_X6_no_8 (by decide) ?_
  refine E_iadd (z := (fm.getD 4 0) + (nI 1)) at_X6_no_9 rfl ?_
  refine E_iasI (l := fm) (cs2 := (ww im lf s d k ls rf rz ra rn rq lt m1 m2 m3 m4 bd fc hd sz el t g (fm.set 4 ((fm.getD 4 0) + (nI 1))) hm so si sh ce ca td wa kp la bf oo bo pw ow tr)) at_X6_no_10 w66 (by omega) (by omega) rfl ?_
  refine E_iload_n at_X6_no_11 rfl ?_
  exact E_iret at_X6_no_12 rfl
theorem L47_X5_isShelf {x0 : Nat} (h0 : x0 < 2147483648) (h1 : ¬ (x0 < 0)) (h2 : ¬ (x0 < 8)) : Ev ab_Z0 1 117 [.int (nI x0)] (ww im lf s d k ls rf rz ra rn rq lt m1 m2 m3 m4 bd fc hd sz el t g fm hm so si sh ce ca td wa kp la bf oo bo pw ow tr) (some (.int (nI 0)), (ww im lf s d k ls rf rz ra rn rq lt m1 m2 m3 m4 bd fc hd sz el t g fm hm so si sh ce ca td wa kp la bf oo bo pw ow tr)) := by
  refine Ef.in (md := mX5_isShelf) (L := [some (.int (nI x0))]) rfl (Nat.le_of_ble_eq_true rfl) rfl ?_
  refine E_iload_n rfl rfl ?_
  refine E_if (t := 14) (b := false) rfl rfl ((cn_lt (nI_toInt (by omega)) (by decide : (0 : Int32).toInt = 0)).trans (decide_eq_false (by omega))) ?_
  refine E_iload_n rfl rfl ?_
  refine E_bipush (x := nI 8) rfl (by decide) ?_
  refine E_ic (t := 14) (b := true) rfl rfl ((cn_ge (nI_toInt (by omega)) (nI_toInt (by omega))).trans (decide_eq_true (by omega))) ?_
  refine E_iconst (x := nI 0) rfl (by decide) ?_
  exact E_iret rfl rfl
theorem L48_X6_isShelf {x1 : Nat} (h0 : x1 < 2147483648) (h1 : ¬ (x1 < 0)) (h2 : ¬ (x1 < 8)) : Ev ab_Z0 1 131 [.ref 65, .int (nI x1)] (ww im lf s d k ls rf rz ra rn rq lt m1 m2 m3 m4 bd fc hd sz el t g fm hm so si sh ce ca td wa kp la bf oo bo pw ow tr) (some (.int (nI 0)), (ww im lf s d k ls rf rz ra rn rq lt m1 m2 m3 m4 bd fc hd sz el t g fm hm so si sh ce ca td wa kp la bf oo bo pw ow tr)) := by
  refine Ef.in (md := mX6_isShelf) (L := [some (.ref 65), some (.int (nI x1))]) rfl (Nat.le_of_ble_eq_true rfl) rfl ?_
  refine E_iload_n rfl rfl ?_
  refine E_if (t := 14) (b := false) rfl rfl ((cn_lt (nI_toInt (by omega)) (by decide : (0 : Int32).toInt = 0)).trans (decide_eq_false (by omega))) ?_
  refine E_iload_n rfl rfl ?_
  refine E_bipush (x := nI 8) rfl (by decide) ?_
  refine E_ic (t := 14) (b := true) rfl rfl ((cn_ge (nI_toInt (by omega)) (nI_toInt (by omega))).trans (decide_eq_true (by omega))) ?_
  refine E_iconst (x := nI 0) rfl (by decide) ?_
  exact E_iret rfl rfl
theorem L49_X5_isShelf {x0 : Int32} (h0 : x0.toInt < 0) (h1 : x0.toInt < 0) : Ev ab_Z0 1 117 [.int x0] (ww im lf s d k ls rf rz ra rn rq lt m1 m2 m3 m4 bd fc hd sz el t g fm hm so si sh ce ca td wa kp la bf oo bo pw ow tr) (some (.int (nI 0)), (ww im lf s d k ls rf rz ra rn rq lt m1 m2 m3 m4 bd fc hd sz el t g fm hm so si sh ce ca td wa kp la bf oo bo pw ow tr)) := by
  refine Ef.in (md := mX5_isShelf) (L := [some (.int x0)]) rfl (Nat.le_of_ble_eq_true rfl) rfl ?_
  refine E_iload_n rfl rfl ?_
  refine E_if (t := 14) (b := true) rfl rfl ((cn_lt rfl (by decide : (0 : Int32).toInt = 0)).trans (decide_eq_true (by omega))) ?_
  refine E_iconst (x := nI 0) rfl (by decide) ?_
  exact E_iret rfl rfl
theorem L50_X6_isShelf {x1 : Int32} (h0 : x1.toInt < 0) (h1 : x1.toInt < 0) : Ev ab_Z0 1 131 [.ref 65, .int x1] (ww im lf s d k ls rf rz ra rn rq lt m1 m2 m3 m4 bd fc hd sz el t g fm hm so si sh ce ca td wa kp la bf oo bo pw ow tr) (some (.int (nI 0)), (ww im lf s d k ls rf rz ra rn rq lt m1 m2 m3 m4 bd fc hd sz el t g fm hm so si sh ce ca td wa kp la bf oo bo pw ow tr)) := by
  refine Ef.in (md := mX6_isShelf) (L := [some (.ref 65), some (.int x1)]) rfl (Nat.le_of_ble_eq_true rfl) rfl ?_
  refine E_iload_n rfl rfl ?_
  refine E_if (t := 14) (b := true) rfl rfl ((cn_lt rfl (by decide : (0 : Int32).toInt = 0)).trans (decide_eq_true (by omega))) ?_
  refine E_iconst (x := nI 0) rfl (by decide) ?_
  exact E_iret rfl rfl
end LM
set_option maxHeartbeats 4000000 in
theorem op_row (x : St) (hx : wI x) (a1 : Int32) (a2 : Int32) (a3 : Int32) : ∃ (r : Int32) (x1 x2 : St), Ev ab_Z0 3 76 [.ref 0, .int a1, .int a2, .int a3] (wt x) (some (.int r), wt x1) ∧ Ev ab_Z0 2 135 [.ref 65, .int a1, .int a2, .int a3] (wt x1) (some (.int r), wt x2) ∧ wI x2 := by
  obtain ⟨im, lf, s, d, k, ls, rf, rz, ra, rn, rq, lt, m1, m2, m3, m4, bd, fc, hd, sz, el, t, g, fm, hm, so, si, sh, ce, ca, td, wa, kp, la, bf, oo, bo, pw, ow, tr⟩ := x
  obtain ⟨I, ts, hf, iQ, iM, iT, iS, l_el, lr⟩ := hx
  replace lr : Hd _ := lr
  have l_fc := lr.2.2.2.1
  have l_fm := lr.2.2.2.2.1
  have l_hm := lr.2.2.2.2.2.1
  have l_so := lr.2.2.2.2.2.2.1
  have l_si := lr.2.2.2.2.2.2.2.1
  subst ts
  obtain ⟨⟨i0, i1, i2, i3⟩, ⟨i4, i5, i6, i7, i8⟩, ⟨i9, i10⟩, I1, I2, I3, I4⟩ := id I
  rcases ab_int a1 with ⟨a1k, f0, rfl⟩ | f0
  · by_cases f1 : a1k < 8
    · rcases ab_int a3 with ⟨a3k, f2, rfl⟩ | f2
      · rcases ab_int a2 with ⟨a2k, f3, rfl⟩ | f3
        · by_cases f4 : 3 < a2k
          · refine ⟨(-6), (im, lf, s, d, k, ls, rf, rz, ra, rn, rq, lt, m1, m2, m3, m4, bd, (fc.set 6 ((fc.getD 6 0) + (nI 1))), hd, sz, el, s, g, fm, hm, so, si, sh, ce, ca, td, wa, kp, la, bf, oo, bo, pw, ow, tr), (im, lf, s, d, k, ls, rf, rz, ra, rn, rq, lt, m1, m2, m3, m4, bd, (fc.set 6 ((fc.getD 6 0) + (nI 1))), hd, sz, el, s, g, (fm.set 6 ((fm.getD 6 0) + (nI 1))), hm, so, si, sh, ce, ca, td, wa, kp, la, bf, oo, bo, pw, ow, tr), ?_, ?_, ?_⟩
            · show Ev ab_Z0 3 76 [.ref 0, .int (nI a1k), .int (nI a2k), .int (nI a3k)] (ww im lf s d k ls rf rz ra rn rq lt m1 m2 m3 m4 bd fc hd sz el s g fm hm so si sh ce ca td wa kp la bf oo bo pw ow tr) (some (.int (-6)), (ww im lf s d k ls rf rz ra rn rq lt m1 m2 m3 m4 bd (fc.set 6 ((fc.getD 6 0) + (nI 1))) hd sz el s g fm hm so si sh ce ca td wa kp la bf oo bo pw ow tr))
              refine Ef.in (md := mX5_row) (L := [some (.ref 0), some (.int (nI a1k)), some (.int (nI a2k)), some (.int (nI a3k))]) rfl (Nat.le_of_ble_eq_true rfl) rfl ?_
              refine E_iload_n at_X5_row_0 rfl ?_
              refine E_callS (v := some (.int (nI 1))) (As := [.int (nI a1k)]) (r0 := []) (cs2 := (ww im lf s d k ls rf rz ra rn rq lt m1 m2 m3 m4 bd fc hd sz el s g fm hm so si sh ce ca td wa kp la bf oo bo pw ow tr)) at_X5_row_1 rfl rfl (Nat.le_of_ble_eq_true rfl) rfl (L39_X5_isShelf (by omega) (by omega) (by omega)) (by decide) rfl ?_
              refine E_if (t := 13) (b := true) at_X5_row_4 rfl (by decide) ?_
              refine E_iload_n at_X5_row_13 rfl ?_
              refine E_if (t := 23) (b := true) at_X5_row_14 rfl ((cn_ge (nI_toInt (by omega)) (by decide : (0 : Int32).toInt = 0)).trans (decide_eq_true (by omega))) ?_
              refine E_iload_n at_X5_row_23 rfl ?_
              refine E_if (t := 32) (b := false) at_X5_row_24 rfl ((cn_lt (nI_toInt (by omega)) (by decide : (0 : Int32).toInt = 0)).trans (decide_eq_false (by omega))) ?_
              refine E_iload_n at_X5_row_27 rfl ?_
              refine E_iconst (x := nI 3) at_X5_row_28 (by decide) ?_
              refine E_ic (t := 39) (b := false) at_X5_row_29 rfl ((cn_le (nI_toInt (by omega)) (nI_toInt (by omega))).trans (decide_eq_false (by omega))) ?_
              refine E_aload_n rfl rfl ?_
              refine E_bipush (x := nI 6) rfl (by decide) ?_
              refine E_callV (v := some (.int (-6))) (As := [.ref 0, .int (nI 6)]) (r0 := []) (cs2 := (ww im lf s d k ls rf rz ra rn rq lt m1 m2 m3 m4 bd (fc.set 6 ((fc.getD 6 0) + (nI 1))) hd sz el s g fm hm so si sh ce ca td wa kp la bf oo bo pw ow tr)) rfl rfl rfl (Nat.le_of_ble_eq_true rfl) rfl (ab_rvOf w0 rfl) (L26_X5_refuse (by omega)) (by decide) w_lens ?_
              exact E_iret rfl rfl
            · show Ev ab_Z0 2 135 [.ref 65, .int (nI a1k), .int (nI a2k), .int (nI a3k)] (ww im lf s d k ls rf rz ra rn rq lt m1 m2 m3 m4 bd (fc.set 6 ((fc.getD 6 0) + (nI 1))) hd sz el s g fm hm so si sh ce ca td wa kp la bf oo bo pw ow tr) (some (.int (-6)), (ww im lf s d k ls rf rz ra rn rq lt m1 m2 m3 m4 bd (fc.set 6 ((fc.getD 6 0) + (nI 1))) hd sz el s g (fm.set 6 ((fm.getD 6 0) + (nI 1))) hm so si sh ce ca td wa kp la bf oo bo pw ow tr))
              refine Ef.in (md := mX6_row) (L := [some (.ref 65), some (.int (nI a1k)), some (.int (nI a2k)), some (.int (nI a3k)), none]) rfl (Nat.le_of_ble_eq_true rfl) rfl ?_
              refine E_aload_n at_X6_row_0 rfl ?_
              refine E_iload_n at_X6_row_1 rfl ?_
              refine E_callV (v := some (.int (nI 1))) (As := [.ref 65, .int (nI a1k)]) (r0 := []) (cs2 := (ww im lf s d k ls rf rz ra rn rq lt m1 m2 m3 m4 bd (fc.set 6 ((fc.getD 6 0) + (nI 1))) hd sz el s g fm hm so si sh ce ca td wa kp la bf oo bo pw ow tr)) at_X6_row_2 rfl rfl (Nat.le_of_ble_eq_true rfl) rfl (ab_rvOf w65 rfl) (L40_X6_isShelf (by omega) (by omega) (by omega)) (by decide) rfl ?_
              refine E_if (t := 14) (b := true) at_X6_row_5 rfl (by decide) ?_
              refine E_iload_n at_X6_row_14 rfl ?_
              refine E_if (t := 25) (b := true) at_X6_row_15 rfl ((cn_ge (nI_toInt (by omega)) (by decide : (0 : Int32).toInt = 0)).trans (decide_eq_true (by omega))) ?_
              refine E_iload_n at_X6_row_25 rfl ?_
              refine E_if (t := 34) (b := false) at_X6_row_26 rfl ((cn_lt (nI_toInt (by omega)) (by decide : (0 : Int32).toInt = 0)).trans (decide_eq_false (by omega))) ?_
              refine E_iload_n at_X6_row_29 rfl ?_
              refine E_iconst (x := nI 3) at_X6_row_30 (by decide) ?_
              refine E_ic (t := 41) (b := false) at_X6_row_31 rfl ((cn_le (nI_toInt (by omega)) (nI_toInt (by omega))).trans (decide_eq_false (by omega))) ?_
              refine E_aload_n rfl rfl ?_
              refine E_bipush (x := (-6)) rfl (by decide) ?_
              refine E_callV (v := some (.int (-6))) (As := [.ref 65, .int (-6)]) (r0 := []) (cs2 := (ww im lf s d k ls rf rz ra rn rq lt m1 m2 m3 m4 bd (fc.set 6 ((fc.getD 6 0) + (nI 1))) hd sz el s g (fm.set 6 ((fm.getD 6 0) + (nI 1))) hm so si sh ce ca td wa kp la bf oo bo pw ow tr)) rfl rfl rfl (Nat.le_of_ble_eq_true rfl) rfl (ab_rvOf w65 rfl) (L28_X6_no (by omega)) (by decide) w_lens ?_
              exact E_iret rfl rfl
            · exact ⟨I, rfl, hf, iQ, iM, iT, iS, l_el, (lr.1), (lr.2.1), (lr.2.2.1), (by simp only [List.length_set]; exact (lr.2.2.2.1)), (by simp only [List.length_set]; exact (lr.2.2.2.2.1)), (lr.2.2.2.2.2.1), (lr.2.2.2.2.2.2.1), (lr.2.2.2.2.2.2.2.1), (lr.2.2.2.2.2.2.2.2.1), (lr.2.2.2.2.2.2.2.2.2.1), (lr.2.2.2.2.2.2.2.2.2.2.1), (lr.2.2.2.2.2.2.2.2.2.2.2.1), (lr.2.2.2.2.2.2.2.2.2.2.2.2.1), (lr.2.2.2.2.2.2.2.2.2.2.2.2.2.1), (lr.2.2.2.2.2.2.2.2.2.2.2.2.2.2.1), (lr.2.2.2.2.2.2.2.2.2.2.2.2.2.2.2.1), (lr.2.2.2.2.2.2.2.2.2.2.2.2.2.2.2.2.1), (lr.2.2.2.2.2.2.2.2.2.2.2.2.2.2.2.2.2.1), (lr.2.2.2.2.2.2.2.2.2.2.2.2.2.2.2.2.2.2.1), (lr.2.2.2.2.2.2.2.2.2.2.2.2.2.2.2.2.2.2.2.1), (lr.2.2.2.2.2.2.2.2.2.2.2.2.2.2.2.2.2.2.2.2)⟩
          · by_cases f5 : 160 < a3k
            · refine ⟨(-7), (im, lf, s, d, k, ls, rf, rz, ra, rn, rq, lt, m1, m2, m3, m4, bd, (fc.set 7 ((fc.getD 7 0) + (nI 1))), hd, sz, el, s, g, fm, hm, so, si, sh, ce, ca, td, wa, kp, la, bf, oo, bo, pw, ow, tr), (im, lf, s, d, k, ls, rf, rz, ra, rn, rq, lt, m1, m2, m3, m4, bd, (fc.set 7 ((fc.getD 7 0) + (nI 1))), hd, sz, el, s, g, (fm.set 7 ((fm.getD 7 0) + (nI 1))), hm, so, si, sh, ce, ca, td, wa, kp, la, bf, oo, bo, pw, ow, tr), ?_, ?_, ?_⟩
              · show Ev ab_Z0 3 76 [.ref 0, .int (nI a1k), .int (nI a2k), .int (nI a3k)] (ww im lf s d k ls rf rz ra rn rq lt m1 m2 m3 m4 bd fc hd sz el s g fm hm so si sh ce ca td wa kp la bf oo bo pw ow tr) (some (.int (-7)), (ww im lf s d k ls rf rz ra rn rq lt m1 m2 m3 m4 bd (fc.set 7 ((fc.getD 7 0) + (nI 1))) hd sz el s g fm hm so si sh ce ca td wa kp la bf oo bo pw ow tr))
                refine Ef.in (md := mX5_row) (L := [some (.ref 0), some (.int (nI a1k)), some (.int (nI a2k)), some (.int (nI a3k))]) rfl (Nat.le_of_ble_eq_true rfl) rfl ?_
                refine E_iload_n at_X5_row_0 rfl ?_
                refine E_callS (v := some (.int (nI 1))) (As := [.int (nI a1k)]) (r0 := []) (cs2 := (ww im lf s d k ls rf rz ra rn rq lt m1 m2 m3 m4 bd fc hd sz el s g fm hm so si sh ce ca td wa kp la bf oo bo pw ow tr)) at_X5_row_1 rfl rfl (Nat.le_of_ble_eq_true rfl) rfl (L39_X5_isShelf (by omega) (by omega) (by omega)) (by decide) rfl ?_
                refine E_if (t := 13) (b := true) at_X5_row_4 rfl (by decide) ?_
                refine E_iload_n at_X5_row_13 rfl ?_
                refine E_if (t := 23) (b := true) at_X5_row_14 rfl ((cn_ge (nI_toInt (by omega)) (by decide : (0 : Int32).toInt = 0)).trans (decide_eq_true (by omega))) ?_
                refine E_iload_n at_X5_row_23 rfl ?_
                refine E_if (t := 32) (b := false) at_X5_row_24 rfl ((cn_lt (nI_toInt (by omega)) (by decide : (0 : Int32).toInt = 0)).trans (decide_eq_false (by omega))) ?_
                refine E_iload_n at_X5_row_27 rfl ?_
                refine E_iconst (x := nI 3) at_X5_row_28 (by decide) ?_
                refine E_ic (t := 39) (b := true) at_X5_row_29 rfl ((cn_le (nI_toInt (by omega)) (nI_toInt (by omega))).trans (decide_eq_true (by omega))) ?_
                refine E_iload_n at_X5_row_39 rfl ?_
                refine E_sipush (x := nI 160) at_X5_row_40 (by decide) ?_
                refine E_ic (t := 53) (b := false) at_X5_row_43 rfl ((cn_le (nI_toInt (by omega)) (nI_toInt (by omega))).trans (decide_eq_false (by omega))) ?_
                refine E_aload_n rfl rfl ?_
                refine E_bipush (x := nI 7) rfl (by decide) ?_
                refine E_callV (v := some (.int (-7))) (As := [.ref 0, .int (nI 7)]) (r0 := []) (cs2 := (ww im lf s d k ls rf rz ra rn rq lt m1 m2 m3 m4 bd (fc.set 7 ((fc.getD 7 0) + (nI 1))) hd sz el s g fm hm so si sh ce ca td wa kp la bf oo bo pw ow tr)) rfl rfl rfl (Nat.le_of_ble_eq_true rfl) rfl (ab_rvOf w0 rfl) (L42_X5_refuse (by omega)) (by decide) w_lens ?_
                exact E_iret rfl rfl
              · show Ev ab_Z0 2 135 [.ref 65, .int (nI a1k), .int (nI a2k), .int (nI a3k)] (ww im lf s d k ls rf rz ra rn rq lt m1 m2 m3 m4 bd (fc.set 7 ((fc.getD 7 0) + (nI 1))) hd sz el s g fm hm so si sh ce ca td wa kp la bf oo bo pw ow tr) (some (.int (-7)), (ww im lf s d k ls rf rz ra rn rq lt m1 m2 m3 m4 bd (fc.set 7 ((fc.getD 7 0) + (nI 1))) hd sz el s g (fm.set 7 ((fm.getD 7 0) + (nI 1))) hm so si sh ce ca td wa kp la bf oo bo pw ow tr))
                refine Ef.in (md := mX6_row) (L := [some (.ref 65), some (.int (nI a1k)), some (.int (nI a2k)), some (.int (nI a3k)), none]) rfl (Nat.le_of_ble_eq_true rfl) rfl ?_
                refine E_aload_n at_X6_row_0 rfl ?_
                refine E_iload_n at_X6_row_1 rfl ?_
                refine E_callV (v := some (.int (nI 1))) (As := [.ref 65, .int (nI a1k)]) (r0 := []) (cs2 := (ww im lf s d k ls rf rz ra rn rq lt m1 m2 m3 m4 bd (fc.set 7 ((fc.getD 7 0) + (nI 1))) hd sz el s g fm hm so si sh ce ca td wa kp la bf oo bo pw ow tr)) at_X6_row_2 rfl rfl (Nat.le_of_ble_eq_true rfl) rfl (ab_rvOf w65 rfl) (L40_X6_isShelf (by omega) (by omega) (by omega)) (by decide) rfl ?_
                refine E_if (t := 14) (b := true) at_X6_row_5 rfl (by decide) ?_
                refine E_iload_n at_X6_row_14 rfl ?_
                refine E_if (t := 25) (b := true) at_X6_row_15 rfl ((cn_ge (nI_toInt (by omega)) (by decide : (0 : Int32).toInt = 0)).trans (decide_eq_true (by omega))) ?_
                refine E_iload_n at_X6_row_25 rfl ?_
                refine E_if (t := 34) (b := false) at_X6_row_26 rfl ((cn_lt (nI_toInt (by omega)) (by decide : (0 : Int32).toInt = 0)).trans (decide_eq_false (by omega))) ?_
                refine E_iload_n at_X6_row_29 rfl ?_
                refine E_iconst (x := nI 3) at_X6_row_30 (by decide) ?_
                refine E_ic (t := 41) (b := true) at_X6_row_31 rfl ((cn_le (nI_toInt (by omega)) (nI_toInt (by omega))).trans (decide_eq_true (by omega))) ?_
                refine E_iload_n at_X6_row_41 rfl ?_
                refine E_sipush (x := nI 160) at_X6_row_42 (by decide) ?_
                refine E_ic (t := 55) (b := false) at_X6_row_45 rfl ((cn_le (nI_toInt (by omega)) (nI_toInt (by omega))).trans (decide_eq_false (by omega))) ?_
                refine E_aload_n rfl rfl ?_
                refine E_bipush (x := (-7)) rfl (by decide) ?_
                refine E_callV (v := some (.int (-7))) (As := [.ref 65, .int (-7)]) (r0 := []) (cs2 := (ww im lf s d k ls rf rz ra rn rq lt m1 m2 m3 m4 bd (fc.set 7 ((fc.getD 7 0) + (nI 1))) hd sz el s g (fm.set 7 ((fm.getD 7 0) + (nI 1))) hm so si sh ce ca td wa kp la bf oo bo pw ow tr)) rfl rfl rfl (Nat.le_of_ble_eq_true rfl) rfl (ab_rvOf w65 rfl) (L43_X6_no (by omega)) (by decide) w_lens ?_
                exact E_iret rfl rfl
              · exact ⟨I, rfl, hf, iQ, iM, iT, iS, l_el, (lr.1), (lr.2.1), (lr.2.2.1), (by simp only [List.length_set]; exact (lr.2.2.2.1)), (by simp only [List.length_set]; exact (lr.2.2.2.2.1)), (lr.2.2.2.2.2.1), (lr.2.2.2.2.2.2.1), (lr.2.2.2.2.2.2.2.1), (lr.2.2.2.2.2.2.2.2.1), (lr.2.2.2.2.2.2.2.2.2.1), (lr.2.2.2.2.2.2.2.2.2.2.1), (lr.2.2.2.2.2.2.2.2.2.2.2.1), (lr.2.2.2.2.2.2.2.2.2.2.2.2.1), (lr.2.2.2.2.2.2.2.2.2.2.2.2.2.1), (lr.2.2.2.2.2.2.2.2.2.2.2.2.2.2.1), (lr.2.2.2.2.2.2.2.2.2.2.2.2.2.2.2.1), (lr.2.2.2.2.2.2.2.2.2.2.2.2.2.2.2.2.1), (lr.2.2.2.2.2.2.2.2.2.2.2.2.2.2.2.2.2.1), (lr.2.2.2.2.2.2.2.2.2.2.2.2.2.2.2.2.2.2.1), (lr.2.2.2.2.2.2.2.2.2.2.2.2.2.2.2.2.2.2.2.1), (lr.2.2.2.2.2.2.2.2.2.2.2.2.2.2.2.2.2.2.2.2)⟩
            · rcases iS a1k (by omega) with ⟨u1, u2, u3⟩ | ⟨xq, u1, u2, u3, u4, u5⟩ | ⟨u1, u2, u3, u4, u5, u6⟩
              · have := l_el a1k (by omega)
                refine ⟨(nI 1), (im, lf, s, d, k, ls, rf, rz, ra, rn, rq, lt, m1, m2, m3, m4, bd, fc, (fUp hd a1k (nI (100 + a2k))), (fUp sz a1k (nI a3k)), (fUp el a1k (List.replicate 160 0)), s, g, fm, hm, so, si, sh, ce, ca, td, wa, kp, la, bf, oo, bo, pw, ow, tr), (im, lf, s, d, k, ls, rf, rz, ra, rn, rq, lt, m1, m2, m3, m4, bd, fc, (fUp hd a1k (nI (100 + a2k))), (fUp sz a1k (nI a3k)), (fUp el a1k (List.replicate 160 0)), s, g, fm, (hm.set a1k 1), (so.set a1k a2k), (si.set a1k a3k), sh, (zf ce (160 * a1k) 160), ca, td, wa, kp, la, bf, oo, bo, pw, ow, tr), ?_, ?_, ?_⟩
                · show Ev ab_Z0 3 76 [.ref 0, .int (nI a1k), .int (nI a2k), .int (nI a3k)] (ww im lf s d k ls rf rz ra rn rq lt m1 m2 m3 m4 bd fc hd sz el s g fm hm so si sh ce ca td wa kp la bf oo bo pw ow tr) (some (.int (nI 1)), (ww im lf s d k ls rf rz ra rn rq lt m1 m2 m3 m4 bd fc (fUp hd a1k (nI (100 + a2k))) (fUp sz a1k (nI a3k)) (fUp el a1k (List.replicate 160 0)) s g fm hm so si sh ce ca td wa kp la bf oo bo pw ow tr))
                  refine Ef.in (md := mX5_row) (L := [some (.ref 0), some (.int (nI a1k)), some (.int (nI a2k)), some (.int (nI a3k))]) rfl (Nat.le_of_ble_eq_true rfl) rfl ?_
                  refine E_iload_n at_X5_row_0 rfl ?_
                  refine E_callS (v := some (.int (nI 1))) (As := [.int (nI a1k)]) (r0 := []) (cs2 := (ww im lf s d k ls rf rz ra rn rq lt m1 m2 m3 m4 bd fc hd sz el s g fm hm so si sh ce ca td wa kp la bf oo bo pw ow tr)) at_X5_row_1 rfl rfl (Nat.le_of_ble_eq_true rfl) rfl (L39_X5_isShelf (by omega) (by omega) (by omega)) (by decide) rfl ?_
                  refine E_if (t := 13) (b := true) at_X5_row_4 rfl (by decide) ?_
                  refine E_iload_n at_X5_row_13 rfl ?_
                  refine E_if (t := 23) (b := true) at_X5_row_14 rfl ((cn_ge (nI_toInt (by omega)) (by decide : (0 : Int32).toInt = 0)).trans (decide_eq_true (by omega))) ?_
                  refine E_iload_n at_X5_row_23 rfl ?_
                  refine E_if (t := 32) (b := false) at_X5_row_24 rfl ((cn_lt (nI_toInt (by omega)) (by decide : (0 : Int32).toInt = 0)).trans (decide_eq_false (by omega))) ?_
                  refine E_iload_n at_X5_row_27 rfl ?_
                  refine E_iconst (x := nI 3) at_X5_row_28 (by decide) ?_
                  refine E_ic (t := 39) (b := true) at_X5_row_29 rfl ((cn_le (nI_toInt (by omega)) (nI_toInt (by omega))).trans (decide_eq_true (by omega))) ?_
                  refine E_iload_n at_X5_row_39 rfl ?_
                  refine E_sipush (x := nI 160) at_X5_row_40 (by decide) ?_
                  refine E_ic (t := 53) (b := true) at_X5_row_43 rfl ((cn_le (nI_toInt (by omega)) (nI_toInt (by omega))).trans (decide_eq_true (by omega))) ?_
                  refine E_aload_n rfl rfl ?_
                  refine E_getfield (v := .ref 31) rfl w0 rfl (by decide) rfl ?_
                  refine E_iload_n rfl rfl ?_
                  refine E_aalN (b := 49 + 2 * a1k) rfl w31 (by omega) (w_shs (by omega)) ?_
                  refine E_iload_n rfl rfl ?_
                  refine E_iload_n rfl rfl ?_
                  have e1 : Ev ab_Z0 2 30 [.ref (49 + 2 * a1k), .int (nI a2k), .int (nI a3k)] (ww im lf s d k ls rf rz ra rn rq lt m1 m2 m3 m4 bd fc hd sz el s g fm hm so si sh ce ca td wa kp la bf oo bo pw ow tr) (none, (ww im lf s d k ls rf rz ra rn rq lt m1 m2 m3 m4 bd fc (fUp hd a1k (nI (100 + a2k))) (fUp sz a1k (nI a3k)) (fUp el a1k (List.replicate 160 0)) s g fm hm so si sh ce ca td wa kp la bf oo bo pw ow tr)) := by
                    refine Ef.in (md := mX3_holdRow) (L := [some (.ref (49 + 2 * a1k)), some (.int (nI a2k)), some (.int (nI a3k))]) rfl (Nat.le_of_ble_eq_true rfl) rfl ?_
                    refine E_aload_n rfl rfl ?_
                    refine E_getfield (v := .ref (50 + 2 * a1k)) rfl (w_shv (j := a1k) (by omega) u1 u2) rfl (by decide) rfl ?_
                    refine E_lconst (x := 0) rfl (by decide) ?_
                    refine E_callS (v := none) (As := [.ref (50 + 2 * a1k), .long 0]) (r0 := []) (cs2 := (ww im lf s d k ls rf rz ra rn rq lt m1 m2 m3 m4 bd fc hd sz (fUp el a1k (List.replicate 160 0)) s g fm hm so si sh ce ca td wa kp la bf oo bo pw ow tr)) rfl rfl rfl (Nat.le_of_ble_eq_true rfl) rfl ((w_elput (by omega)) ▸ (fillL (w_el (j := a1k) (by omega)) (by omega) (by omega))) (by decide) w_lens ?_
                    refine E_aload_n rfl rfl ?_
                    refine E_bipush (x := nI 100) rfl (by decide) ?_
                    refine E_iload_n rfl rfl ?_
                    refine E_iadd (z := nI (100 + a2k)) rfl (nI_add _ _) ?_
                    refine E_putfield (cs2 := (ww im lf s d k ls rf rz ra rn rq lt m1 m2 m3 m4 bd fc (fUp hd a1k (nI (100 + a2k))) (fUp sz a1k (nI 0)) (fUp el a1k (List.replicate 160 0)) s g fm hm so si sh ce ca td wa kp la bf oo bo pw ow tr)) rfl (w_shv (j := a1k) (by omega) u1 u2) rfl (by decide) (Nat.le_of_ble_eq_true rfl) rfl rfl rfl (w_shput (by omega)) ?_
                    refine E_aload_n rfl rfl ?_
                    refine E_iload_n rfl rfl ?_
                    refine E_putfield (cs2 := (ww im lf s d k ls rf rz ra rn rq lt m1 m2 m3 m4 bd fc (fUp hd a1k (nI (100 + a2k))) (fUp sz a1k (nI a3k)) (fUp el a1k (List.replicate 160 0)) s g fm hm so si sh ce ca td wa kp la bf oo bo pw ow tr)) rfl (w_shv (j := a1k) (by omega) fUp_eq fUp_eq) rfl (by decide) (Nat.le_of_ble_eq_true rfl) rfl rfl rfl (w_shput2 (by omega)) ?_
                    exact E_vret rfl rfl
                  refine E_callV (v := none) (As := [.ref (49 + 2 * a1k), .int (nI a2k), .int (nI a3k)]) (r0 := []) (cs2 := (ww im lf s d k ls rf rz ra rn rq lt m1 m2 m3 m4 bd fc (fUp hd a1k (nI (100 + a2k))) (fUp sz a1k (nI a3k)) (fUp el a1k (List.replicate 160 0)) s g fm hm so si sh ce ca td wa kp la bf oo bo pw ow tr)) rfl rfl rfl (Nat.le_of_ble_eq_true rfl) rfl (ab_rvOf (w_shv (j := a1k) (by omega) u1 u2) rfl) e1 (by decide) w_lens ?_
                  refine E_iconst (x := nI 1) rfl (by decide) ?_
                  exact E_iret rfl rfl
                · show Ev ab_Z0 2 135 [.ref 65, .int (nI a1k), .int (nI a2k), .int (nI a3k)] (ww im lf s d k ls rf rz ra rn rq lt m1 m2 m3 m4 bd fc (fUp hd a1k (nI (100 + a2k))) (fUp sz a1k (nI a3k)) (fUp el a1k (List.replicate 160 0)) s g fm hm so si sh ce ca td wa kp la bf oo bo pw ow tr) (some (.int (nI 1)), (ww im lf s d k ls rf rz ra rn rq lt m1 m2 m3 m4 bd fc (fUp hd a1k (nI (100 + a2k))) (fUp sz a1k (nI a3k)) (fUp el a1k (List.replicate 160 0)) s g fm (hm.set a1k 1) (so.set a1k a2k) (si.set a1k a3k) sh (zf ce (160 * a1k) 160) ca td wa kp la bf oo bo pw ow tr))
                  refine Ef.in (md := mX6_row) (L := [some (.ref 65), some (.int (nI a1k)), some (.int (nI a2k)), some (.int (nI a3k)), none]) rfl (Nat.le_of_ble_eq_true rfl) rfl ?_
                  refine E_aload_n rfl rfl ?_
                  refine E_iload_n rfl rfl ?_
                  refine E_callV (v := some (.int (nI 1))) (As := [.ref 65, .int (nI a1k)]) (r0 := []) (cs2 := (ww im lf s d k ls rf rz ra rn rq lt m1 m2 m3 m4 bd fc (fUp hd a1k (nI (100 + a2k))) (fUp sz a1k (nI a3k)) (fUp el a1k (List.replicate 160 0)) s g fm hm so si sh ce ca td wa kp la bf oo bo pw ow tr)) rfl rfl rfl (Nat.le_of_ble_eq_true rfl) rfl (ab_rvOf w65 rfl) (L40_X6_isShelf (by omega) (by omega) (by omega)) (by decide) rfl ?_
                  refine E_if (t := 14) (b := true) rfl rfl (by decide) ?_
                  refine E_iload_n rfl rfl ?_
                  refine E_if (t := 25) (b := true) rfl rfl ((cn_ge (nI_toInt (by omega)) (by decide : (0 : Int32).toInt = 0)).trans (decide_eq_true (by omega))) ?_
                  refine E_iload_n rfl rfl ?_
                  refine E_if (t := 34) (b := false) rfl rfl ((cn_lt (nI_toInt (by omega)) (by decide : (0 : Int32).toInt = 0)).trans (decide_eq_false (by omega))) ?_
                  refine E_iload_n rfl rfl ?_
                  refine E_iconst (x := nI 3) rfl (by decide) ?_
                  refine E_ic (t := 41) (b := true) rfl rfl ((cn_le (nI_toInt (by omega)) (nI_toInt (by omega))).trans (decide_eq_true (by omega))) ?_
                  refine E_iload_n rfl rfl ?_
                  refine E_sipush (x := nI 160) rfl (by decide) ?_
                  refine E_ic (t := 55) (b := true) rfl rfl ((cn_le (nI_toInt (by omega)) (nI_toInt (by omega))).trans (decide_eq_true (by omega))) ?_
                  refine E_aload_n rfl rfl ?_
                  refine E_getfield (v := .ref 76) rfl w65 rfl (by decide) rfl ?_
                  refine E_iload_n rfl rfl ?_
                  refine E_iconst (x := nI 1) rfl (by decide) ?_
                  refine E_iasN (l := hm) (cs2 := (ww im lf s d k ls rf rz ra rn rq lt m1 m2 m3 m4 bd fc (fUp hd a1k (nI (100 + a2k))) (fUp sz a1k (nI a3k)) (fUp el a1k (List.replicate 160 0)) s g fm (hm.set a1k 1) so si sh ce ca td wa kp la bf oo bo pw ow tr)) rfl w76 (by omega) (by omega) rfl ?_
                  refine E_aload_n rfl rfl ?_
                  refine E_getfield (v := .ref 77) rfl w65 rfl (by decide) rfl ?_
                  refine E_iload_n rfl rfl ?_
                  refine E_iload_n rfl rfl ?_
                  refine E_iasN (l := so) (cs2 := (ww im lf s d k ls rf rz ra rn rq lt m1 m2 m3 m4 bd fc (fUp hd a1k (nI (100 + a2k))) (fUp sz a1k (nI a3k)) (fUp el a1k (List.replicate 160 0)) s g fm (hm.set a1k 1) (so.set a1k a2k) si sh ce ca td wa kp la bf oo bo pw ow tr)) rfl w77 (by omega) (by omega) rfl ?_
                  refine E_aload_n rfl rfl ?_
                  refine E_getfield (v := .ref 78) rfl w65 rfl (by decide) rfl ?_
                  refine E_iload_n rfl rfl ?_
                  refine E_iload_n rfl rfl ?_
                  refine E_iasN (l := si) (cs2 := (ww im lf s d k ls rf rz ra rn rq lt m1 m2 m3 m4 bd fc (fUp hd a1k (nI (100 + a2k))) (fUp sz a1k (nI a3k)) (fUp el a1k (List.replicate 160 0)) s g fm (hm.set a1k 1) (so.set a1k a2k) (si.set a1k a3k) sh ce ca td wa kp la bf oo bo pw ow tr)) rfl w78 (by omega) (by omega) rfl ?_
                  refine E_iconst (x := nI 0) rfl (by decide) ?_
                  refine E_istore (L2 := [some (.ref 65), some (.int (nI a1k)), some (.int (nI a2k)), some (.int (nI a3k)), some (.int (nI 0))]) rfl rfl ?_
                  refine mrow_l (by omega) (lr.2.2.2.2.2.2.2.2.2.1) ?_ 160 0 rfl
                  refine E_iconst (x := nI 1) rfl (by decide) ?_
                  exact E_iret rfl rfl
                · exact ⟨I, rfl, hf, iQ, iM, iT, (iS_row iS (by omega) (by omega) (by omega) (lr.2.2.2.2.2.1) (lr.2.2.2.2.2.2.1) (lr.2.2.2.2.2.2.2.1)), (l_elU l_el (by first | exact List.length_replicate | (simp only [List.length_set]; exact l_el _ (by omega)) | (rw [ab_cpl (by omega) (by omega)]; exact l_el _ (by omega)))), (lr.1), (lr.2.1), (lr.2.2.1), (lr.2.2.2.1), (lr.2.2.2.2.1), (by simp only [List.length_set]; exact (lr.2.2.2.2.2.1)), (by simp only [List.length_set]; exact (lr.2.2.2.2.2.2.1)), (by simp only [List.length_set]; exact (lr.2.2.2.2.2.2.2.1)), (lr.2.2.2.2.2.2.2.2.1), ((zf_len _ _ _).trans (lr.2.2.2.2.2.2.2.2.2.1)), (lr.2.2.2.2.2.2.2.2.2.2.1), (lr.2.2.2.2.2.2.2.2.2.2.2.1), (lr.2.2.2.2.2.2.2.2.2.2.2.2.1), (lr.2.2.2.2.2.2.2.2.2.2.2.2.2.1), (lr.2.2.2.2.2.2.2.2.2.2.2.2.2.2.1), (lr.2.2.2.2.2.2.2.2.2.2.2.2.2.2.2.1), (lr.2.2.2.2.2.2.2.2.2.2.2.2.2.2.2.2.1), (lr.2.2.2.2.2.2.2.2.2.2.2.2.2.2.2.2.2.1), (lr.2.2.2.2.2.2.2.2.2.2.2.2.2.2.2.2.2.2.1), (lr.2.2.2.2.2.2.2.2.2.2.2.2.2.2.2.2.2.2.2.1), (lr.2.2.2.2.2.2.2.2.2.2.2.2.2.2.2.2.2.2.2.2)⟩
              · have := l_el a1k (by omega)
                refine ⟨(nI 1), (im, lf, s, d, k, ls, rf, rz, ra, rn, rq, lt, m1, m2, m3, m4, bd, fc, (fUp hd a1k (nI (100 + a2k))), (fUp sz a1k (nI a3k)), (fUp el a1k (List.replicate 160 0)), s, g, fm, hm, so, si, sh, ce, ca, td, wa, kp, la, bf, oo, bo, pw, ow, tr), (im, lf, s, d, k, ls, rf, rz, ra, rn, rq, lt, m1, m2, m3, m4, bd, fc, (fUp hd a1k (nI (100 + a2k))), (fUp sz a1k (nI a3k)), (fUp el a1k (List.replicate 160 0)), s, g, fm, (hm.set a1k 1), (so.set a1k a2k), (si.set a1k a3k), sh, (zf ce (160 * a1k) 160), ca, td, wa, kp, la, bf, oo, bo, pw, ow, tr), ?_, ?_, ?_⟩
                · show Ev ab_Z0 3 76 [.ref 0, .int (nI a1k), .int (nI a2k), .int (nI a3k)] (ww im lf s d k ls rf rz ra rn rq lt m1 m2 m3 m4 bd fc hd sz el s g fm hm so si sh ce ca td wa kp la bf oo bo pw ow tr) (some (.int (nI 1)), (ww im lf s d k ls rf rz ra rn rq lt m1 m2 m3 m4 bd fc (fUp hd a1k (nI (100 + a2k))) (fUp sz a1k (nI a3k)) (fUp el a1k (List.replicate 160 0)) s g fm hm so si sh ce ca td wa kp la bf oo bo pw ow tr))
                  refine Ef.in (md := mX5_row) (L := [some (.ref 0), some (.int (nI a1k)), some (.int (nI a2k)), some (.int (nI a3k))]) rfl (Nat.le_of_ble_eq_true rfl) rfl ?_
                  refine E_iload_n at_X5_row_0 rfl ?_
                  refine E_callS (v := some (.int (nI 1))) (As := [.int (nI a1k)]) (r0 := []) (cs2 := (ww im lf s d k ls rf rz ra rn rq lt m1 m2 m3 m4 bd fc hd sz el s g fm hm so si sh ce ca td wa kp la bf oo bo pw ow tr)) at_X5_row_1 rfl rfl (Nat.le_of_ble_eq_true rfl) rfl (L39_X5_isShelf (by omega) (by omega) (by omega)) (by decide) rfl ?_
                  refine E_if (t := 13) (b := true) at_X5_row_4 rfl (by decide) ?_
                  refine E_iload_n at_X5_row_13 rfl ?_
                  refine E_if (t := 23) (b := true) at_X5_row_14 rfl ((cn_ge (nI_toInt (by omega)) (by decide : (0 : Int32).toInt = 0)).trans (decide_eq_true (by omega))) ?_
                  refine E_iload_n at_X5_row_23 rfl ?_
                  refine E_if (t := 32) (b := false) at_X5_row_24 rfl ((cn_lt (nI_toInt (by omega)) (by decide : (0 : Int32).toInt = 0)).trans (decide_eq_false (by omega))) ?_
                  refine E_iload_n at_X5_row_27 rfl ?_
                  refine E_iconst (x := nI 3) at_X5_row_28 (by decide) ?_
                  refine E_ic (t := 39) (b := true) at_X5_row_29 rfl ((cn_le (nI_toInt (by omega)) (nI_toInt (by omega))).trans (decide_eq_true (by omega))) ?_
                  refine E_iload_n at_X5_row_39 rfl ?_
                  refine E_sipush (x := nI 160) at_X5_row_40 (by decide) ?_
                  refine E_ic (t := 53) (b := true) at_X5_row_43 rfl ((cn_le (nI_toInt (by omega)) (nI_toInt (by omega))).trans (decide_eq_true (by omega))) ?_
                  refine E_aload_n rfl rfl ?_
                  refine E_getfield (v := .ref 31) rfl w0 rfl (by decide) rfl ?_
                  refine E_iload_n rfl rfl ?_
                  refine E_aalN (b := 49 + 2 * a1k) rfl w31 (by omega) (w_shs (by omega)) ?_
                  refine E_iload_n rfl rfl ?_
                  refine E_iload_n rfl rfl ?_
                  have e1 : Ev ab_Z0 2 30 [.ref (49 + 2 * a1k), .int (nI a2k), .int (nI a3k)] (ww im lf s d k ls rf rz ra rn rq lt m1 m2 m3 m4 bd fc hd sz el s g fm hm so si sh ce ca td wa kp la bf oo bo pw ow tr) (none, (ww im lf s d k ls rf rz ra rn rq lt m1 m2 m3 m4 bd fc (fUp hd a1k (nI (100 + a2k))) (fUp sz a1k (nI a3k)) (fUp el a1k (List.replicate 160 0)) s g fm hm so si sh ce ca td wa kp la bf oo bo pw ow tr)) := by
                    refine Ef.in (md := mX3_holdRow) (L := [some (.ref (49 + 2 * a1k)), some (.int (nI a2k)), some (.int (nI a3k))]) rfl (Nat.le_of_ble_eq_true rfl) rfl ?_
                    refine E_aload_n rfl rfl ?_
                    refine E_getfield (v := .ref (50 + 2 * a1k)) rfl (w_shv (j := a1k) (by omega) u2 u3) rfl (by decide) rfl ?_
                    refine E_lconst (x := 0) rfl (by decide) ?_
                    refine E_callS (v := none) (As := [.ref (50 + 2 * a1k), .long 0]) (r0 := []) (cs2 := (ww im lf s d k ls rf rz ra rn rq lt m1 m2 m3 m4 bd fc hd sz (fUp el a1k (List.replicate 160 0)) s g fm hm so si sh ce ca td wa kp la bf oo bo pw ow tr)) rfl rfl rfl (Nat.le_of_ble_eq_true rfl) rfl ((w_elput (by omega)) ▸ (fillL (w_el (j := a1k) (by omega)) (by omega) (by omega))) (by decide) w_lens ?_
                    refine E_aload_n rfl rfl ?_
                    refine E_bipush (x := nI 100) rfl (by decide) ?_
                    refine E_iload_n rfl rfl ?_
                    refine E_iadd (z := nI (100 + a2k)) rfl (nI_add _ _) ?_
                    refine E_putfield (cs2 := (ww im lf s d k ls rf rz ra rn rq lt m1 m2 m3 m4 bd fc (fUp hd a1k (nI (100 + a2k))) (fUp sz a1k (nI 0)) (fUp el a1k (List.replicate 160 0)) s g fm hm so si sh ce ca td wa kp la bf oo bo pw ow tr)) rfl (w_shv (j := a1k) (by omega) u2 u3) rfl (by decide) (Nat.le_of_ble_eq_true rfl) rfl rfl rfl (w_shput (by omega)) ?_
                    refine E_aload_n rfl rfl ?_
                    refine E_iload_n rfl rfl ?_
                    refine E_putfield (cs2 := (ww im lf s d k ls rf rz ra rn rq lt m1 m2 m3 m4 bd fc (fUp hd a1k (nI (100 + a2k))) (fUp sz a1k (nI a3k)) (fUp el a1k (List.replicate 160 0)) s g fm hm so si sh ce ca td wa kp la bf oo bo pw ow tr)) rfl (w_shv (j := a1k) (by omega) fUp_eq fUp_eq) rfl (by decide) (Nat.le_of_ble_eq_true rfl) rfl rfl rfl (w_shput2 (by omega)) ?_
                    exact E_vret rfl rfl
                  refine E_callV (v := none) (As := [.ref (49 + 2 * a1k), .int (nI a2k), .int (nI a3k)]) (r0 := []) (cs2 := (ww im lf s d k ls rf rz ra rn rq lt m1 m2 m3 m4 bd fc (fUp hd a1k (nI (100 + a2k))) (fUp sz a1k (nI a3k)) (fUp el a1k (List.replicate 160 0)) s g fm hm so si sh ce ca td wa kp la bf oo bo pw ow tr)) rfl rfl rfl (Nat.le_of_ble_eq_true rfl) rfl (ab_rvOf (w_shv (j := a1k) (by omega) u2 u3) rfl) e1 (by decide) w_lens ?_
                  refine E_iconst (x := nI 1) rfl (by decide) ?_
                  exact E_iret rfl rfl
                · show Ev ab_Z0 2 135 [.ref 65, .int (nI a1k), .int (nI a2k), .int (nI a3k)] (ww im lf s d k ls rf rz ra rn rq lt m1 m2 m3 m4 bd fc (fUp hd a1k (nI (100 + a2k))) (fUp sz a1k (nI a3k)) (fUp el a1k (List.replicate 160 0)) s g fm hm so si sh ce ca td wa kp la bf oo bo pw ow tr) (some (.int (nI 1)), (ww im lf s d k ls rf rz ra rn rq lt m1 m2 m3 m4 bd fc (fUp hd a1k (nI (100 + a2k))) (fUp sz a1k (nI a3k)) (fUp el a1k (List.replicate 160 0)) s g fm (hm.set a1k 1) (so.set a1k a2k) (si.set a1k a3k) sh (zf ce (160 * a1k) 160) ca td wa kp la bf oo bo pw ow tr))
                  refine Ef.in (md := mX6_row) (L := [some (.ref 65), some (.int (nI a1k)), some (.int (nI a2k)), some (.int (nI a3k)), none]) rfl (Nat.le_of_ble_eq_true rfl) rfl ?_
                  refine E_aload_n rfl rfl ?_
                  refine E_iload_n rfl rfl ?_
                  refine E_callV (v := some (.int (nI 1))) (As := [.ref 65, .int (nI a1k)]) (r0 := []) (cs2 := (ww im lf s d k ls rf rz ra rn rq lt m1 m2 m3 m4 bd fc (fUp hd a1k (nI (100 + a2k))) (fUp sz a1k (nI a3k)) (fUp el a1k (List.replicate 160 0)) s g fm hm so si sh ce ca td wa kp la bf oo bo pw ow tr)) rfl rfl rfl (Nat.le_of_ble_eq_true rfl) rfl (ab_rvOf w65 rfl) (L40_X6_isShelf (by omega) (by omega) (by omega)) (by decide) rfl ?_
                  refine E_if (t := 14) (b := true) rfl rfl (by decide) ?_
                  refine E_iload_n rfl rfl ?_
                  refine E_if (t := 25) (b := true) rfl rfl ((cn_ge (nI_toInt (by omega)) (by decide : (0 : Int32).toInt = 0)).trans (decide_eq_true (by omega))) ?_
                  refine E_iload_n rfl rfl ?_
                  refine E_if (t := 34) (b := false) rfl rfl ((cn_lt (nI_toInt (by omega)) (by decide : (0 : Int32).toInt = 0)).trans (decide_eq_false (by omega))) ?_
                  refine E_iload_n rfl rfl ?_
                  refine E_iconst (x := nI 3) rfl (by decide) ?_
                  refine E_ic (t := 41) (b := true) rfl rfl ((cn_le (nI_toInt (by omega)) (nI_toInt (by omega))).trans (decide_eq_true (by omega))) ?_
                  refine E_iload_n rfl rfl ?_
                  refine E_sipush (x := nI 160) rfl (by decide) ?_
                  refine E_ic (t := 55) (b := true) rfl rfl ((cn_le (nI_toInt (by omega)) (nI_toInt (by omega))).trans (decide_eq_true (by omega))) ?_
                  refine E_aload_n rfl rfl ?_
                  refine E_getfield (v := .ref 76) rfl w65 rfl (by decide) rfl ?_
                  refine E_iload_n rfl rfl ?_
                  refine E_iconst (x := nI 1) rfl (by decide) ?_
                  refine E_iasN (l := hm) (cs2 := (ww im lf s d k ls rf rz ra rn rq lt m1 m2 m3 m4 bd fc (fUp hd a1k (nI (100 + a2k))) (fUp sz a1k (nI a3k)) (fUp el a1k (List.replicate 160 0)) s g fm (hm.set a1k 1) so si sh ce ca td wa kp la bf oo bo pw ow tr)) rfl w76 (by omega) (by omega) rfl ?_
                  refine E_aload_n rfl rfl ?_
                  refine E_getfield (v := .ref 77) rfl w65 rfl (by decide) rfl ?_
                  refine E_iload_n rfl rfl ?_
                  refine E_iload_n rfl rfl ?_
                  refine E_iasN (l := so) (cs2 := (ww im lf s d k ls rf rz ra rn rq lt m1 m2 m3 m4 bd fc (fUp hd a1k (nI (100 + a2k))) (fUp sz a1k (nI a3k)) (fUp el a1k (List.replicate 160 0)) s g fm (hm.set a1k 1) (so.set a1k a2k) si sh ce ca td wa kp la bf oo bo pw ow tr)) rfl w77 (by omega) (by omega) rfl ?_
                  refine E_aload_n rfl rfl ?_
                  refine E_getfield (v := .ref 78) rfl w65 rfl (by decide) rfl ?_
                  refine E_iload_n rfl rfl ?_
                  refine E_iload_n rfl rfl ?_
                  refine E_iasN (l := si) (cs2 := (ww im lf s d k ls rf rz ra rn rq lt m1 m2 m3 m4 bd fc (fUp hd a1k (nI (100 + a2k))) (fUp sz a1k (nI a3k)) (fUp el a1k (List.replicate 160 0)) s g fm (hm.set a1k 1) (so.set a1k a2k) (si.set a1k a3k) sh ce ca td wa kp la bf oo bo pw ow tr)) rfl w78 (by omega) (by omega) rfl ?_
                  refine E_iconst (x := nI 0) rfl (by decide) ?_
                  refine E_istore (L2 := [some (.ref 65), some (.int (nI a1k)), some (.int (nI a2k)), some (.int (nI a3k)), some (.int (nI 0))]) rfl rfl ?_
                  refine mrow_l (by omega) (lr.2.2.2.2.2.2.2.2.2.1) ?_ 160 0 rfl
                  refine E_iconst (x := nI 1) rfl (by decide) ?_
                  exact E_iret rfl rfl
                · exact ⟨I, rfl, hf, iQ, iM, iT, (iS_row iS (by omega) (by omega) (by omega) (lr.2.2.2.2.2.1) (lr.2.2.2.2.2.2.1) (lr.2.2.2.2.2.2.2.1)), (l_elU l_el (by first | exact List.length_replicate | (simp only [List.length_set]; exact l_el _ (by omega)) | (rw [ab_cpl (by omega) (by omega)]; exact l_el _ (by omega)))), (lr.1), (lr.2.1), (lr.2.2.1), (lr.2.2.2.1), (lr.2.2.2.2.1), (by simp only [List.length_set]; exact (lr.2.2.2.2.2.1)), (by simp only [List.length_set]; exact (lr.2.2.2.2.2.2.1)), (by simp only [List.length_set]; exact (lr.2.2.2.2.2.2.2.1)), (lr.2.2.2.2.2.2.2.2.1), ((zf_len _ _ _).trans (lr.2.2.2.2.2.2.2.2.2.1)), (lr.2.2.2.2.2.2.2.2.2.2.1), (lr.2.2.2.2.2.2.2.2.2.2.2.1), (lr.2.2.2.2.2.2.2.2.2.2.2.2.1), (lr.2.2.2.2.2.2.2.2.2.2.2.2.2.1), (lr.2.2.2.2.2.2.2.2.2.2.2.2.2.2.1), (lr.2.2.2.2.2.2.2.2.2.2.2.2.2.2.2.1), (lr.2.2.2.2.2.2.2.2.2.2.2.2.2.2.2.2.1), (lr.2.2.2.2.2.2.2.2.2.2.2.2.2.2.2.2.2.1), (lr.2.2.2.2.2.2.2.2.2.2.2.2.2.2.2.2.2.2.1), (lr.2.2.2.2.2.2.2.2.2.2.2.2.2.2.2.2.2.2.2.1), (lr.2.2.2.2.2.2.2.2.2.2.2.2.2.2.2.2.2.2.2.2)⟩
              · have := l_el a1k (by omega)
                refine ⟨(nI 1), (im, lf, s, d, k, ls, rf, rz, ra, rn, rq, lt, m1, m2, m3, m4, bd, fc, (fUp hd a1k (nI (100 + a2k))), (fUp sz a1k (nI a3k)), (fUp el a1k (List.replicate 160 0)), s, g, fm, hm, so, si, sh, ce, ca, td, wa, kp, la, bf, oo, bo, pw, ow, tr), (im, lf, s, d, k, ls, rf, rz, ra, rn, rq, lt, m1, m2, m3, m4, bd, fc, (fUp hd a1k (nI (100 + a2k))), (fUp sz a1k (nI a3k)), (fUp el a1k (List.replicate 160 0)), s, g, fm, (hm.set a1k 1), (so.set a1k a2k), (si.set a1k a3k), sh, (zf ce (160 * a1k) 160), ca, td, wa, kp, la, bf, oo, bo, pw, ow, tr), ?_, ?_, ?_⟩
                · show Ev ab_Z0 3 76 [.ref 0, .int (nI a1k), .int (nI a2k), .int (nI a3k)] (ww im lf s d k ls rf rz ra rn rq lt m1 m2 m3 m4 bd fc hd sz el s g fm hm so si sh ce ca td wa kp la bf oo bo pw ow tr) (some (.int (nI 1)), (ww im lf s d k ls rf rz ra rn rq lt m1 m2 m3 m4 bd fc (fUp hd a1k (nI (100 + a2k))) (fUp sz a1k (nI a3k)) (fUp el a1k (List.replicate 160 0)) s g fm hm so si sh ce ca td wa kp la bf oo bo pw ow tr))
                  refine Ef.in (md := mX5_row) (L := [some (.ref 0), some (.int (nI a1k)), some (.int (nI a2k)), some (.int (nI a3k))]) rfl (Nat.le_of_ble_eq_true rfl) rfl ?_
                  refine E_iload_n at_X5_row_0 rfl ?_
                  refine E_callS (v := some (.int (nI 1))) (As := [.int (nI a1k)]) (r0 := []) (cs2 := (ww im lf s d k ls rf rz ra rn rq lt m1 m2 m3 m4 bd fc hd sz el s g fm hm so si sh ce ca td wa kp la bf oo bo pw ow tr)) at_X5_row_1 rfl rfl (Nat.le_of_ble_eq_true rfl) rfl (L39_X5_isShelf (by omega) (by omega) (by omega)) (by decide) rfl ?_
                  refine E_if (t := 13) (b := true) at_X5_row_4 rfl (by decide) ?_
                  refine E_iload_n at_X5_row_13 rfl ?_
                  refine E_if (t := 23) (b := true) at_X5_row_14 rfl ((cn_ge (nI_toInt (by omega)) (by decide : (0 : Int32).toInt = 0)).trans (decide_eq_true (by omega))) ?_
                  refine E_iload_n at_X5_row_23 rfl ?_
                  refine E_if (t := 32) (b := false) at_X5_row_24 rfl ((cn_lt (nI_toInt (by omega)) (by decide : (0 : Int32).toInt = 0)).trans (decide_eq_false (by omega))) ?_
                  refine E_iload_n at_X5_row_27 rfl ?_
                  refine E_iconst (x := nI 3) at_X5_row_28 (by decide) ?_
                  refine E_ic (t := 39) (b := true) at_X5_row_29 rfl ((cn_le (nI_toInt (by omega)) (nI_toInt (by omega))).trans (decide_eq_true (by omega))) ?_
                  refine E_iload_n at_X5_row_39 rfl ?_
                  refine E_sipush (x := nI 160) at_X5_row_40 (by decide) ?_
                  refine E_ic (t := 53) (b := true) at_X5_row_43 rfl ((cn_le (nI_toInt (by omega)) (nI_toInt (by omega))).trans (decide_eq_true (by omega))) ?_
                  refine E_aload_n rfl rfl ?_
                  refine E_getfield (v := .ref 31) rfl w0 rfl (by decide) rfl ?_
                  refine E_iload_n rfl rfl ?_
                  refine E_aalN (b := 49 + 2 * a1k) rfl w31 (by omega) (w_shs (by omega)) ?_
                  refine E_iload_n rfl rfl ?_
                  refine E_iload_n rfl rfl ?_
                  have e1 : Ev ab_Z0 2 30 [.ref (49 + 2 * a1k), .int (nI a2k), .int (nI a3k)] (ww im lf s d k ls rf rz ra rn rq lt m1 m2 m3 m4 bd fc hd sz el s g fm hm so si sh ce ca td wa kp la bf oo bo pw ow tr) (none, (ww im lf s d k ls rf rz ra rn rq lt m1 m2 m3 m4 bd fc (fUp hd a1k (nI (100 + a2k))) (fUp sz a1k (nI a3k)) (fUp el a1k (List.replicate 160 0)) s g fm hm so si sh ce ca td wa kp la bf oo bo pw ow tr)) := by
                    refine Ef.in (md := mX3_holdRow) (L := [some (.ref (49 + 2 * a1k)), some (.int (nI a2k)), some (.int (nI a3k))]) rfl (Nat.le_of_ble_eq_true rfl) rfl ?_
                    refine E_aload_n rfl rfl ?_
                    refine E_getfield (v := .ref (50 + 2 * a1k)) rfl (w_shv (j := a1k) (by omega) u1 u2) rfl (by decide) rfl ?_
                    refine E_lconst (x := 0) rfl (by decide) ?_
                    refine E_callS (v := none) (As := [.ref (50 + 2 * a1k), .long 0]) (r0 := []) (cs2 := (ww im lf s d k ls rf rz ra rn rq lt m1 m2 m3 m4 bd fc hd sz (fUp el a1k (List.replicate 160 0)) s g fm hm so si sh ce ca td wa kp la bf oo bo pw ow tr)) rfl rfl rfl (Nat.le_of_ble_eq_true rfl) rfl ((w_elput (by omega)) ▸ (fillL (w_el (j := a1k) (by omega)) (by omega) (by omega))) (by decide) w_lens ?_
                    refine E_aload_n rfl rfl ?_
                    refine E_bipush (x := nI 100) rfl (by decide) ?_
                    refine E_iload_n rfl rfl ?_
                    refine E_iadd (z := nI (100 + a2k)) rfl (nI_add _ _) ?_
                    refine E_putfield (cs2 := (ww im lf s d k ls rf rz ra rn rq lt m1 m2 m3 m4 bd fc (fUp hd a1k (nI (100 + a2k))) (fUp sz a1k (nI (si.getD a1k 0))) (fUp el a1k (List.replicate 160 0)) s g fm hm so si sh ce ca td wa kp la bf oo bo pw ow tr)) rfl (w_shv (j := a1k) (by omega) u1 u2) rfl (by decide) (Nat.le_of_ble_eq_true rfl) rfl rfl rfl (w_shput (by omega)) ?_
                    refine E_aload_n rfl rfl ?_
                    refine E_iload_n rfl rfl ?_
                    refine E_putfield (cs2 := (ww im lf s d k ls rf rz ra rn rq lt m1 m2 m3 m4 bd fc (fUp hd a1k (nI (100 + a2k))) (fUp sz a1k (nI a3k)) (fUp el a1k (List.replicate 160 0)) s g fm hm so si sh ce ca td wa kp la bf oo bo pw ow tr)) rfl (w_shv (j := a1k) (by omega) fUp_eq fUp_eq) rfl (by decide) (Nat.le_of_ble_eq_true rfl) rfl rfl rfl (w_shput2 (by omega)) ?_
                    exact E_vret rfl rfl
                  refine E_callV (v := none) (As := [.ref (49 + 2 * a1k), .int (nI a2k), .int (nI a3k)]) (r0 := []) (cs2 := (ww im lf s d k ls rf rz ra rn rq lt m1 m2 m3 m4 bd fc (fUp hd a1k (nI (100 + a2k))) (fUp sz a1k (nI a3k)) (fUp el a1k (List.replicate 160 0)) s g fm hm so si sh ce ca td wa kp la bf oo bo pw ow tr)) rfl rfl rfl (Nat.le_of_ble_eq_true rfl) rfl (ab_rvOf (w_shv (j := a1k) (by omega) u1 u2) rfl) e1 (by decide) w_lens ?_
                  refine E_iconst (x := nI 1) rfl (by decide) ?_
                  exact E_iret rfl rfl
                · show Ev ab_Z0 2 135 [.ref 65, .int (nI a1k), .int (nI a2k), .int (nI a3k)] (ww im lf s d k ls rf rz ra rn rq lt m1 m2 m3 m4 bd fc (fUp hd a1k (nI (100 + a2k))) (fUp sz a1k (nI a3k)) (fUp el a1k (List.replicate 160 0)) s g fm hm so si sh ce ca td wa kp la bf oo bo pw ow tr) (some (.int (nI 1)), (ww im lf s d k ls rf rz ra rn rq lt m1 m2 m3 m4 bd fc (fUp hd a1k (nI (100 + a2k))) (fUp sz a1k (nI a3k)) (fUp el a1k (List.replicate 160 0)) s g fm (hm.set a1k 1) (so.set a1k a2k) (si.set a1k a3k) sh (zf ce (160 * a1k) 160) ca td wa kp la bf oo bo pw ow tr))
                  refine Ef.in (md := mX6_row) (L := [some (.ref 65), some (.int (nI a1k)), some (.int (nI a2k)), some (.int (nI a3k)), none]) rfl (Nat.le_of_ble_eq_true rfl) rfl ?_
                  refine E_aload_n rfl rfl ?_
                  refine E_iload_n rfl rfl ?_
                  refine E_callV (v := some (.int (nI 1))) (As := [.ref 65, .int (nI a1k)]) (r0 := []) (cs2 := (ww im lf s d k ls rf rz ra rn rq lt m1 m2 m3 m4 bd fc (fUp hd a1k (nI (100 + a2k))) (fUp sz a1k (nI a3k)) (fUp el a1k (List.replicate 160 0)) s g fm hm so si sh ce ca td wa kp la bf oo bo pw ow tr)) rfl rfl rfl (Nat.le_of_ble_eq_true rfl) rfl (ab_rvOf w65 rfl) (L40_X6_isShelf (by omega) (by omega) (by omega)) (by decide) rfl ?_
                  refine E_if (t := 14) (b := true) rfl rfl (by decide) ?_
                  refine E_iload_n rfl rfl ?_
                  refine E_if (t := 25) (b := true) rfl rfl ((cn_ge (nI_toInt (by omega)) (by decide : (0 : Int32).toInt = 0)).trans (decide_eq_true (by omega))) ?_
                  refine E_iload_n rfl rfl ?_
                  refine E_if (t := 34) (b := false) rfl rfl ((cn_lt (nI_toInt (by omega)) (by decide : (0 : Int32).toInt = 0)).trans (decide_eq_false (by omega))) ?_
                  refine E_iload_n rfl rfl ?_
                  refine E_iconst (x := nI 3) rfl (by decide) ?_
                  refine E_ic (t := 41) (b := true) rfl rfl ((cn_le (nI_toInt (by omega)) (nI_toInt (by omega))).trans (decide_eq_true (by omega))) ?_
                  refine E_iload_n rfl rfl ?_
                  refine E_sipush (x := nI 160) rfl (by decide) ?_
                  refine E_ic (t := 55) (b := true) rfl rfl ((cn_le (nI_toInt (by omega)) (nI_toInt (by omega))).trans (decide_eq_true (by omega))) ?_
                  refine E_aload_n rfl rfl ?_
                  refine E_getfield (v := .ref 76) rfl w65 rfl (by decide) rfl ?_
                  refine E_iload_n rfl rfl ?_
                  refine E_iconst (x := nI 1) rfl (by decide) ?_
                  refine E_iasN (l := hm) (cs2 := (ww im lf s d k ls rf rz ra rn rq lt m1 m2 m3 m4 bd fc (fUp hd a1k (nI (100 + a2k))) (fUp sz a1k (nI a3k)) (fUp el a1k (List.replicate 160 0)) s g fm (hm.set a1k 1) so si sh ce ca td wa kp la bf oo bo pw ow tr)) rfl w76 (by omega) (by omega) rfl ?_
                  refine E_aload_n rfl rfl ?_
                  refine E_getfield (v := .ref 77) rfl w65 rfl (by decide) rfl ?_
                  refine E_iload_n rfl rfl ?_
                  refine E_iload_n rfl rfl ?_
                  refine E_iasN (l := so) (cs2 := (ww im lf s d k ls rf rz ra rn rq lt m1 m2 m3 m4 bd fc (fUp hd a1k (nI (100 + a2k))) (fUp sz a1k (nI a3k)) (fUp el a1k (List.replicate 160 0)) s g fm (hm.set a1k 1) (so.set a1k a2k) si sh ce ca td wa kp la bf oo bo pw ow tr)) rfl w77 (by omega) (by omega) rfl ?_
                  refine E_aload_n rfl rfl ?_
                  refine E_getfield (v := .ref 78) rfl w65 rfl (by decide) rfl ?_
                  refine E_iload_n rfl rfl ?_
                  refine E_iload_n rfl rfl ?_
                  refine E_iasN (l := si) (cs2 := (ww im lf s d k ls rf rz ra rn rq lt m1 m2 m3 m4 bd fc (fUp hd a1k (nI (100 + a2k))) (fUp sz a1k (nI a3k)) (fUp el a1k (List.replicate 160 0)) s g fm (hm.set a1k 1) (so.set a1k a2k) (si.set a1k a3k) sh ce ca td wa kp la bf oo bo pw ow tr)) rfl w78 (by omega) (by omega) rfl ?_
                  refine E_iconst (x := nI 0) rfl (by decide) ?_
                  refine E_istore (L2 := [some (.ref 65), some (.int (nI a1k)), some (.int (nI a2k)), some (.int (nI a3k)), some (.int (nI 0))]) rfl rfl ?_
                  refine mrow_l (by omega) (lr.2.2.2.2.2.2.2.2.2.1) ?_ 160 0 rfl
                  refine E_iconst (x := nI 1) rfl (by decide) ?_
                  exact E_iret rfl rfl
                · exact ⟨I, rfl, hf, iQ, iM, iT, (iS_row iS (by omega) (by omega) (by omega) (lr.2.2.2.2.2.1) (lr.2.2.2.2.2.2.1) (lr.2.2.2.2.2.2.2.1)), (l_elU l_el (by first | exact List.length_replicate | (simp only [List.length_set]; exact l_el _ (by omega)) | (rw [ab_cpl (by omega) (by omega)]; exact l_el _ (by omega)))), (lr.1), (lr.2.1), (lr.2.2.1), (lr.2.2.2.1), (lr.2.2.2.2.1), (by simp only [List.length_set]; exact (lr.2.2.2.2.2.1)), (by simp only [List.length_set]; exact (lr.2.2.2.2.2.2.1)), (by simp only [List.length_set]; exact (lr.2.2.2.2.2.2.2.1)), (lr.2.2.2.2.2.2.2.2.1), ((zf_len _ _ _).trans (lr.2.2.2.2.2.2.2.2.2.1)), (lr.2.2.2.2.2.2.2.2.2.2.1), (lr.2.2.2.2.2.2.2.2.2.2.2.1), (lr.2.2.2.2.2.2.2.2.2.2.2.2.1), (lr.2.2.2.2.2.2.2.2.2.2.2.2.2.1), (lr.2.2.2.2.2.2.2.2.2.2.2.2.2.2.1), (lr.2.2.2.2.2.2.2.2.2.2.2.2.2.2.2.1), (lr.2.2.2.2.2.2.2.2.2.2.2.2.2.2.2.2.1), (lr.2.2.2.2.2.2.2.2.2.2.2.2.2.2.2.2.2.1), (lr.2.2.2.2.2.2.2.2.2.2.2.2.2.2.2.2.2.2.1), (lr.2.2.2.2.2.2.2.2.2.2.2.2.2.2.2.2.2.2.2.1), (lr.2.2.2.2.2.2.2.2.2.2.2.2.2.2.2.2.2.2.2.2)⟩
        · refine ⟨(-6), (im, lf, s, d, k, ls, rf, rz, ra, rn, rq, lt, m1, m2, m3, m4, bd, (fc.set 6 ((fc.getD 6 0) + (nI 1))), hd, sz, el, s, g, fm, hm, so, si, sh, ce, ca, td, wa, kp, la, bf, oo, bo, pw, ow, tr), (im, lf, s, d, k, ls, rf, rz, ra, rn, rq, lt, m1, m2, m3, m4, bd, (fc.set 6 ((fc.getD 6 0) + (nI 1))), hd, sz, el, s, g, (fm.set 6 ((fm.getD 6 0) + (nI 1))), hm, so, si, sh, ce, ca, td, wa, kp, la, bf, oo, bo, pw, ow, tr), ?_, ?_, ?_⟩
          · show Ev ab_Z0 3 76 [.ref 0, .int (nI a1k), .int a2, .int (nI a3k)] (ww im lf s d k ls rf rz ra rn rq lt m1 m2 m3 m4 bd fc hd sz el s g fm hm so si sh ce ca td wa kp la bf oo bo pw ow tr) (some (.int (-6)), (ww im lf s d k ls rf rz ra rn rq lt m1 m2 m3 m4 bd (fc.set 6 ((fc.getD 6 0) + (nI 1))) hd sz el s g fm hm so si sh ce ca td wa kp la bf oo bo pw ow tr))
            refine Ef.in (md := mX5_row) (L := [some (.ref 0), some (.int (nI a1k)), some (.int a2), some (.int (nI a3k))]) rfl (Nat.le_of_ble_eq_true rfl) rfl ?_
            refine E_iload_n at_X5_row_0 rfl ?_
            refine E_callS (v := some (.int (nI 1))) (As := [.int (nI a1k)]) (r0 := []) (cs2 := (ww im lf s d k ls rf rz ra rn rq lt m1 m2 m3 m4 bd fc hd sz el s g fm hm so si sh ce ca td wa kp la bf oo bo pw ow tr)) at_X5_row_1 rfl rfl (Nat.le_of_ble_eq_true rfl) rfl (L39_X5_isShelf (by omega) (by omega) (by omega)) (by decide) rfl ?_
            refine E_if (t := 13) (b := true) at_X5_row_4 rfl (by decide) ?_
            refine E_iload_n at_X5_row_13 rfl ?_
            refine E_if (t := 23) (b := true) at_X5_row_14 rfl ((cn_ge (nI_toInt (by omega)) (by decide : (0 : Int32).toInt = 0)).trans (decide_eq_true (by omega))) ?_
            refine E_iload_n at_X5_row_23 rfl ?_
            refine E_if (t := 32) (b := true) at_X5_row_24 rfl ((cn_lt rfl (by decide : (0 : Int32).toInt = 0)).trans (decide_eq_true (by omega))) ?_
            refine E_aload_n rfl rfl ?_
            refine E_bipush (x := nI 6) rfl (by decide) ?_
            refine E_callV (v := some (.int (-6))) (As := [.ref 0, .int (nI 6)]) (r0 := []) (cs2 := (ww im lf s d k ls rf rz ra rn rq lt m1 m2 m3 m4 bd (fc.set 6 ((fc.getD 6 0) + (nI 1))) hd sz el s g fm hm so si sh ce ca td wa kp la bf oo bo pw ow tr)) rfl rfl rfl (Nat.le_of_ble_eq_true rfl) rfl (ab_rvOf w0 rfl) (L26_X5_refuse (by omega)) (by decide) w_lens ?_
            exact E_iret rfl rfl
          · show Ev ab_Z0 2 135 [.ref 65, .int (nI a1k), .int a2, .int (nI a3k)] (ww im lf s d k ls rf rz ra rn rq lt m1 m2 m3 m4 bd (fc.set 6 ((fc.getD 6 0) + (nI 1))) hd sz el s g fm hm so si sh ce ca td wa kp la bf oo bo pw ow tr) (some (.int (-6)), (ww im lf s d k ls rf rz ra rn rq lt m1 m2 m3 m4 bd (fc.set 6 ((fc.getD 6 0) + (nI 1))) hd sz el s g (fm.set 6 ((fm.getD 6 0) + (nI 1))) hm so si sh ce ca td wa kp la bf oo bo pw ow tr))
            refine Ef.in (md := mX6_row) (L := [some (.ref 65), some (.int (nI a1k)), some (.int a2), some (.int (nI a3k)), none]) rfl (Nat.le_of_ble_eq_true rfl) rfl ?_
            refine E_aload_n at_X6_row_0 rfl ?_
            refine E_iload_n at_X6_row_1 rfl ?_
            refine E_callV (v := some (.int (nI 1))) (As := [.ref 65, .int (nI a1k)]) (r0 := []) (cs2 := (ww im lf s d k ls rf rz ra rn rq lt m1 m2 m3 m4 bd (fc.set 6 ((fc.getD 6 0) + (nI 1))) hd sz el s g fm hm so si sh ce ca td wa kp la bf oo bo pw ow tr)) at_X6_row_2 rfl rfl (Nat.le_of_ble_eq_true rfl) rfl (ab_rvOf w65 rfl) (L40_X6_isShelf (by omega) (by omega) (by omega)) (by decide) rfl ?_
            refine E_if (t := 14) (b := true) at_X6_row_5 rfl (by decide) ?_
            refine E_iload_n at_X6_row_14 rfl ?_
            refine E_if (t := 25) (b := true) at_X6_row_15 rfl ((cn_ge (nI_toInt (by omega)) (by decide : (0 : Int32).toInt = 0)).trans (decide_eq_true (by omega))) ?_
            refine E_iload_n at_X6_row_25 rfl ?_
            refine E_if (t := 34) (b := true) at_X6_row_26 rfl ((cn_lt rfl (by decide : (0 : Int32).toInt = 0)).trans (decide_eq_true (by omega))) ?_
            refine E_aload_n rfl rfl ?_
            refine E_bipush (x := (-6)) rfl (by decide) ?_
            refine E_callV (v := some (.int (-6))) (As := [.ref 65, .int (-6)]) (r0 := []) (cs2 := (ww im lf s d k ls rf rz ra rn rq lt m1 m2 m3 m4 bd (fc.set 6 ((fc.getD 6 0) + (nI 1))) hd sz el s g (fm.set 6 ((fm.getD 6 0) + (nI 1))) hm so si sh ce ca td wa kp la bf oo bo pw ow tr)) rfl rfl rfl (Nat.le_of_ble_eq_true rfl) rfl (ab_rvOf w65 rfl) (L28_X6_no (by omega)) (by decide) w_lens ?_
            exact E_iret rfl rfl
          · exact ⟨I, rfl, hf, iQ, iM, iT, iS, l_el, (lr.1), (lr.2.1), (lr.2.2.1), (by simp only [List.length_set]; exact (lr.2.2.2.1)), (by simp only [List.length_set]; exact (lr.2.2.2.2.1)), (lr.2.2.2.2.2.1), (lr.2.2.2.2.2.2.1), (lr.2.2.2.2.2.2.2.1), (lr.2.2.2.2.2.2.2.2.1), (lr.2.2.2.2.2.2.2.2.2.1), (lr.2.2.2.2.2.2.2.2.2.2.1), (lr.2.2.2.2.2.2.2.2.2.2.2.1), (lr.2.2.2.2.2.2.2.2.2.2.2.2.1), (lr.2.2.2.2.2.2.2.2.2.2.2.2.2.1), (lr.2.2.2.2.2.2.2.2.2.2.2.2.2.2.1), (lr.2.2.2.2.2.2.2.2.2.2.2.2.2.2.2.1), (lr.2.2.2.2.2.2.2.2.2.2.2.2.2.2.2.2.1), (lr.2.2.2.2.2.2.2.2.2.2.2.2.2.2.2.2.2.1), (lr.2.2.2.2.2.2.2.2.2.2.2.2.2.2.2.2.2.2.1), (lr.2.2.2.2.2.2.2.2.2.2.2.2.2.2.2.2.2.2.2.1), (lr.2.2.2.2.2.2.2.2.2.2.2.2.2.2.2.2.2.2.2.2)⟩
      · refine ⟨(-4), (im, lf, s, d, k, ls, rf, rz, ra, rn, rq, lt, m1, m2, m3, m4, bd, (fc.set 4 ((fc.getD 4 0) + (nI 1))), hd, sz, el, s, g, fm, hm, so, si, sh, ce, ca, td, wa, kp, la, bf, oo, bo, pw, ow, tr), (im, lf, s, d, k, ls, rf, rz, ra, rn, rq, lt, m1, m2, m3, m4, bd, (fc.set 4 ((fc.getD 4 0) + (nI 1))), hd, sz, el, s, g, (fm.set 4 ((fm.getD 4 0) + (nI 1))), hm, so, si, sh, ce, ca, td, wa, kp, la, bf, oo, bo, pw, ow, tr), ?_, ?_, ?_⟩
        · show Ev ab_Z0 3 76 [.ref 0, .int (nI a1k), .int a2, .int a3] (ww im lf s d k ls rf rz ra rn rq lt m1 m2 m3 m4 bd fc hd sz el s g fm hm so si sh ce ca td wa kp la bf oo bo pw ow tr) (some (.int (-4)), (ww im lf s d k ls rf rz ra rn rq lt m1 m2 m3 m4 bd (fc.set 4 ((fc.getD 4 0) + (nI 1))) hd sz el s g fm hm so si sh ce ca td wa kp la bf oo bo pw ow tr))
          refine Ef.in (md := mX5_row) (L := [some (.ref 0), some (.int (nI a1k)), some (.int a2), some (.int a3)]) rfl (Nat.le_of_ble_eq_true rfl) rfl ?_
          refine E_iload_n at_X5_row_0 rfl ?_
          refine E_callS (v := some (.int (nI 1))) (As := [.int (nI a1k)]) (r0 := []) (cs2 := (ww im lf s d k ls rf rz ra rn rq lt m1 m2 m3 m4 bd fc hd sz el s g fm hm so si sh ce ca td wa kp la bf oo bo pw ow tr)) at_X5_row_1 rfl rfl (Nat.le_of_ble_eq_true rfl) rfl (L39_X5_isShelf (by omega) (by omega) (by omega)) (by decide) rfl ?_
          refine E_if (t := 13) (b := true) at_X5_row_4 rfl (by decide) ?_
          refine E_iload_n at_X5_row_13 rfl ?_
          refine E_if (t := 23) (b := false) at_X5_row_14 rfl ((cn_ge rfl (by decide : (0 : Int32).toInt = 0)).trans (decide_eq_false (by omega))) ?_
          refine E_aload_n rfl rfl ?_
          refine E_iconst (x := nI 4) rfl (by decide) ?_
          refine E_callV (v := some (.int (-4))) (As := [.ref 0, .int (nI 4)]) (r0 := []) (cs2 := (ww im lf s d k ls rf rz ra rn rq lt m1 m2 m3 m4 bd (fc.set 4 ((fc.getD 4 0) + (nI 1))) hd sz el s g fm hm so si sh ce ca td wa kp la bf oo bo pw ow tr)) rfl rfl rfl (Nat.le_of_ble_eq_true rfl) rfl (ab_rvOf w0 rfl) (L45_X5_refuse (by omega)) (by decide) w_lens ?_
          exact E_iret rfl rfl
        · show Ev ab_Z0 2 135 [.ref 65, .int (nI a1k), .int a2, .int a3] (ww im lf s d k ls rf rz ra rn rq lt m1 m2 m3 m4 bd (fc.set 4 ((fc.getD 4 0) + (nI 1))) hd sz el s g fm hm so si sh ce ca td wa kp la bf oo bo pw ow tr) (some (.int (-4)), (ww im lf s d k ls rf rz ra rn rq lt m1 m2 m3 m4 bd (fc.set 4 ((fc.getD 4 0) + (nI 1))) hd sz el s g (fm.set 4 ((fm.getD 4 0) + (nI 1))) hm so si sh ce ca td wa kp la bf oo bo pw ow tr))
          refine Ef.in (md := mX6_row) (L := [some (.ref 65), some (.int (nI a1k)), some (.int a2), some (.int a3), none]) rfl (Nat.le_of_ble_eq_true rfl) rfl ?_
          refine E_aload_n at_X6_row_0 rfl ?_
          refine E_iload_n at_X6_row_1 rfl ?_
          refine E_callV (v := some (.int (nI 1))) (As := [.ref 65, .int (nI a1k)]) (r0 := []) (cs2 := (ww im lf s d k ls rf rz ra rn rq lt m1 m2 m3 m4 bd (fc.set 4 ((fc.getD 4 0) + (nI 1))) hd sz el s g fm hm so si sh ce ca td wa kp la bf oo bo pw ow tr)) at_X6_row_2 rfl rfl (Nat.le_of_ble_eq_true rfl) rfl (ab_rvOf w65 rfl) (L40_X6_isShelf (by omega) (by omega) (by omega)) (by decide) rfl ?_
          refine E_if (t := 14) (b := true) at_X6_row_5 rfl (by decide) ?_
          refine E_iload_n at_X6_row_14 rfl ?_
          refine E_if (t := 25) (b := false) at_X6_row_15 rfl ((cn_ge rfl (by decide : (0 : Int32).toInt = 0)).trans (decide_eq_false (by omega))) ?_
          refine E_aload_n rfl rfl ?_
          refine E_bipush (x := (-4)) rfl (by decide) ?_
          refine E_callV (v := some (.int (-4))) (As := [.ref 65, .int (-4)]) (r0 := []) (cs2 := (ww im lf s d k ls rf rz ra rn rq lt m1 m2 m3 m4 bd (fc.set 4 ((fc.getD 4 0) + (nI 1))) hd sz el s g (fm.set 4 ((fm.getD 4 0) + (nI 1))) hm so si sh ce ca td wa kp la bf oo bo pw ow tr)) rfl rfl rfl (Nat.le_of_ble_eq_true rfl) rfl (ab_rvOf w65 rfl) (L46_X6_no (by omega)) (by decide) w_lens ?_
          exact E_iret rfl rfl
        · exact ⟨I, rfl, hf, iQ, iM, iT, iS, l_el, (lr.1), (lr.2.1), (lr.2.2.1), (by simp only [List.length_set]; exact (lr.2.2.2.1)), (by simp only [List.length_set]; exact (lr.2.2.2.2.1)), (lr.2.2.2.2.2.1), (lr.2.2.2.2.2.2.1), (lr.2.2.2.2.2.2.2.1), (lr.2.2.2.2.2.2.2.2.1), (lr.2.2.2.2.2.2.2.2.2.1), (lr.2.2.2.2.2.2.2.2.2.2.1), (lr.2.2.2.2.2.2.2.2.2.2.2.1), (lr.2.2.2.2.2.2.2.2.2.2.2.2.1), (lr.2.2.2.2.2.2.2.2.2.2.2.2.2.1), (lr.2.2.2.2.2.2.2.2.2.2.2.2.2.2.1), (lr.2.2.2.2.2.2.2.2.2.2.2.2.2.2.2.1), (lr.2.2.2.2.2.2.2.2.2.2.2.2.2.2.2.2.1), (lr.2.2.2.2.2.2.2.2.2.2.2.2.2.2.2.2.2.1), (lr.2.2.2.2.2.2.2.2.2.2.2.2.2.2.2.2.2.2.1), (lr.2.2.2.2.2.2.2.2.2.2.2.2.2.2.2.2.2.2.2.1), (lr.2.2.2.2.2.2.2.2.2.2.2.2.2.2.2.2.2.2.2.2)⟩
    · refine ⟨(-1), (im, lf, s, d, k, ls, rf, rz, ra, rn, rq, lt, m1, m2, m3, m4, bd, (fc.set 1 ((fc.getD 1 0) + (nI 1))), hd, sz, el, s, g, fm, hm, so, si, sh, ce, ca, td, wa, kp, la, bf, oo, bo, pw, ow, tr), (im, lf, s, d, k, ls, rf, rz, ra, rn, rq, lt, m1, m2, m3, m4, bd, (fc.set 1 ((fc.getD 1 0) + (nI 1))), hd, sz, el, s, g, (fm.set 1 ((fm.getD 1 0) + (nI 1))), hm, so, si, sh, ce, ca, td, wa, kp, la, bf, oo, bo, pw, ow, tr), ?_, ?_, ?_⟩
      · show Ev ab_Z0 3 76 [.ref 0, .int (nI a1k), .int a2, .int a3] (ww im lf s d k ls rf rz ra rn rq lt m1 m2 m3 m4 bd fc hd sz el s g fm hm so si sh ce ca td wa kp la bf oo bo pw ow tr) (some (.int (-1)), (ww im lf s d k ls rf rz ra rn rq lt m1 m2 m3 m4 bd (fc.set 1 ((fc.getD 1 0) + (nI 1))) hd sz el s g fm hm so si sh ce ca td wa kp la bf oo bo pw ow tr))
        refine Ef.in (md := mX5_row) (L := [some (.ref 0), some (.int (nI a1k)), some (.int a2), some (.int a3)]) rfl (Nat.le_of_ble_eq_true rfl) rfl ?_
        refine E_iload_n at_X5_row_0 rfl ?_
        refine E_callS (v := some (.int (nI 0))) (As := [.int (nI a1k)]) (r0 := []) (cs2 := (ww im lf s d k ls rf rz ra rn rq lt m1 m2 m3 m4 bd fc hd sz el s g fm hm so si sh ce ca td wa kp la bf oo bo pw ow tr)) at_X5_row_1 rfl rfl (Nat.le_of_ble_eq_true rfl) rfl (L47_X5_isShelf (by omega) (by omega) (by omega)) (by decide) rfl ?_
        refine E_if (t := 13) (b := false) at_X5_row_4 rfl (by decide) ?_
        refine E_aload_n rfl rfl ?_
        refine E_iconst (x := nI 1) rfl (by decide) ?_
        refine E_callV (v := some (.int (-1))) (As := [.ref 0, .int (nI 1)]) (r0 := []) (cs2 := (ww im lf s d k ls rf rz ra rn rq lt m1 m2 m3 m4 bd (fc.set 1 ((fc.getD 1 0) + (nI 1))) hd sz el s g fm hm so si sh ce ca td wa kp la bf oo bo pw ow tr)) rfl rfl rfl (Nat.le_of_ble_eq_true rfl) rfl (ab_rvOf w0 rfl) (L6_X5_refuse (by omega)) (by decide) w_lens ?_
        exact E_iret rfl rfl
      · show Ev ab_Z0 2 135 [.ref 65, .int (nI a1k), .int a2, .int a3] (ww im lf s d k ls rf rz ra rn rq lt m1 m2 m3 m4 bd (fc.set 1 ((fc.getD 1 0) + (nI 1))) hd sz el s g fm hm so si sh ce ca td wa kp la bf oo bo pw ow tr) (some (.int (-1)), (ww im lf s d k ls rf rz ra rn rq lt m1 m2 m3 m4 bd (fc.set 1 ((fc.getD 1 0) + (nI 1))) hd sz el s g (fm.set 1 ((fm.getD 1 0) + (nI 1))) hm so si sh ce ca td wa kp la bf oo bo pw ow tr))
        refine Ef.in (md := mX6_row) (L := [some (.ref 65), some (.int (nI a1k)), some (.int a2), some (.int a3), none]) rfl (Nat.le_of_ble_eq_true rfl) rfl ?_
        refine E_aload_n at_X6_row_0 rfl ?_
        refine E_iload_n at_X6_row_1 rfl ?_
        refine E_callV (v := some (.int (nI 0))) (As := [.ref 65, .int (nI a1k)]) (r0 := []) (cs2 := (ww im lf s d k ls rf rz ra rn rq lt m1 m2 m3 m4 bd (fc.set 1 ((fc.getD 1 0) + (nI 1))) hd sz el s g fm hm so si sh ce ca td wa kp la bf oo bo pw ow tr)) at_X6_row_2 rfl rfl (Nat.le_of_ble_eq_true rfl) rfl (ab_rvOf w65 rfl) (L48_X6_isShelf (by omega) (by omega) (by omega)) (by decide) rfl ?_
        refine E_if (t := 14) (b := false) at_X6_row_5 rfl (by decide) ?_
        refine E_aload_n rfl rfl ?_
        refine E_iconst (x := (-1)) rfl (by decide) ?_
        refine E_callV (v := some (.int (-1))) (As := [.ref 65, .int (-1)]) (r0 := []) (cs2 := (ww im lf s d k ls rf rz ra rn rq lt m1 m2 m3 m4 bd (fc.set 1 ((fc.getD 1 0) + (nI 1))) hd sz el s g (fm.set 1 ((fm.getD 1 0) + (nI 1))) hm so si sh ce ca td wa kp la bf oo bo pw ow tr)) rfl rfl rfl (Nat.le_of_ble_eq_true rfl) rfl (ab_rvOf w65 rfl) (L8_X6_no (by omega)) (by decide) w_lens ?_
        exact E_iret rfl rfl
      · exact ⟨I, rfl, hf, iQ, iM, iT, iS, l_el, (lr.1), (lr.2.1), (lr.2.2.1), (by simp only [List.length_set]; exact (lr.2.2.2.1)), (by simp only [List.length_set]; exact (lr.2.2.2.2.1)), (lr.2.2.2.2.2.1), (lr.2.2.2.2.2.2.1), (lr.2.2.2.2.2.2.2.1), (lr.2.2.2.2.2.2.2.2.1), (lr.2.2.2.2.2.2.2.2.2.1), (lr.2.2.2.2.2.2.2.2.2.2.1), (lr.2.2.2.2.2.2.2.2.2.2.2.1), (lr.2.2.2.2.2.2.2.2.2.2.2.2.1), (lr.2.2.2.2.2.2.2.2.2.2.2.2.2.1), (lr.2.2.2.2.2.2.2.2.2.2.2.2.2.2.1), (lr.2.2.2.2.2.2.2.2.2.2.2.2.2.2.2.1), (lr.2.2.2.2.2.2.2.2.2.2.2.2.2.2.2.2.1), (lr.2.2.2.2.2.2.2.2.2.2.2.2.2.2.2.2.2.1), (lr.2.2.2.2.2.2.2.2.2.2.2.2.2.2.2.2.2.2.1), (lr.2.2.2.2.2.2.2.2.2.2.2.2.2.2.2.2.2.2.2.1), (lr.2.2.2.2.2.2.2.2.2.2.2.2.2.2.2.2.2.2.2.2)⟩
  · refine ⟨(-1), (im, lf, s, d, k, ls, rf, rz, ra, rn, rq, lt, m1, m2, m3, m4, bd, (fc.set 1 ((fc.getD 1 0) + (nI 1))), hd, sz, el, s, g, fm, hm, so, si, sh, ce, ca, td, wa, kp, la, bf, oo, bo, pw, ow, tr), (im, lf, s, d, k, ls, rf, rz, ra, rn, rq, lt, m1, m2, m3, m4, bd, (fc.set 1 ((fc.getD 1 0) + (nI 1))), hd, sz, el, s, g, (fm.set 1 ((fm.getD 1 0) + (nI 1))), hm, so, si, sh, ce, ca, td, wa, kp, la, bf, oo, bo, pw, ow, tr), ?_, ?_, ?_⟩
    · show Ev ab_Z0 3 76 [.ref 0, .int a1, .int a2, .int a3] (ww im lf s d k ls rf rz ra rn rq lt m1 m2 m3 m4 bd fc hd sz el s g fm hm so si sh ce ca td wa kp la bf oo bo pw ow tr) (some (.int (-1)), (ww im lf s d k ls rf rz ra rn rq lt m1 m2 m3 m4 bd (fc.set 1 ((fc.getD 1 0) + (nI 1))) hd sz el s g fm hm so si sh ce ca td wa kp la bf oo bo pw ow tr))
      refine Ef.in (md := mX5_row) (L := [some (.ref 0), some (.int a1), some (.int a2), some (.int a3)]) rfl (Nat.le_of_ble_eq_true rfl) rfl ?_
      refine E_iload_n at_X5_row_0 rfl ?_
      refine E_callS (v := some (.int (nI 0))) (As := [.int a1]) (r0 := []) (cs2 := (ww im lf s d k ls rf rz ra rn rq lt m1 m2 m3 m4 bd fc hd sz el s g fm hm so si sh ce ca td wa kp la bf oo bo pw ow tr)) at_X5_row_1 rfl rfl (Nat.le_of_ble_eq_true rfl) rfl (L49_X5_isShelf (by omega) (by omega)) (by decide) rfl ?_
      refine E_if (t := 13) (b := false) at_X5_row_4 rfl (by decide) ?_
      refine E_aload_n rfl rfl ?_
      refine E_iconst (x := nI 1) rfl (by decide) ?_
      refine E_callV (v := some (.int (-1))) (As := [.ref 0, .int (nI 1)]) (r0 := []) (cs2 := (ww im lf s d k ls rf rz ra rn rq lt m1 m2 m3 m4 bd (fc.set 1 ((fc.getD 1 0) + (nI 1))) hd sz el s g fm hm so si sh ce ca td wa kp la bf oo bo pw ow tr)) rfl rfl rfl (Nat.le_of_ble_eq_true rfl) rfl (ab_rvOf w0 rfl) (L6_X5_refuse (by omega)) (by decide) w_lens ?_
      exact E_iret rfl rfl
    · show Ev ab_Z0 2 135 [.ref 65, .int a1, .int a2, .int a3] (ww im lf s d k ls rf rz ra rn rq lt m1 m2 m3 m4 bd (fc.set 1 ((fc.getD 1 0) + (nI 1))) hd sz el s g fm hm so si sh ce ca td wa kp la bf oo bo pw ow tr) (some (.int (-1)), (ww im lf s d k ls rf rz ra rn rq lt m1 m2 m3 m4 bd (fc.set 1 ((fc.getD 1 0) + (nI 1))) hd sz el s g (fm.set 1 ((fm.getD 1 0) + (nI 1))) hm so si sh ce ca td wa kp la bf oo bo pw ow tr))
      refine Ef.in (md := mX6_row) (L := [some (.ref 65), some (.int a1), some (.int a2), some (.int a3), none]) rfl (Nat.le_of_ble_eq_true rfl) rfl ?_
      refine E_aload_n at_X6_row_0 rfl ?_
      refine E_iload_n at_X6_row_1 rfl ?_
      refine E_callV (v := some (.int (nI 0))) (As := [.ref 65, .int a1]) (r0 := []) (cs2 := (ww im lf s d k ls rf rz ra rn rq lt m1 m2 m3 m4 bd (fc.set 1 ((fc.getD 1 0) + (nI 1))) hd sz el s g fm hm so si sh ce ca td wa kp la bf oo bo pw ow tr)) at_X6_row_2 rfl rfl (Nat.le_of_ble_eq_true rfl) rfl (ab_rvOf w65 rfl) (L50_X6_isShelf (by omega) (by omega)) (by decide) rfl ?_
      refine E_if (t := 14) (b := false) at_X6_row_5 rfl (by decide) ?_
      refine E_aload_n rfl rfl ?_
      refine E_iconst (x := (-1)) rfl (by decide) ?_
      refine E_callV (v := some (.int (-1))) (As := [.ref 65, .int (-1)]) (r0 := []) (cs2 := (ww im lf s d k ls rf rz ra rn rq lt m1 m2 m3 m4 bd (fc.set 1 ((fc.getD 1 0) + (nI 1))) hd sz el s g (fm.set 1 ((fm.getD 1 0) + (nI 1))) hm so si sh ce ca td wa kp la bf oo bo pw ow tr)) rfl rfl rfl (Nat.le_of_ble_eq_true rfl) rfl (ab_rvOf w65 rfl) (L8_X6_no (by omega)) (by decide) w_lens ?_
      exact E_iret rfl rfl
    · exact ⟨I, rfl, hf, iQ, iM, iT, iS, l_el, (lr.1), (lr.2.1), (lr.2.2.1), (by simp only [List.length_set]; exact (lr.2.2.2.1)), (by simp only [List.length_set]; exact (lr.2.2.2.2.1)), (lr.2.2.2.2.2.1), (lr.2.2.2.2.2.2.1), (lr.2.2.2.2.2.2.2.1), (lr.2.2.2.2.2.2.2.2.1), (lr.2.2.2.2.2.2.2.2.2.1), (lr.2.2.2.2.2.2.2.2.2.2.1), (lr.2.2.2.2.2.2.2.2.2.2.2.1), (lr.2.2.2.2.2.2.2.2.2.2.2.2.1), (lr.2.2.2.2.2.2.2.2.2.2.2.2.2.1), (lr.2.2.2.2.2.2.2.2.2.2.2.2.2.2.1), (lr.2.2.2.2.2.2.2.2.2.2.2.2.2.2.2.1), (lr.2.2.2.2.2.2.2.2.2.2.2.2.2.2.2.2.1), (lr.2.2.2.2.2.2.2.2.2.2.2.2.2.2.2.2.2.1), (lr.2.2.2.2.2.2.2.2.2.2.2.2.2.2.2.2.2.2.1), (lr.2.2.2.2.2.2.2.2.2.2.2.2.2.2.2.2.2.2.2.1), (lr.2.2.2.2.2.2.2.2.2.2.2.2.2.2.2.2.2.2.2.2)⟩
