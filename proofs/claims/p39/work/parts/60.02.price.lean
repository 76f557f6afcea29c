/-! price; by program (wip/tools/op.py) -/
section LM
variable {im : Int32} {lf : Int32} {s : ab_q} {d : ab_q} {k : ab_q} {ls : List Int32} {rf : Int32} {rz : Int32} {ra : Int32} {rn : Int32} {rq : ab_q} {lt : List Int32} {m1 : Int32} {m2 : Int32} {m3 : Int32} {m4 : Int32} {bd : List Int32} {fc : List Int32} {hd : Nat → Int32} {sz : Nat → Int32} {el : Nat → List Int64} {t : ab_q} {g : Nat → Int32} {fm : List Int32} {hm : List Nat} {so : List Nat} {si : List Nat} {sh : List Int32} {ce : List Int64} {ca : List Int64} {td : List Int32} {wa : List Int32} {kp : List Int32} {la : List Int32} {bf : List Int32} {oo : List Int32} {bo : List Int32} {pw : List Int32} {ow : List Int32} {tr : List Int32}
theorem L0_X4_isPerson {x1 : Nat} (h0 : x1 < 2147483648) (h1 : ¬ (x1 < 0)) (h2 : x1 < (qM s)) (h3 : qM s ≤ 6) : Ev ab_Z0 1 51 [.ref 1, .int (nI x1)] (ww im lf s d k ls rf rz ra rn rq lt m1 m2 m3 m4 bd fc hd sz el t g fm hm so si sh ce ca td wa kp la bf oo bo pw ow tr) (some (.int (nI 1)), (ww im lf s d k ls rf rz ra rn rq lt m1 m2 m3 m4 bd fc hd sz el t g fm hm so si sh ce ca td wa kp la bf oo bo pw ow tr)) := by
  refine Ef.in (md := mX4_isPerson) (L := [some (.ref 1), some (.int (nI x1))]) rfl (Nat.le_of_ble_eq_true rfl) rfl ?_
  refine E_iload_n at_X4_isPerson_0 rfl ?_
  refine E_if (t := 16) (b := false) at_X4_isPerson_1 rfl ((cn_lt (nI_toInt (by omega)) (by decide : (0 : Int32).toInt = 0)).trans (decide_eq_false (by omega))) ?_
  refine E_iload_n at_X4_isPerson_4 rfl ?_
  refine E_aload_n at_X4_isPerson_5 rfl ?_
  refine E_getfield (v := .int (nI (qM s))) at_X4_isPerson_6 w1 rfl (by decide) rfl ?_
  refine E_ic (t := 16) (b := false) at_X4_isPerson_9 rfl ((cn_ge (nI_toInt (by omega)) (nI_toInt (by omega))).trans (decide_eq_false (by omega))) ?_
  refine E_iconst (x := nI 1) at_X4_isPerson_12 (by decide) ?_
  refine E_goto (t := 17) at_X4_isPerson_13 rfl ?_
  exact E_iret at_X4_isPerson_17 rfl
theorem L1_X4_isWish {x0 : Nat} (h0 : x0 < 2147483648) (h1 : ¬ (x0 < 0)) (h2 : x0 < 8) : Ev ab_Z0 1 47 [.int (nI x0)] (ww im lf s d k ls rf rz ra rn rq lt m1 m2 m3 m4 bd fc hd sz el t g fm hm so si sh ce ca td wa kp la bf oo bo pw ow tr) (some (.int (nI 1)), (ww im lf s d k ls rf rz ra rn rq lt m1 m2 m3 m4 bd fc hd sz el t g fm hm so si sh ce ca td wa kp la bf oo bo pw ow tr)) := by
  refine Ef.in (md := mX4_isWish) (L := [some (.int (nI x0))]) rfl (Nat.le_of_ble_eq_true rfl) rfl ?_
  refine E_iload_n rfl rfl ?_
  refine E_if (t := 14) (b := false) rfl rfl ((cn_lt (nI_toInt (by omega)) (by decide : (0 : Int32).toInt = 0)).trans (decide_eq_false (by omega))) ?_
  refine E_iload_n rfl rfl ?_
  refine E_bipush (x := nI 8) rfl (by decide) ?_
  refine E_ic (t := 14) (b := false) rfl rfl ((cn_ge (nI_toInt (by omega)) (nI_toInt (by omega))).trans (decide_eq_false (by omega))) ?_
  refine E_iconst (x := nI 1) rfl (by decide) ?_
  refine E_goto (t := 15) rfl rfl ?_
  exact E_iret rfl rfl
theorem L2_X6_isOne {x1 : Nat} (h0 : x1 < 2147483648) (h1 : ¬ (x1 < 0)) (h2 : x1 < (qM t)) (h3 : qM t ≤ 6) : Ev ab_Z0 1 133 [.ref 65, .int (nI x1)] (ww im lf s d k ls rf rz ra rn rq lt m1 m2 m3 m4 bd fc hd sz el t g fm hm so si sh ce ca td wa kp la bf oo bo pw ow tr) (some (.int (nI 1)), (ww im lf s d k ls rf rz ra rn rq lt m1 m2 m3 m4 bd fc hd sz el t g fm hm so si sh ce ca td wa kp la bf oo bo pw ow tr)) := by
  refine Ef.in (md := mX6_isOne) (L := [some (.ref 65), some (.int (nI x1))]) rfl (Nat.le_of_ble_eq_true rfl) rfl ?_
  refine E_iload_n at_X6_isOne_0 rfl ?_
  refine E_if (t := 16) (b := false) at_X6_isOne_1 rfl ((cn_lt (nI_toInt (by omega)) (by decide : (0 : Int32).toInt = 0)).trans (decide_eq_false (by omega))) ?_
  refine E_iload_n at_X6_isOne_4 rfl ?_
  refine E_aload_n at_X6_isOne_5 rfl ?_
  refine E_getfield (v := .int (nI (qM t))) at_X6_isOne_6 w65 rfl (by decide) rfl ?_
  refine E_ic (t := 16) (b := false) at_X6_isOne_9 rfl ((cn_ge (nI_toInt (by omega)) (nI_toInt (by omega))).trans (decide_eq_false (by omega))) ?_
  refine E_iconst (x := nI 1) at_X6_isOne_12 (by decide) ?_
  refine E_goto (t := 17) at_X6_isOne_13 rfl ?_
  exact E_iret at_X6_isOne_17 rfl
theorem L3_X6_isFrom {x1 : Nat} (h0 : x1 < 2147483648) (h1 : ¬ (x1 < 0)) (h2 : ¬ (7 < x1)) : Ev ab_Z0 1 134 [.ref 65, .int (nI x1), .int (nI 0), .int (nI 7)] (ww im lf s d k ls rf rz ra rn rq lt m1 m2 m3 m4 bd fc hd sz el t g fm hm so si sh ce ca td wa kp la bf oo bo pw ow tr) (some (.int (nI 1)), (ww im lf s d k ls rf rz ra rn rq lt m1 m2 m3 m4 bd fc hd sz el t g fm hm so si sh ce ca td wa kp la bf oo bo pw ow tr)) := by
  refine Ef.in (md := mX6_isFrom) (L := [some (.ref 65), some (.int (nI x1)), some (.int (nI 0)), some (.int (nI 7))]) rfl (Nat.le_of_ble_eq_true rfl) rfl ?_
  refine E_iload_n at_X6_isFrom_0 rfl ?_
  refine E_iload_n at_X6_isFrom_1 rfl ?_
  refine E_ic (t := 14) (b := false) at_X6_isFrom_2 rfl ((cn_lt (nI_toInt (by omega)) (nI_toInt (by omega))).trans (decide_eq_false (by omega))) ?_
  refine E_iload_n at_X6_isFrom_5 rfl ?_
  refine E_iload_n at_X6_isFrom_6 rfl ?_
  refine E_ic (t := 14) (b := false) at_X6_isFrom_7 rfl ((cn_gt (nI_toInt (by omega)) (nI_toInt (by omega))).trans (decide_eq_false (by omega))) ?_
  refine E_iconst (x := nI 1) at_X6_isFrom_10 (by decide) ?_
  refine E_goto (t := 15) at_X6_isFrom_11 rfl ?_
  exact E_iret at_X6_isFrom_15 rfl
theorem L4_X4_isWish {x0 : Nat} (h0 : x0 < 2147483648) (h1 : ¬ (x0 < 0)) (h2 : ¬ (x0 < 8)) : Ev ab_Z0 1 47 [.int (nI x0)] (ww im lf s d k ls rf rz ra rn rq lt m1 m2 m3 m4 bd fc hd sz el t g fm hm so si sh ce ca td wa kp la bf oo bo pw ow tr) (some (.int (nI 0)), (ww im lf s d k ls rf rz ra rn rq lt m1 m2 m3 m4 bd fc hd sz el t g fm hm so si sh ce ca td wa kp la bf oo bo pw ow tr)) := by
  refine Ef.in (md := mX4_isWish) (L := [some (.int (nI x0))]) rfl (Nat.le_of_ble_eq_true rfl) rfl ?_
  refine E_iload_n rfl rfl ?_
  refine E_if (t := 14) (b := false) rfl rfl ((cn_lt (nI_toInt (by omega)) (by decide : (0 : Int32).toInt = 0)).trans (decide_eq_false (by omega))) ?_
  refine E_iload_n rfl rfl ?_
  refine E_bipush (x := nI 8) rfl (by decide) ?_
  refine E_ic (t := 14) (b := true) rfl rfl ((cn_ge (nI_toInt (by omega)) (nI_toInt (by omega))).trans (decide_eq_true (by omega))) ?_
  refine E_iconst (x := nI 0) rfl (by decide) ?_
  exact E_iret rfl rfl
theorem L5_X5_isFrom  : Ev ab_Z0 1 115 [.int (nI 1), .int (nI 1), .int (nI 7)] (ww im lf s d k ls rf rz ra rn rq lt m1 m2 m3 m4 bd fc hd sz el t g fm hm so si sh ce ca td wa kp la bf oo bo pw ow tr) (some (.int (nI 1)), (ww im lf s d k ls rf rz ra rn rq lt m1 m2 m3 m4 bd fc hd sz el t g fm hm so si sh ce ca td wa kp la bf oo bo pw ow tr)) := by
  refine Ef.in (md := mX5_isFrom) (L := [some (.int (nI 1)), some (.int (nI 1)), some (.int (nI 7))]) rfl (Nat.le_of_ble_eq_true rfl) rfl ?_
  refine E_iload_n at_X5_isFrom_0 rfl ?_
  refine E_iload_n at_X5_isFrom_1 rfl ?_
  refine E_ic (t := 14) (b := false) at_X5_isFrom_2 rfl (by decide) ?_
  refine E_iload_n at_X5_isFrom_5 rfl ?_
  refine E_iload_n at_X5_isFrom_6 rfl ?_
  refine E_ic (t := 14) (b := false) at_X5_isFrom_7 rfl (by decide) ?_
  refine E_iconst (x := nI 1) at_X5_isFrom_10 (by decide) ?_
  refine E_goto (t := 15) at_X5_isFrom_11 rfl ?_
  exact E_iret at_X5_isFrom_15 rfl
theorem L6_X5_refuse  (h0 : fc.length = 8) : Ev ab_Z0 2 118 [.ref 0, .int (nI 1)] (ww im lf s d k ls rf rz ra rn rq lt m1 m2 m3 m4 bd fc hd sz el t g fm hm so si sh ce ca td wa kp la bf oo bo pw ow tr) (some (.int (-1)), (ww im lf s d k ls rf rz ra rn rq lt m1 m2 m3 m4 bd (fc.set 1 ((fc.getD 1 0) + (nI 1))) hd sz el t g fm hm so si sh ce ca td wa kp la bf oo bo pw ow tr)) := by
  refine Ef.in (md := mX5_refuse) (L := [some (.ref 0), some (.int (nI 1))]) rfl (Nat.le_of_ble_eq_true rfl) rfl ?_
  refine E_iload_n at_X5_refuse_0 rfl ?_
  refine E_iconst (x := nI 1) at_X5_refuse_1 (by decide) ?_
  refine E_bipush (x := nI 7) at_X5_refuse_2 (by decide) ?_
  refine E_callS (v := some (.int (nI 1))) (As := [.int (nI 1), .int (nI 1), .int (nI 7)]) (r0 := []) (cs2 := (ww im lf s d k ls rf rz ra rn rq lt m1 m2 m3 m4 bd fc hd sz el t g fm hm so si sh ce ca td wa kp la bf oo bo pw ow tr)) at_X5_refuse_4 rfl rfl (Nat.le_of_ble_eq_true rfl) rfl (L5_X5_isFrom) (by decide) rfl ?_
  refine E_if (t := 20) (b := false) at_X5_refuse_7 rfl (by decide) ?_
  refine E_aload_n at_X5_refuse_10 rfl ?_
  refine E_getfield (v := .ref 48) at_X5_refuse_11 w0 rfl (by decide) rfl ?_
  refine E_iload_n at_X5_refuse_14 rfl ?_
  refine E_dup2 at_X5_refuse_15 ⟨rfl, rfl⟩ ?_
  refine E_ialI (l := fc) (v := fc.getD 1 0) at_X5_refuse_16 w48 (by omega) (by omega) rfl ?_
  refine E_iconst (x := nI 1) at_X5_refuse_17 (by decide) ?_
  refine E_iadd (z := (fc.getD 1 0) + (nI 1)) at_X5_refuse_18 rfl ?_
  refine E_iasI (l := fc) (cs2 := (ww im lf s d k ls rf rz ra rn rq lt m1 m2 m3 m4 bd (fc.set 1 ((fc.getD 1 0) + (nI 1))) hd sz el t g fm hm so si sh ce ca td wa kp la bf oo bo pw ow tr)) at_X5_refuse_19 w48 (by omega) (by omega) rfl ?_
  refine E_iload_n at_X5_refuse_20 rfl ?_
  refine E_ineg (z := (-1)) at_X5_refuse_21 (by decide) ?_
  exact E_iret at_X5_refuse_22 rfl
theorem L7_X6_isFrom {x1 : Nat} (h0 : x1 < 2147483648) (h1 : ¬ (x1 < 0)) (h2 : 7 < x1) : Ev ab_Z0 1 134 [.ref 65, .int (nI x1), .int (nI 0), .int (nI 7)] (ww im lf s d k ls rf rz ra rn rq lt m1 m2 m3 m4 bd fc hd sz el t g fm hm so si sh ce ca td wa kp la bf oo bo pw ow tr) (some (.int (nI 0)), (ww im lf s d k ls rf rz ra rn rq lt m1 m2 m3 m4 bd fc hd sz el t g fm hm so si sh ce ca td wa kp la bf oo bo pw ow tr)) := by
  refine Ef.in (md := mX6_isFrom) (L := [some (.ref 65), some (.int (nI x1)), some (.int (nI 0)), some (.int (nI 7))]) rfl (Nat.le_of_ble_eq_true rfl) rfl ?_
  refine E_iload_n at_X6_isFrom_0 rfl ?_
  refine E_iload_n at_X6_isFrom_1 rfl ?_
  refine E_ic (t := 14) (b := false) at_X6_isFrom_2 rfl ((cn_lt (nI_toInt (by omega)) (nI_toInt (by omega))).trans (decide_eq_false (by omega))) ?_
  refine E_iload_n at_X6_isFrom_5 rfl ?_
  refine E_iload_n at_X6_isFrom_6 rfl ?_
  refine E_ic (t := 14) (b := true) at_X6_isFrom_7 rfl ((cn_gt (nI_toInt (by omega)) (nI_toInt (by omega))).trans (decide_eq_true (by omega))) ?_
  refine E_iconst (x := nI 0) at_X6_isFrom_14 (by decide) ?_
  exact E_iret at_X6_isFrom_15 rfl
theorem L8_X6_no  (h0 : fm.length = 8) : Ev ab_Z0 1 129 [.ref 65, .int (-1)] (ww im lf s d k ls rf rz ra rn rq lt m1 m2 m3 m4 bd fc hd sz el t g fm hm so si sh ce ca td wa kp la bf oo bo pw ow tr) (some (.int (-1)), (ww im lf s d k ls rf rz ra rn rq lt m1 m2 m3 m4 bd fc hd sz el t g (fm.set 1 ((fm.getD 1 0) + (nI 1))) hm so si sh ce ca td wa kp la bf oo bo pw ow tr)) := by
  refine Ef.in (md := mX6_no) (L := [some (.ref 65), some (.int (-1))]) rfl (Nat.le_of_ble_eq_true rfl) rfl ?_
  refine E_aload_n at_X6_no_0 rfl ?_
  refine E_getfield (v := .ref 66) at_X6_no_1 w65 rfl (by decide) rfl ?_
  refine E_iload_n at_X6_no_4 rfl ?_
  refine E_ineg (z := nI 1) at_X6_no_5 (by decide) ?_
  refine E_dup2 at_X6_no_6 ⟨rfl, rfl⟩ ?_
  refine E_ialI (l := fm) (v := fm.getD 1 0) at_X6_no_7 w66 (by omega) (by omega) rfl ?_
  refine E_iconst (x := nI 1) at_X6_no_8 (by decide) ?_
  refine E_iadd (z := (fm.getD 1 0) + (nI 1)) at_X6_no_9 rfl ?_
  refine E_iasI (l := fm) (cs2 := (ww im lf s d k ls rf rz ra rn rq lt m1 m2 m3 m4 bd fc hd sz el t g (fm.set 1 ((fm.getD 1 0) + (nI 1))) hm so si sh ce ca td wa kp la bf oo bo pw ow tr)) at_X6_no_10 w66 (by omega) (by omega) rfl ?_
  refine E_iload_n at_X6_no_11 rfl ?_
  exact E_iret at_X6_no_12 rfl
theorem L9_X4_isWish {x0 : Int32} (h0 : x0.toInt < 0) (h1 : x0.toInt < 0) : Ev ab_Z0 1 47 [.int x0] (ww im lf s d k ls rf rz ra rn rq lt m1 m2 m3 m4 bd fc hd sz el t g fm hm so si sh ce ca td wa kp la bf oo bo pw ow tr) (some (.int (nI 0)), (ww im lf s d k ls rf rz ra rn rq lt m1 m2 m3 m4 bd fc hd sz el t g fm hm so si sh ce ca td wa kp la bf oo bo pw ow tr)) := by
  refine Ef.in (md := mX4_isWish) (L := [some (.int x0)]) rfl (Nat.le_of_ble_eq_true rfl) rfl ?_
  refine E_iload_n rfl rfl ?_
  refine E_if (t := 14) (b := true) rfl rfl ((cn_lt rfl (by decide : (0 : Int32).toInt = 0)).trans (decide_eq_true (by omega))) ?_
  refine E_iconst (x := nI 0) rfl (by decide) ?_
  exact E_iret rfl rfl
theorem L10_X6_isFrom {x1 : Int32} (h0 : x1.toInt < 0) (h1 : x1.toInt < 0) : Ev ab_Z0 1 134 [.ref 65, .int x1, .int (nI 0), .int (nI 7)] (ww im lf s d k ls rf rz ra rn rq lt m1 m2 m3 m4 bd fc hd sz el t g fm hm so si sh ce ca td wa kp la bf oo bo pw ow tr) (some (.int (nI 0)), (ww im lf s d k ls rf rz ra rn rq lt m1 m2 m3 m4 bd fc hd sz el t g fm hm so si sh ce ca td wa kp la bf oo bo pw ow tr)) := by
  refine Ef.in (md := mX6_isFrom) (L := [some (.ref 65), some (.int x1), some (.int (nI 0)), some (.int (nI 7))]) rfl (Nat.le_of_ble_eq_true rfl) rfl ?_
  refine E_iload_n at_X6_isFrom_0 rfl ?_
  refine E_iload_n at_X6_isFrom_1 rfl ?_
  refine E_ic (t := 14) (b := true) at_X6_isFrom_2 rfl ((cn_lt rfl (nI_toInt (by omega))).trans (decide_eq_true (by omega))) ?_
  refine E_iconst (x := nI 0) at_X6_isFrom_14 (by decide) ?_
  exact E_iret at_X6_isFrom_15 rfl
theorem L11_X4_isPerson {x1 : Nat} (h0 : x1 < 2147483648) (h1 : ¬ (x1 < 0)) (h2 : ¬ (x1 < (qM s))) (h3 : qM s ≤ 6) : Ev ab_Z0 1 51 [.ref 1, .int (nI x1)] (ww im lf s d k ls rf rz ra rn rq lt m1 m2 m3 m4 bd fc hd sz el t g fm hm so si sh ce ca td wa kp la bf oo bo pw ow tr) (some (.int (nI 0)), (ww im lf s d k ls rf rz ra rn rq lt m1 m2 m3 m4 bd fc hd sz el t g fm hm so si sh ce ca td wa kp la bf oo bo pw ow tr)) := by
  refine Ef.in (md := mX4_isPerson) (L := [some (.ref 1), some (.int (nI x1))]) rfl (Nat.le_of_ble_eq_true rfl) rfl ?_
  refine E_iload_n at_X4_isPerson_0 rfl ?_
  refine E_if (t := 16) (b := false) at_X4_isPerson_1 rfl ((cn_lt (nI_toInt (by omega)) (by decide : (0 : Int32).toInt = 0)).trans (decide_eq_false (by omega))) ?_
  refine E_iload_n at_X4_isPerson_4 rfl ?_
  refine E_aload_n at_X4_isPerson_5 rfl ?_
  refine E_getfield (v := .int (nI (qM s))) at_X4_isPerson_6 w1 rfl (by decide) rfl ?_
  refine E_ic (t := 16) (b := true) at_X4_isPerson_9 rfl ((cn_ge (nI_toInt (by omega)) (nI_toInt (by omega))).trans (decide_eq_true (by omega))) ?_
  refine E_iconst (x := nI 0) at_X4_isPerson_16 (by decide) ?_
  exact E_iret at_X4_isPerson_17 rfl
theorem L12_X6_isOne {x1 : Nat} (h0 : x1 < 2147483648) (h1 : ¬ (x1 < 0)) (h2 : ¬ (x1 < (qM t))) (h3 : qM t ≤ 6) : Ev ab_Z0 1 133 [.ref 65, .int (nI x1)] (ww im lf s d k ls rf rz ra rn rq lt m1 m2 m3 m4 bd fc hd sz el t g fm hm so si sh ce ca td wa kp la bf oo bo pw ow tr) (some (.int (nI 0)), (ww im lf s d k ls rf rz ra rn rq lt m1 m2 m3 m4 bd fc hd sz el t g fm hm so si sh ce ca td wa kp la bf oo bo pw ow tr)) := by
  refine Ef.in (md := mX6_isOne) (L := [some (.ref 65), some (.int (nI x1))]) rfl (Nat.le_of_ble_eq_true rfl) rfl ?_
  refine E_iload_n at_X6_isOne_0 rfl ?_
  refine E_if (t := 16) (b := false) at_X6_isOne_1 rfl ((cn_lt (nI_toInt (by omega)) (by decide : (0 : Int32).toInt = 0)).trans (decide_eq_false (by omega))) ?_
  refine E_iload_n at_X6_isOne_4 rfl ?_
  refine E_aload_n at_X6_isOne_5 rfl ?_
  refine E_getfield (v := .int (nI (qM t))) at_X6_isOne_6 w65 rfl (by decide) rfl ?_
  refine E_ic (t := 16) (b := true) at_X6_isOne_9 rfl ((cn_ge (nI_toInt (by omega)) (nI_toInt (by omega))).trans (decide_eq_true (by omega))) ?_
  refine E_iconst (x := nI 0) at_X6_isOne_16 (by decide) ?_
  exact E_iret at_X6_isOne_17 rfl
theorem L13_X4_isPerson {x1 : Int32} (h0 : x1.toInt < 0) (h1 : x1.toInt < 0) : Ev ab_Z0 1 51 [.ref 1, .int x1] (ww im lf s d k ls rf rz ra rn rq lt m1 m2 m3 m4 bd fc hd sz el t g fm hm so si sh ce ca td wa kp la bf oo bo pw ow tr) (some (.int (nI 0)), (ww im lf s d k ls rf rz ra rn rq lt m1 m2 m3 m4 bd fc hd sz el t g fm hm so si sh ce ca td wa kp la bf oo bo pw ow tr)) := by
  refine Ef.in (md := mX4_isPerson) (L := [some (.ref 1), some (.int x1)]) rfl (Nat.le_of_ble_eq_true rfl) rfl ?_
  refine E_iload_n at_X4_isPerson_0 rfl ?_
  refine E_if (t := 16) (b := true) at_X4_isPerson_1 rfl ((cn_lt rfl (by decide : (0 : Int32).toInt = 0)).trans (decide_eq_true (by omega))) ?_
  refine E_iconst (x := nI 0) at_X4_isPerson_16 (by decide) ?_
  exact E_iret at_X4_isPerson_17 rfl
theorem L14_X6_isOne {x1 : Int32} (h0 : x1.toInt < 0) (h1 : x1.toInt < 0) : Ev ab_Z0 1 133 [.ref 65, .int x1] (ww im lf s d k ls rf rz ra rn rq lt m1 m2 m3 m4 bd fc hd sz el t g fm hm so si sh ce ca td wa kp la bf oo bo pw ow tr) (some (.int (nI 0)), (ww im lf s d k ls rf rz ra rn rq lt m1 m2 m3 m4 bd fc hd sz el t g fm hm so si sh ce ca td wa kp la bf oo bo pw ow tr)) := by
  refine Ef.in (md := mX6_isOne) (L := [some (.ref 65), some (.int x1)]) rfl (Nat.le_of_ble_eq_true rfl) rfl ?_
  refine E_iload_n at_X6_isOne_0 rfl ?_
  refine E_if (t := 16) (b := true) at_X6_isOne_1 rfl ((cn_lt rfl (by decide : (0 : Int32).toInt = 0)).trans (decide_eq_true (by omega))) ?_
  refine E_iconst (x := nI 0) at_X6_isOne_16 (by decide) ?_
  exact E_iret at_X6_isOne_17 rfl
end LM
set_option maxHeartbeats 4000000 in
theorem op_price (x : St) (hx : wI x) (a1 : Int32) (a2 : Int32) : ∃ (r : Int32) (x1 x2 : St), Ev ab_Z0 4 92 [.ref 0, .int a1, .int a2] (wt x) (some (.int r), wt x1) ∧ Ev ab_Z0 2 175 [.ref 65, .int a1, .int a2] (wt x1) (some (.int r), wt x2) ∧ wI x2 := by
  obtain ⟨im, lf, s, d, k, ls, rf, rz, ra, rn, rq, lt, m1, m2, m3, m4, bd, fc, hd, sz, el, t, g, fm, hm, so, si, sh, ce, ca, td, wa, kp, la, bf, oo, bo, pw, ow, tr⟩ := x
  obtain ⟨I, ts, hf, iQ, iM, iT, iS, l_el, lr⟩ := hx
  replace lr : Hd _ := lr
  have l_fc := lr.2.2.2.1
  have l_fm := lr.2.2.2.2.1
  subst ts
  obtain ⟨⟨i0, i1, i2, i3⟩, ⟨i4, i5, i6, i7, i8⟩, ⟨i9, i10⟩, I1, I2, I3, I4⟩ := id I
  rcases ab_int a1 with ⟨a1k, f0, rfl⟩ | f0
  · by_cases f1 : a1k < (qM s)
    · rcases ab_int a2 with ⟨a2k, f2, rfl⟩ | f2
      · by_cases f3 : a2k < 8
        · have := qPr_in I a1k (w := a2k) (by omega)
          refine ⟨(nI (qPr s a1k a2k)), (im, lf, s, d, k, ls, rf, rz, ra, rn, rq, lt, m1, m2, m3, m4, bd, fc, hd, sz, el, s, g, fm, hm, so, si, sh, ce, ca, td, wa, kp, la, bf, oo, bo, pw, ow, tr), (im, lf, s, d, k, ls, rf, rz, ra, rn, rq, lt, m1, m2, m3, m4, bd, fc, hd, sz, el, s, g, fm, hm, so, si, sh, ce, ca, td, wa, kp, la, bf, oo, bo, pw, ow, tr), ?_, ?_, ?_⟩
          · show Ev ab_Z0 4 92 [.ref 0, .int (nI a1k), .int (nI a2k)] (ww im lf s d k ls rf rz ra rn rq lt m1 m2 m3 m4 bd fc hd sz el s g fm hm so si sh ce ca td wa kp la bf oo bo pw ow tr) (some (.int (nI (qPr s a1k a2k))), (ww im lf s d k ls rf rz ra rn rq lt m1 m2 m3 m4 bd fc hd sz el s g fm hm so si sh ce ca td wa kp la bf oo bo pw ow tr))
            refine Ef.in (md := mX5_price) (L := [some (.ref 0), some (.int (nI a1k)), some (.int (nI a2k))]) rfl (Nat.le_of_ble_eq_true rfl) rfl ?_
            refine E_aload_n at_X5_price_0 rfl ?_
            refine E_getfield (v := .ref 1) at_X5_price_1 w0 rfl (by decide) rfl ?_
            refine E_iload_n at_X5_price_4 rfl ?_
            refine E_callV (v := some (.int (nI 1))) (As := [.ref 1, .int (nI a1k)]) (r0 := []) (cs2 := (ww im lf s d k ls rf rz ra rn rq lt m1 m2 m3 m4 bd fc hd sz el s g fm hm so si sh ce ca td wa kp la bf oo bo pw ow tr)) at_X5_price_5 rfl rfl (Nat.le_of_ble_eq_true rfl) rfl (ab_rvOf w1 rfl) (L0_X4_isPerson (by omega) (by omega) (by omega) (by omega)) (by decide) rfl ?_
            refine E_if (t := 18) (b := false) at_X5_price_8 rfl (by decide) ?_
            refine E_iload_n rfl rfl ?_
            refine E_callS (v := some (.int (nI 1))) (As := [.int (nI a2k)]) (r0 := []) (cs2 := (ww im lf s d k ls rf rz ra rn rq lt m1 m2 m3 m4 bd fc hd sz el s g fm hm so si sh ce ca td wa kp la bf oo bo pw ow tr)) rfl rfl rfl (Nat.le_of_ble_eq_true rfl) rfl (L1_X4_isWish (by omega) (by omega) (by omega)) (by decide) rfl ?_
            refine E_if (t := 24) (b := true) rfl rfl (by decide) ?_
            refine E_aload_n rfl rfl ?_
            refine E_getfield (v := .ref 1) rfl w0 rfl (by decide) rfl ?_
            refine E_iload_n rfl rfl ?_
            refine E_iload_n rfl rfl ?_
            refine E_callV (v := some (.int (nI (qPr s a1k a2k)))) (As := [.ref 1, .int (nI a1k), .int (nI a2k)]) (r0 := []) (cs2 := (ww im lf s d k ls rf rz ra rn rq lt m1 m2 m3 m4 bd fc hd sz el s g fm hm so si sh ce ca td wa kp la bf oo bo pw ow tr)) rfl rfl rfl (Nat.le_of_ble_eq_true rfl) rfl (ab_rvOf w1 rfl) (sq_priceFor w_q1 I (by omega) (by omega)) (by decide) rfl ?_
            exact E_iret rfl rfl
          · show Ev ab_Z0 2 175 [.ref 65, .int (nI a1k), .int (nI a2k)] (ww im lf s d k ls rf rz ra rn rq lt m1 m2 m3 m4 bd fc hd sz el s g fm hm so si sh ce ca td wa kp la bf oo bo pw ow tr) (some (.int (nI (qPr s a1k a2k))), (ww im lf s d k ls rf rz ra rn rq lt m1 m2 m3 m4 bd fc hd sz el s g fm hm so si sh ce ca td wa kp la bf oo bo pw ow tr))
            refine Ef.in (md := mX6_price) (L := [some (.ref 65), some (.int (nI a1k)), some (.int (nI a2k))]) rfl (Nat.le_of_ble_eq_true rfl) rfl ?_
            refine E_aload_n at_X6_price_0 rfl ?_
            refine E_iload_n at_X6_price_1 rfl ?_
            refine E_callV (v := some (.int (nI 1))) (As := [.ref 65, .int (nI a1k)]) (r0 := []) (cs2 := (ww im lf s d k ls rf rz ra rn rq lt m1 m2 m3 m4 bd fc hd sz el s g fm hm so si sh ce ca td wa kp la bf oo bo pw ow tr)) at_X6_price_2 rfl rfl (Nat.le_of_ble_eq_true rfl) rfl (ab_rvOf w65 rfl) (L2_X6_isOne (by omega) (by omega) (by omega) (by omega)) (by decide) rfl ?_
            refine E_if (t := 28) (b := false) at_X6_price_5 rfl (by decide) ?_
            refine E_aload_n rfl rfl ?_
            refine E_iload_n rfl rfl ?_
            refine E_iconst (x := nI 0) rfl (by decide) ?_
            refine E_bipush (x := nI 7) rfl (by decide) ?_
            refine E_callV (v := some (.int (nI 1))) (As := [.ref 65, .int (nI a2k), .int (nI 0), .int (nI 7)]) (r0 := []) (cs2 := (ww im lf s d k ls rf rz ra rn rq lt m1 m2 m3 m4 bd fc hd sz el s g fm hm so si sh ce ca td wa kp la bf oo bo pw ow tr)) rfl rfl rfl (Nat.le_of_ble_eq_true rfl) rfl (ab_rvOf w65 rfl) (L3_X6_isFrom (by omega) (by omega) (by omega)) (by decide) rfl ?_
            refine E_if (t := 28) (b := false) rfl rfl (by decide) ?_
            refine E_aload_n rfl rfl ?_
            refine E_iload_n rfl rfl ?_
            refine E_iload_n rfl rfl ?_
            refine E_callV (v := some (.int (nI (qPr s a1k a2k)))) (As := [.ref 65, .int (nI a1k), .int (nI a2k)]) (r0 := []) (cs2 := (ww im lf s d k ls rf rz ra rn rq lt m1 m2 m3 m4 bd fc hd sz el s g fm hm so si sh ce ca td wa kp la bf oo bo pw ow tr)) rfl rfl rfl (Nat.le_of_ble_eq_true rfl) rfl (ab_rvOf w65 rfl) (mo_priceFor w_m I (by omega) (by omega)) (by decide) rfl ?_
            refine E_goto (t := 33) rfl rfl ?_
            exact E_iret at_X6_price_33 rfl
          · exact ⟨I, rfl, hf, iQ, iM, iT, iS, l_el, (lr.1), (lr.2.1), (lr.2.2.1), (lr.2.2.2.1), (lr.2.2.2.2.1), (lr.2.2.2.2.2.1), (lr.2.2.2.2.2.2.1), (lr.2.2.2.2.2.2.2.1), (lr.2.2.2.2.2.2.2.2.1), (lr.2.2.2.2.2.2.2.2.2.1), (lr.2.2.2.2.2.2.2.2.2.2.1), (lr.2.2.2.2.2.2.2.2.2.2.2.1), (lr.2.2.2.2.2.2.2.2.2.2.2.2.1), (lr.2.2.2.2.2.2.2.2.2.2.2.2.2.1), (lr.2.2.2.2.2.2.2.2.2.2.2.2.2.2.1), (lr.2.2.2.2.2.2.2.2.2.2.2.2.2.2.2.1), (lr.2.2.2.2.2.2.2.2.2.2.2.2.2.2.2.2.1), (lr.2.2.2.2.2.2.2.2.2.2.2.2.2.2.2.2.2.1), (lr.2.2.2.2.2.2.2.2.2.2.2.2.2.2.2.2.2.2.1), (lr.2.2.2.2.2.2.2.2.2.2.2.2.2.2.2.2.2.2.2.1), (lr.2.2.2.2.2.2.2.2.2.2.2.2.2.2.2.2.2.2.2.2)⟩
        · refine ⟨(-1), (im, lf, s, d, k, ls, rf, rz, ra, rn, rq, lt, m1, m2, m3, m4, bd, (fc.set 1 ((fc.getD 1 0) + (nI 1))), hd, sz, el, s, g, fm, hm, so, si, sh, ce, ca, td, wa, kp, la, bf, oo, bo, pw, ow, tr), (im, lf, s, d, k, ls, rf, rz, ra, rn, rq, lt, m1, m2, m3, m4, bd, (fc.set 1 ((fc.getD 1 0) + (nI 1))), hd, sz, el, s, g, (fm.set 1 ((fm.getD 1 0) + (nI 1))), hm, so, si, sh, ce, ca, td, wa, kp, la, bf, oo, bo, pw, ow, tr), ?_, ?_, ?_⟩
          · show Ev ab_Z0 4 92 [.ref 0, .int (nI a1k), .int (nI a2k)] (ww im lf s d k ls rf rz ra rn rq lt m1 m2 m3 m4 bd fc hd sz el s g fm hm so si sh ce ca td wa kp la bf oo bo pw ow tr) (some (.int (-1)), (ww im lf s d k ls rf rz ra rn rq lt m1 m2 m3 m4 bd (fc.set 1 ((fc.getD 1 0) + (nI 1))) hd sz el s g fm hm so si sh ce ca td wa kp la bf oo bo pw ow tr))
            refine Ef.in (md := mX5_price) (L := [some (.ref 0), some (.int (nI a1k)), some (.int (nI a2k))]) rfl (Nat.le_of_ble_eq_true rfl) rfl ?_
            refine E_aload_n at_X5_price_0 rfl ?_
            refine E_getfield (v := .ref 1) at_X5_price_1 w0 rfl (by decide) rfl ?_
            refine E_iload_n at_X5_price_4 rfl ?_
            refine E_callV (v := some (.int (nI 1))) (As := [.ref 1, .int (nI a1k)]) (r0 := []) (cs2 := (ww im lf s d k ls rf rz ra rn rq lt m1 m2 m3 m4 bd fc hd sz el s g fm hm so si sh ce ca td wa kp la bf oo bo pw ow tr)) at_X5_price_5 rfl rfl (Nat.le_of_ble_eq_true rfl) rfl (ab_rvOf w1 rfl) (L0_X4_isPerson (by omega) (by omega) (by omega) (by omega)) (by decide) rfl ?_
            refine E_if (t := 18) (b := false) at_X5_price_8 rfl (by decide) ?_
            refine E_iload_n rfl rfl ?_
            refine E_callS (v := some (.int (nI 0))) (As := [.int (nI a2k)]) (r0 := []) (cs2 := (ww im lf s d k ls rf rz ra rn rq lt m1 m2 m3 m4 bd fc hd sz el s g fm hm so si sh ce ca td wa kp la bf oo bo pw ow tr)) rfl rfl rfl (Nat.le_of_ble_eq_true rfl) rfl (L4_X4_isWish (by omega) (by omega) (by omega)) (by decide) rfl ?_
            refine E_if (t := 24) (b := false) rfl rfl (by decide) ?_
            refine E_aload_n at_X5_price_18 rfl ?_
            refine E_iconst (x := nI 1) at_X5_price_19 (by decide) ?_
            refine E_callV (v := some (.int (-1))) (As := [.ref 0, .int (nI 1)]) (r0 := []) (cs2 := (ww im lf s d k ls rf rz ra rn rq lt m1 m2 m3 m4 bd (fc.set 1 ((fc.getD 1 0) + (nI 1))) hd sz el s g fm hm so si sh ce ca td wa kp la bf oo bo pw ow tr)) at_X5_price_20 rfl rfl (Nat.le_of_ble_eq_true rfl) rfl (ab_rvOf w0 rfl) (L6_X5_refuse (by omega)) (by decide) w_lens ?_
            exact E_iret at_X5_price_23 rfl
          · show Ev ab_Z0 2 175 [.ref 65, .int (nI a1k), .int (nI a2k)] (ww im lf s d k ls rf rz ra rn rq lt m1 m2 m3 m4 bd (fc.set 1 ((fc.getD 1 0) + (nI 1))) hd sz el s g fm hm so si sh ce ca td wa kp la bf oo bo pw ow tr) (some (.int (-1)), (ww im lf s d k ls rf rz ra rn rq lt m1 m2 m3 m4 bd (fc.set 1 ((fc.getD 1 0) + (nI 1))) hd sz el s g (fm.set 1 ((fm.getD 1 0) + (nI 1))) hm so si sh ce ca td wa kp la bf oo bo pw ow tr))
            refine Ef.in (md := mX6_price) (L := [some (.ref 65), some (.int (nI a1k)), some (.int (nI a2k))]) rfl (Nat.le_of_ble_eq_true rfl) rfl ?_
            refine E_aload_n at_X6_price_0 rfl ?_
            refine E_iload_n at_X6_price_1 rfl ?_
            refine E_callV (v := some (.int (nI 1))) (As := [.ref 65, .int (nI a1k)]) (r0 := []) (cs2 := (ww im lf s d k ls rf rz ra rn rq lt m1 m2 m3 m4 bd (fc.set 1 ((fc.getD 1 0) + (nI 1))) hd sz el s g fm hm so si sh ce ca td wa kp la bf oo bo pw ow tr)) at_X6_price_2 rfl rfl (Nat.le_of_ble_eq_true rfl) rfl (ab_rvOf w65 rfl) (L2_X6_isOne (by omega) (by omega) (by omega) (by omega)) (by decide) rfl ?_
            refine E_if (t := 28) (b := false) at_X6_price_5 rfl (by decide) ?_
            refine E_aload_n rfl rfl ?_
            refine E_iload_n rfl rfl ?_
            refine E_iconst (x := nI 0) rfl (by decide) ?_
            refine E_bipush (x := nI 7) rfl (by decide) ?_
            refine E_callV (v := some (.int (nI 0))) (As := [.ref 65, .int (nI a2k), .int (nI 0), .int (nI 7)]) (r0 := []) (cs2 := (ww im lf s d k ls rf rz ra rn rq lt m1 m2 m3 m4 bd (fc.set 1 ((fc.getD 1 0) + (nI 1))) hd sz el s g fm hm so si sh ce ca td wa kp la bf oo bo pw ow tr)) rfl rfl rfl (Nat.le_of_ble_eq_true rfl) rfl (ab_rvOf w65 rfl) (L7_X6_isFrom (by omega) (by omega) (by omega)) (by decide) rfl ?_
            refine E_if (t := 28) (b := true) rfl rfl (by decide) ?_
            refine E_aload_n at_X6_price_28 rfl ?_
            refine E_iconst (x := (-1)) at_X6_price_29 (by decide) ?_
            refine E_callV (v := some (.int (-1))) (As := [.ref 65, .int (-1)]) (r0 := []) (cs2 := (ww im lf s d k ls rf rz ra rn rq lt m1 m2 m3 m4 bd (fc.set 1 ((fc.getD 1 0) + (nI 1))) hd sz el s g (fm.set 1 ((fm.getD 1 0) + (nI 1))) hm so si sh ce ca td wa kp la bf oo bo pw ow tr)) at_X6_price_30 rfl rfl (Nat.le_of_ble_eq_true rfl) rfl (ab_rvOf w65 rfl) (L8_X6_no (by omega)) (by decide) w_lens ?_
            exact E_iret at_X6_price_33 rfl
          · exact ⟨I, rfl, hf, iQ, iM, iT, iS, l_el, (lr.1), (lr.2.1), (lr.2.2.1), (by simp only [List.length_set]; exact (lr.2.2.2.1)), (by simp only [List.length_set]; exact (lr.2.2.2.2.1)), (lr.2.2.2.2.2.1), (lr.2.2.2.2.2.2.1), (lr.2.2.2.2.2.2.2.1), (lr.2.2.2.2.2.2.2.2.1), (lr.2.2.2.2.2.2.2.2.2.1), (lr.2.2.2.2.2.2.2.2.2.2.1), (lr.2.2.2.2.2.2.2.2.2.2.2.1), (lr.2.2.2.2.2.2.2.2.2.2.2.2.1), (lr.2.2.2.2.2.2.2.2.2.2.2.2.2.1), (lr.2.2.2.2.2.2.2.2.2.2.2.2.2.2.1), (lr.2.2.2.2.2.2.2.2.2.2.2.2.2.2.2.1), (lr.2.2.2.2.2.2.2.2.2.2.2.2.2.2.2.2.1), (lr.2.2.2.2.2.2.2.2.2.2.2.2.2.2.2.2.2.1), (lr.2.2.2.2.2.2.2.2.2.2.2.2.2.2.2.2.2.2.1), (lr.2.2.2.2.2.2.2.2.2.2.2.2.2.2.2.2.2.2.2.1), (lr.2.2.2.2.2.2.2.2.2.2.2.2.2.2.2.2.2.2.2.2)⟩
      · refine ⟨(-1), (im, lf, s, d, k, ls, rf, rz, ra, rn, rq, lt, m1, m2, m3, m4, bd, (fc.set 1 ((fc.getD 1 0) + (nI 1))), hd, sz, el, s, g, fm, hm, so, si, sh, ce, ca, td, wa, kp, la, bf, oo, bo, pw, ow, tr), (im, lf, s, d, k, ls, rf, rz, ra, rn, rq, lt, m1, m2, m3, m4, bd, (fc.set 1 ((fc.getD 1 0) + (nI 1))), hd, sz, el, s, g, (fm.set 1 ((fm.getD 1 0) + (nI 1))), hm, so, si, sh, ce, ca, td, wa, kp, la, bf, oo, bo, pw, ow, tr), ?_, ?_, ?_⟩
        · show Ev ab_Z0 4 92 [.ref 0, .int (nI a1k), .int a2] (ww im lf s d k ls rf rz ra rn rq lt m1 m2 m3 m4 bd fc hd sz el s g fm hm so si sh ce ca td wa kp la bf oo bo pw ow tr) (some (.int (-1)), (ww im lf s d k ls rf rz ra rn rq lt m1 m2 m3 m4 bd (fc.set 1 ((fc.getD 1 0) + (nI 1))) hd sz el s g fm hm so si sh ce ca td wa kp la bf oo bo pw ow tr))
          refine Ef.in (md := mX5_price) (L := [some (.ref 0), some (.int (nI a1k)), some (.int a2)]) rfl (Nat.le_of_ble_eq_true rfl) rfl ?_
          refine E_aload_n at_X5_price_0 rfl ?_
          refine E_getfield (v := .ref 1) at_X5_price_1 w0 rfl (by decide) rfl ?_
          refine E_iload_n at_X5_price_4 rfl ?_
          refine E_callV (v := some (.int (nI 1))) (As := [.ref 1, .int (nI a1k)]) (r0 := []) (cs2 := (ww im lf s d k ls rf rz ra rn rq lt m1 m2 m3 m4 bd fc hd sz el s g fm hm so si sh ce ca td wa kp la bf oo bo pw ow tr)) at_X5_price_5 rfl rfl (Nat.le_of_ble_eq_true rfl) rfl (ab_rvOf w1 rfl) (L0_X4_isPerson (by omega) (by omega) (by omega) (by omega)) (by decide) rfl ?_
          refine E_if (t := 18) (b := false) at_X5_price_8 rfl (by decide) ?_
          refine E_iload_n rfl rfl ?_
          refine E_callS (v := some (.int (nI 0))) (As := [.int a2]) (r0 := []) (cs2 := (ww im lf s d k ls rf rz ra rn rq lt m1 m2 m3 m4 bd fc hd sz el s g fm hm so si sh ce ca td wa kp la bf oo bo pw ow tr)) rfl rfl rfl (Nat.le_of_ble_eq_true rfl) rfl (L9_X4_isWish (by omega) (by omega)) (by decide) rfl ?_
          refine E_if (t := 24) (b := false) rfl rfl (by decide) ?_
          refine E_aload_n at_X5_price_18 rfl ?_
          refine E_iconst (x := nI 1) at_X5_price_19 (by decide) ?_
          refine E_callV (v := some (.int (-1))) (As := [.ref 0, .int (nI 1)]) (r0 := []) (cs2 := (ww im lf s d k ls rf rz ra rn rq lt m1 m2 m3 m4 bd (fc.set 1 ((fc.getD 1 0) + (nI 1))) hd sz el s g fm hm so si sh ce ca td wa kp la bf oo bo pw ow tr)) at_X5_price_20 rfl rfl (Nat.le_of_ble_eq_true rfl) rfl (ab_rvOf w0 rfl) (L6_X5_refuse (by omega)) (by decide) w_lens ?_
          exact E_iret at_X5_price_23 rfl
        · show Ev ab_Z0 2 175 [.ref 65, .int (nI a1k), .int a2] (ww im lf s d k ls rf rz ra rn rq lt m1 m2 m3 m4 bd (fc.set 1 ((fc.getD 1 0) + (nI 1))) hd sz el s g fm hm so si sh ce ca td wa kp la bf oo bo pw ow tr) (some (.int (-1)), (ww im lf s d k ls rf rz ra rn rq lt m1 m2 m3 m4 bd (fc.set 1 ((fc.getD 1 0) + (nI 1))) hd sz el s g (fm.set 1 ((fm.getD 1 0) + (nI 1))) hm so si sh ce ca td wa kp la bf oo bo pw ow tr))
          refine Ef.in (md := mX6_price) (L := [some (.ref 65), some (.int (nI a1k)), some (.int a2)]) rfl (Nat.le_of_ble_eq_true rfl) rfl ?_
          refine E_aload_n at_X6_price_0 rfl ?_
          refine E_iload_n at_X6_price_1 rfl ?_
          refine E_callV (v := some (.int (nI 1))) (As := [.ref 65, .int (nI a1k)]) (r0 := []) (cs2 := (ww im lf s d k ls rf rz ra rn rq lt m1 m2 m3 m4 bd (fc.set 1 ((fc.getD 1 0) + (nI 1))) hd sz el s g fm hm so si sh ce ca td wa kp la bf oo bo pw ow tr)) at_X6_price_2 rfl rfl (Nat.le_of_ble_eq_true rfl) rfl (ab_rvOf w65 rfl) (L2_X6_isOne (by omega) (by omega) (by omega) (by omega)) (by decide) rfl ?_
          refine E_if (t := 28) (b := false) at_X6_price_5 rfl (by decide) ?_
          refine E_aload_n rfl rfl ?_
          refine E_iload_n rfl rfl ?_
          refine E_iconst (x := nI 0) rfl (by decide) ?_
          refine E_bipush (x := nI 7) rfl (by decide) ?_
          refine E_callV (v := some (.int (nI 0))) (As := [.ref 65, .int a2, .int (nI 0), .int (nI 7)]) (r0 := []) (cs2 := (ww im lf s d k ls rf rz ra rn rq lt m1 m2 m3 m4 bd (fc.set 1 ((fc.getD 1 0) + (nI 1))) hd sz el s g fm hm so si sh ce ca td wa kp la bf oo bo pw ow tr)) rfl rfl rfl (Nat.le_of_ble_eq_true rfl) rfl (ab_rvOf w65 rfl) (L10_X6_isFrom (by omega) (by omega)) (by decide) rfl ?_
          refine E_if (t := 28) (b := true) rfl rfl (by decide) ?_
          refine E_aload_n at_X6_price_28 rfl ?_
          refine E_iconst (x := (-1)) at_X6_price_29 (by decide) ?_
          refine E_callV (v := some (.int (-1))) (As := [.ref 65, .int (-1)]) (r0 := []) (cs2 := (ww im lf s d k ls rf rz ra rn rq lt m1 m2 m3 m4 bd (fc.set 1 ((fc.getD 1 0) + (nI 1))) hd sz el s g (fm.set 1 ((fm.getD 1 0) + (nI 1))) hm so si sh ce ca td wa kp la bf oo bo pw ow tr)) at_X6_price_30 rfl rfl (Nat.le_of_ble_eq_true rfl) rfl (ab_rvOf w65 rfl) (L8_X6_no (by omega)) (by decide) w_lens ?_
          exact E_iret at_X6_price_33 rfl
        · exact ⟨I, rfl, hf, iQ, iM, iT, iS, l_el, (lr.1), (lr.2.1), (lr.2.2.1), (by simp only [List.length_set]; exact (lr.2.2.2.1)), (by simp only [List.length_set]; exact (lr.2.2.2.2.1)), (lr.2.2.2.2.2.1), (lr.2.2.2.2.2.2.1), (lr.2.2.2.2.2.2.2.1), (lr.2.2.2.2.2.2.2.2.1), (lr.2.2.2.2.2.2.2.2.2.1), (lr.2.2.2.2.2.2.2.2.2.2.1), (lr.2.2.2.2.2.2.2.2.2.2.2.1), (lr.2.2.2.2.2.2.2.2.2.2.2.2.1), (lr.2.2.2.2.2.2.2.2.2.2.2.2.2.1), (lr.2.2.2.2.2.2.2.2.2.2.2.2.2.2.1), (lr.2.2.2.2.2.2.2.2.2.2.2.2.2.2.2.1), (lr.2.2.2.2.2.2.2.2.2.2.2.2.2.2.2.2.1), (lr.2.2.2.2.2.2.2.2.2.2.2.2.2.2.2.2.2.1), (lr.2.2.2.2.2.2.2.2.2.2.2.2.2.2.2.2.2.2.1), (lr.2.2.2.2.2.2.2.2.2.2.2.2.2.2.2.2.2.2.2.1), (lr.2.2.2.2.2.2.2.2.2.2.2.2.2.2.2.2.2.2.2.2)⟩
    · refine ⟨(-1), (im, lf, s, d, k, ls, rf, rz, ra, rn, rq, lt, m1, m2, m3, m4, bd, (fc.set 1 ((fc.getD 1 0) + (nI 1))), hd, sz, el, s, g, fm, hm, so, si, sh, ce, ca, td, wa, kp, la, bf, oo, bo, pw, ow, tr), (im, lf, s, d, k, ls, rf, rz, ra, rn, rq, lt, m1, m2, m3, m4, bd, (fc.set 1 ((fc.getD 1 0) + (nI 1))), hd, sz, el, s, g, (fm.set 1 ((fm.getD 1 0) + (nI 1))), hm, so, si, sh, ce, ca, td, wa, kp, la, bf, oo, bo, pw, ow, tr), ?_, ?_, ?_⟩
      · show Ev ab_Z0 4 92 [.ref 0, .int (nI a1k), .int a2] (ww im lf s d k ls rf rz ra rn rq lt m1 m2 m3 m4 bd fc hd sz el s g fm hm so si sh ce ca td wa kp la bf oo bo pw ow tr) (some (.int (-1)), (ww im lf s d k ls rf rz ra rn rq lt m1 m2 m3 m4 bd (fc.set 1 ((fc.getD 1 0) + (nI 1))) hd sz el s g fm hm so si sh ce ca td wa kp la bf oo bo pw ow tr))
        refine Ef.in (md := mX5_price) (L := [some (.ref 0), some (.int (nI a1k)), some (.int a2)]) rfl (Nat.le_of_ble_eq_true rfl) rfl ?_
        refine E_aload_n at_X5_price_0 rfl ?_
        refine E_getfield (v := .ref 1) at_X5_price_1 w0 rfl (by decide) rfl ?_
        refine E_iload_n at_X5_price_4 rfl ?_
        refine E_callV (v := some (.int (nI 0))) (As := [.ref 1, .int (nI a1k)]) (r0 := []) (cs2 := (ww im lf s d k ls rf rz ra rn rq lt m1 m2 m3 m4 bd fc hd sz el s g fm hm so si sh ce ca td wa kp la bf oo bo pw ow tr)) at_X5_price_5 rfl rfl (Nat.le_of_ble_eq_true rfl) rfl (ab_rvOf w1 rfl) (L11_X4_isPerson (by omega) (by omega) (by omega) (by omega)) (by decide) rfl ?_
        refine E_if (t := 18) (b := true) at_X5_price_8 rfl (by decide) ?_
        refine E_aload_n at_X5_price_18 rfl ?_
        refine E_iconst (x := nI 1) at_X5_price_19 (by decide) ?_
        refine E_callV (v := some (.int (-1))) (As := [.ref 0, .int (nI 1)]) (r0 := []) (cs2 := (ww im lf s d k ls rf rz ra rn rq lt m1 m2 m3 m4 bd (fc.set 1 ((fc.getD 1 0) + (nI 1))) hd sz el s g fm hm so si sh ce ca td wa kp la bf oo bo pw ow tr)) at_X5_price_20 rfl rfl (Nat.le_of_ble_eq_true rfl) rfl (ab_rvOf w0 rfl) (L6_X5_refuse (by omega)) (by decide) w_lens ?_
        exact E_iret at_X5_price_23 rfl
      · show Ev ab_Z0 2 175 [.ref 65, .int (nI a1k), .int a2] (ww im lf s d k ls rf rz ra rn rq lt m1 m2 m3 m4 bd (fc.set 1 ((fc.getD 1 0) + (nI 1))) hd sz el s g fm hm so si sh ce ca td wa kp la bf oo bo pw ow tr) (some (.int (-1)), (ww im lf s d k ls rf rz ra rn rq lt m1 m2 m3 m4 bd (fc.set 1 ((fc.getD 1 0) + (nI 1))) hd sz el s g (fm.set 1 ((fm.getD 1 0) + (nI 1))) hm so si sh ce ca td wa kp la bf oo bo pw ow tr))
        refine Ef.in (md := mX6_price) (L := [some (.ref 65), some (.int (nI a1k)), some (.int a2)]) rfl (Nat.le_of_ble_eq_true rfl) rfl ?_
        refine E_aload_n at_X6_price_0 rfl ?_
        refine E_iload_n at_X6_price_1 rfl ?_
        refine E_callV (v := some (.int (nI 0))) (As := [.ref 65, .int (nI a1k)]) (r0 := []) (cs2 := (ww im lf s d k ls rf rz ra rn rq lt m1 m2 m3 m4 bd (fc.set 1 ((fc.getD 1 0) + (nI 1))) hd sz el s g fm hm so si sh ce ca td wa kp la bf oo bo pw ow tr)) at_X6_price_2 rfl rfl (Nat.le_of_ble_eq_true rfl) rfl (ab_rvOf w65 rfl) (L12_X6_isOne (by omega) (by omega) (by omega) (by omega)) (by decide) rfl ?_
        refine E_if (t := 28) (b := true) at_X6_price_5 rfl (by decide) ?_
        refine E_aload_n at_X6_price_28 rfl ?_
        refine E_iconst (x := (-1)) at_X6_price_29 (by decide) ?_
        refine E_callV (v := some (.int (-1))) (As := [.ref 65, .int (-1)]) (r0 := []) (cs2 := (ww im lf s d k ls rf rz ra rn rq lt m1 m2 m3 m4 bd (fc.set 1 ((fc.getD 1 0) + (nI 1))) hd sz el s g (fm.set 1 ((fm.getD 1 0) + (nI 1))) hm so si sh ce ca td wa kp la bf oo bo pw ow tr)) at_X6_price_30 rfl rfl (Nat.le_of_ble_eq_true rfl) rfl (ab_rvOf w65 rfl) (L8_X6_no (by omega)) (by decide) w_lens ?_
        exact E_iret at_X6_price_33 rfl
      · exact ⟨I, rfl, hf, iQ, iM, iT, iS, l_el, (lr.1), (lr.2.1), (lr.2.2.1), (by simp only [List.length_set]; exact (lr.2.2.2.1)), (by simp only [List.length_set]; exact (lr.2.2.2.2.1)), (lr.2.2.2.2.2.1), (lr.2.2.2.2.2.2.1), (lr.2.2.2.2.2.2.2.1), (lr.2.2.2.2.2.2.2.2.1), (lr.2.2.2.2.2.2.2.2.2.1), (lr.2.2.2.2.2.2.2.2.2.2.1), (lr.2.2.2.2.2.2.2.2.2.2.2.1), (lr.2.2.2.2.2.2.2.2.2.2.2.2.1), (lr.2.2.2.2.2.2.2.2.2.2.2.2.2.1), (lr.2.2.2.2.2.2.2.2.2.2.2.2.2.2.1), (lr.2.2.2.2.2.2.2.2.2.2.2.2.2.2.2.1), (lr.2.2.2.2.2.2.2.2.2.2.2.2.2.2.2.2.1), (lr.2.2.2.2.2.2.2.2.2.2.2.2.2.2.2.2.2.1), (lr.2.2.2.2.2.2.2.2.2.2.2.2.2.2.2.2.2.2.1), (lr.2.2.2.2.2.2.2.2.2.2.2.2.2.2.2.2.2.2.2.1), (lr.2.2.2.2.2.2.2.2.2.2.2.2.2.2.2.2.2.2.2.2)⟩
  · refine ⟨(-1), (im, lf, s, d, k, ls, rf, rz, ra, rn, rq, lt, m1, m2, m3, m4, bd, (fc.set 1 ((fc.getD 1 0) + (nI 1))), hd, sz, el, s, g, fm, hm, so, si, sh, ce, ca, td, wa, kp, la, bf, oo, bo, pw, ow, tr), (im, lf, s, d, k, ls, rf, rz, ra, rn, rq, lt, m1, m2, m3, m4, bd, (fc.set 1 ((fc.getD 1 0) + (nI 1))), hd, sz, el, s, g, (fm.set 1 ((fm.getD 1 0) + (nI 1))), hm, so, si, sh, ce, ca, td, wa, kp, la, bf, oo, bo, pw, ow, tr), ?_, ?_, ?_⟩
    · show Ev ab_Z0 4 92 [.ref 0, .int a1, .int a2] (ww im lf s d k ls rf rz ra rn rq lt m1 m2 m3 m4 bd fc hd sz el s g fm hm so si sh ce ca td wa kp la bf oo bo pw ow tr) (some (.int (-1)), (ww im lf s d k ls rf rz ra rn rq lt m1 m2 m3 m4 bd (fc.set 1 ((fc.getD 1 0) + (nI 1))) hd sz el s g fm hm so si sh ce ca td wa kp la bf oo bo pw ow tr))
      refine Ef.in (md := mX5_price) (L := [some (.ref 0), some (.int a1), some (.int a2)]) rfl (Nat.le_of_ble_eq_true rfl) rfl ?_
      refine E_aload_n at_X5_price_0 rfl ?_
      refine E_getfield (v := .ref 1) at_X5_price_1 w0 rfl (by decide) rfl ?_
      refine E_iload_n at_X5_price_4 rfl ?_
      refine E_callV (v := some (.int (nI 0))) (As := [.ref 1, .int a1]) (r0 := []) (cs2 := (ww im lf s d k ls rf rz ra rn rq lt m1 m2 m3 m4 bd fc hd sz el s g fm hm so si sh ce ca td wa kp la bf oo bo pw ow tr)) at_X5_price_5 rfl rfl (Nat.le_of_ble_eq_true rfl) rfl (ab_rvOf w1 rfl) (L13_X4_isPerson (by omega) (by omega)) (by decide) rfl ?_
      refine E_if (t := 18) (b := true) at_X5_price_8 rfl (by decide) ?_
      refine E_aload_n at_X5_price_18 rfl ?_
      refine E_iconst (x := nI 1) at_X5_price_19 (by decide) ?_
      refine E_callV (v := some (.int (-1))) (As := [.ref 0, .int (nI 1)]) (r0 := []) (cs2 := (ww im lf s d k ls rf rz ra rn rq lt m1 m2 m3 m4 bd (fc.set 1 ((fc.getD 1 0) + (nI 1))) hd sz el s g fm hm so si sh ce ca td wa kp la bf oo bo pw ow tr)) at_X5_price_20 rfl rfl (Nat.le_of_ble_eq_true rfl) rfl (ab_rvOf w0 rfl) (L6_X5_refuse (by omega)) (by decide) w_lens ?_
      exact E_iret at_X5_price_23 rfl
    · show Ev ab_Z0 2 175 [.ref 65, .int a1, .int a2] (ww im lf s d k ls rf rz ra rn rq lt m1 m2 m3 m4 bd (fc.set 1 ((fc.getD 1 0) + (nI 1))) hd sz el s g fm hm so si sh ce ca td wa kp la bf oo bo pw ow tr) (some (.int (-1)), (ww im lf s d k ls rf rz ra rn rq lt m1 m2 m3 m4 bd (fc.set 1 ((fc.getD 1 0) + (nI 1))) hd sz el s g (fm.set 1 ((fm.getD 1 0) + (nI 1))) hm so si sh ce ca td wa kp la bf oo bo pw ow tr))
      refine Ef.in (md := mX6_price) (L := [some (.ref 65), some (.int a1), some (.int a2)]) rfl (Nat.le_of_ble_eq_true rfl) rfl ?_
      refine E_aload_n at_X6_price_0 rfl ?_
      refine E_iload_n at_X6_price_1 rfl ?_
      refine E_callV (v := some (.int (nI 0))) (As := [.ref 65, .int a1]) (r0 := []) (cs2 := (ww im lf s d k ls rf rz ra rn rq lt m1 m2 m3 m4 bd (fc.set 1 ((fc.getD 1 0) + (nI 1))) hd sz el s g fm hm so si sh ce ca td wa kp la bf oo bo pw ow tr)) at_X6_price_2 rfl rfl (Nat.le_of_ble_eq_true rfl) rfl (ab_rvOf w65 rfl) (L14_X6_isOne (by omega) (by omega)) (by decide) rfl ?_
      refine E_if (t := 28) (b := true) at_X6_price_5 rfl (by decide) ?_
      refine E_aload_n at_X6_price_28 rfl ?_
      refine E_iconst (x := (-1)) at_X6_price_29 (by decide) ?_
      refine E_callV (v := some (.int (-1))) (As := [.ref 65, .int (-1)]) (r0 := []) (cs2 := (ww im lf s d k ls rf rz ra rn rq lt m1 m2 m3 m4 bd (fc.set 1 ((fc.getD 1 0) + (nI 1))) hd sz el s g (fm.set 1 ((fm.getD 1 0) + (nI 1))) hm so si sh ce ca td wa kp la bf oo bo pw ow tr)) at_X6_price_30 rfl rfl (Nat.le_of_ble_eq_true rfl) rfl (ab_rvOf w65 rfl) (L8_X6_no (by omega)) (by decide) w_lens ?_
      exact E_iret at_X6_price_33 rfl
    · exact ⟨I, rfl, hf, iQ, iM, iT, iS, l_el, (lr.1), (lr.2.1), (lr.2.2.1), (by simp only [List.length_set]; exact (lr.2.2.2.1)), (by simp only [List.length_set]; exact (lr.2.2.2.2.1)), (lr.2.2.2.2.2.1), (lr.2.2.2.2.2.2.1), (lr.2.2.2.2.2.2.2.1), (lr.2.2.2.2.2.2.2.2.1), (lr.2.2.2.2.2.2.2.2.2.1), (lr.2.2.2.2.2.2.2.2.2.2.1), (lr.2.2.2.2.2.2.2.2.2.2.2.1), (lr.2.2.2.2.2.2.2.2.2.2.2.2.1), (lr.2.2.2.2.2.2.2.2.2.2.2.2.2.1), (lr.2.2.2.2.2.2.2.2.2.2.2.2.2.2.1), (lr.2.2.2.2.2.2.2.2.2.2.2.2.2.2.2.1), (lr.2.2.2.2.2.2.2.2.2.2.2.2.2.2.2.2.1), (lr.2.2.2.2.2.2.2.2.2.2.2.2.2.2.2.2.2.1), (lr.2.2.2.2.2.2.2.2.2.2.2.2.2.2.2.2.2.2.1), (lr.2.2.2.2.2.2.2.2.2.2.2.2.2.2.2.2.2.2.2.1), (lr.2.2.2.2.2.2.2.2.2.2.2.2.2.2.2.2.2.2.2.2)⟩
