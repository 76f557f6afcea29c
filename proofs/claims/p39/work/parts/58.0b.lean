/-! the Reader of the class; by program (wip/tools/mksq.py) -/
section SQ
variable {im : Int32} {lf : Int32} {s : ab_q} {d : ab_q} {k : ab_q} {ls : List Int32} {rf : Int32} {rz : Int32} {ra : Int32} {rn : Int32} {rq : ab_q} {lt : List Int32} {m1 : Int32} {m2 : Int32} {m3 : Int32} {m4 : Int32} {bd : List Int32} {fc : List Int32} {hd : Nat → Int32} {sz : Nat → Int32} {el : Nat → List Int64} {t : ab_q} {g : Nat → Int32} {fm : List Int32} {hm : List Nat} {so : List Nat} {si : List Nat} {sh : List Int32} {ce : List Int64} {ca : List Int64} {td : List Int32} {wa : List Int32} {kp : List Int32} {la : List Int32} {bf : List Int32} {oo : List Int32} {bo : List Int32} {pw : List Int32} {ow : List Int32} {tr : List Int32}
set_option maxHeartbeats 400000 in
theorem w_st0 {e : List Int64} {n x c : Nat} (hx : x < 2147483648) (hc : c < 1000) (hn : n ≤ 160) (l_lt : lt.length = 160) (hlt : ∀ i, i < n → lt.getD i 0 = tw e i) (h : chB e n x c = false) : Ev ab_Z0 1 24 [.ref 34, .int (nI x), .int (nI c)] (ww im lf s d k ls (-1) (nI n) ra rn rq lt m1 m2 m3 m4 bd fc hd sz el t g fm hm so si sh ce ca td wa kp la bf oo bo pw ow tr) (some (.int (nI 0)), (ww im lf s d k ls (-1) (nI n) ra rn rq lt m1 m2 m3 m4 bd fc hd sz el t g fm hm so si sh ce ca td wa kp la bf oo bo pw ow tr)) := by
  rcases chB_f h with h3 | h3
  · refine Ef.in (md := mX2_stands) (L := [some (.ref 34), some (.int (nI x)), some (.int (nI c))]) rfl (Nat.le_of_ble_eq_true rfl) rfl ?_
    refine E_iload_n rfl rfl ?_
    refine E_if (t := 26) (b := false) rfl rfl ((cn_lt (nI_toInt (by omega)) (by decide : (0 : Int32).toInt = 0)).trans (decide_eq_false (by omega))) ?_
    refine E_iload_n rfl rfl ?_
    refine E_aload_n rfl rfl ?_
    refine E_getfield (v := .int (nI n)) rfl w34 rfl (by decide) rfl ?_
    refine E_ic (t := 26) (b := true) rfl rfl ((cn_ge (nI_toInt (by omega)) (nI_toInt (by omega))).trans (decide_eq_true (by omega))) ?_
    refine E_iconst (x := nI 0) rfl (by decide) ?_
    exact E_iret rfl rfl
  · refine Ef.in (md := mX2_stands) (L := [some (.ref 34), some (.int (nI x)), some (.int (nI c))]) rfl (Nat.le_of_ble_eq_true rfl) rfl ?_
    refine E_iload_n rfl rfl ?_
    refine E_if (t := 26) (b := false) rfl rfl ((cn_lt (nI_toInt (by omega)) (by decide : (0 : Int32).toInt = 0)).trans (decide_eq_false (by omega))) ?_
    refine E_iload_n rfl rfl ?_
    refine E_aload_n rfl rfl ?_
    refine E_getfield (v := .int (nI n)) rfl w34 rfl (by decide) rfl ?_
    refine E_ic (t := 26) (b := false) rfl rfl ((cn_ge (nI_toInt (by omega)) (nI_toInt (by omega))).trans (decide_eq_false (by omega))) ?_
    refine E_aload_n rfl rfl ?_
    refine E_getfield (v := .ref 45) rfl w34 rfl (by decide) rfl ?_
    refine E_iload_n rfl rfl ?_
    refine E_ialI (l := lt) (v := tw e x) rfl w45 (by omega) (by omega) (hlt x (by omega)) ?_
    refine E_iload_n rfl rfl ?_
    refine E_ic (t := 26) (b := true) rfl rfl ((cn_ne rfl (nI_toInt (by omega))).trans (decide_eq_true (by omega))) ?_
    refine E_iconst (x := nI 0) rfl (by decide) ?_
    exact E_iret rfl rfl
set_option maxHeartbeats 400000 in
theorem w_dg0 {e : List Int64} {n x : Nat} (hx : x < 2147483648) (hn : n ≤ 160) (l_lt : lt.length = 160) (hlt : ∀ i, i < n → lt.getD i 0 = tw e i) (h : dgB e n x = false) : Ev ab_Z0 1 27 [.ref 34, .int (nI x)] (ww im lf s d k ls (-1) (nI n) ra rn rq lt m1 m2 m3 m4 bd fc hd sz el t g fm hm so si sh ce ca td wa kp la bf oo bo pw ow tr) (some (.int (nI 0)), (ww im lf s d k ls (-1) (nI n) ra rn rq lt m1 m2 m3 m4 bd fc hd sz el t g fm hm so si sh ce ca td wa kp la bf oo bo pw ow tr)) := by
  rcases dgB_f h with h3 | ⟨h3, h3 | h3⟩
  · refine Ef.in (md := mX2_isDigit) (L := [some (.ref 34), some (.int (nI x))]) rfl (Nat.le_of_ble_eq_true rfl) rfl ?_
    refine E_iload_n at_X2_isDigit_0 rfl ?_
    refine E_if (t := 38) (b := false) at_X2_isDigit_1 rfl ((cn_lt (nI_toInt (by omega)) (by decide : (0 : Int32).toInt = 0)).trans (decide_eq_false (by omega))) ?_
    refine E_iload_n at_X2_isDigit_4 rfl ?_
    refine E_aload_n at_X2_isDigit_5 rfl ?_
    refine E_getfield (v := .int (nI n)) at_X2_isDigit_6 w34 rfl (by decide) rfl ?_
    refine E_ic (t := 38) (b := true) at_X2_isDigit_9 rfl ((cn_ge (nI_toInt (by omega)) (nI_toInt (by omega))).trans (decide_eq_true (by omega))) ?_
    refine E_iconst (x := nI 0) rfl (by decide) ?_
    exact E_iret at_X2_isDigit_39 rfl
  · refine Ef.in (md := mX2_isDigit) (L := [some (.ref 34), some (.int (nI x))]) rfl (Nat.le_of_ble_eq_true rfl) rfl ?_
    refine E_iload_n at_X2_isDigit_0 rfl ?_
    refine E_if (t := 38) (b := false) at_X2_isDigit_1 rfl ((cn_lt (nI_toInt (by omega)) (by decide : (0 : Int32).toInt = 0)).trans (decide_eq_false (by omega))) ?_
    refine E_iload_n at_X2_isDigit_4 rfl ?_
    refine E_aload_n at_X2_isDigit_5 rfl ?_
    refine E_getfield (v := .int (nI n)) at_X2_isDigit_6 w34 rfl (by decide) rfl ?_
    refine E_ic (t := 38) (b := false) at_X2_isDigit_9 rfl ((cn_ge (nI_toInt (by omega)) (nI_toInt (by omega))).trans (decide_eq_false (by omega))) ?_
    refine E_aload_n rfl rfl ?_
    refine E_getfield (v := .ref 45) rfl w34 rfl (by decide) rfl ?_
    refine E_iload_n rfl rfl ?_
    refine E_ialI (l := lt) (v := tw e x) rfl w45 (by omega) (by omega) (hlt x (by omega)) ?_
    refine E_bipush (x := nI 48) rfl (by decide) ?_
    refine E_ic (t := 38) (b := true) rfl rfl ((cn_lt rfl (nI_toInt (by omega))).trans (decide_eq_true (by omega))) ?_
    refine E_iconst (x := nI 0) rfl (by decide) ?_
    exact E_iret at_X2_isDigit_39 rfl
  · refine Ef.in (md := mX2_isDigit) (L := [some (.ref 34), some (.int (nI x))]) rfl (Nat.le_of_ble_eq_true rfl) rfl ?_
    refine E_iload_n at_X2_isDigit_0 rfl ?_
    refine E_if (t := 38) (b := false) at_X2_isDigit_1 rfl ((cn_lt (nI_toInt (by omega)) (by decide : (0 : Int32).toInt = 0)).trans (decide_eq_false (by omega))) ?_
    refine E_iload_n at_X2_isDigit_4 rfl ?_
    refine E_aload_n at_X2_isDigit_5 rfl ?_
    refine E_getfield (v := .int (nI n)) at_X2_isDigit_6 w34 rfl (by decide) rfl ?_
    refine E_ic (t := 38) (b := false) at_X2_isDigit_9 rfl ((cn_ge (nI_toInt (by omega)) (nI_toInt (by omega))).trans (decide_eq_false (by omega))) ?_
    refine E_aload_n rfl rfl ?_
    refine E_getfield (v := .ref 45) rfl w34 rfl (by decide) rfl ?_
    refine E_iload_n rfl rfl ?_
    refine E_ialI (l := lt) (v := tw e x) rfl w45 (by omega) (by omega) (hlt x (by omega)) ?_
    refine E_bipush (x := nI 48) rfl (by decide) ?_
    refine E_ic (t := 38) (b := false) rfl rfl ((cn_lt rfl (nI_toInt (by omega))).trans (decide_eq_false (by omega))) ?_
    refine E_aload_n rfl rfl ?_
    refine E_getfield (v := .ref 45) rfl w34 rfl (by decide) rfl ?_
    refine E_iload_n rfl rfl ?_
    refine E_ialI (l := lt) (v := tw e x) rfl w45 (by omega) (by omega) (hlt x (by omega)) ?_
    refine E_bipush (x := nI 57) rfl (by decide) ?_
    refine E_ic (t := 38) (b := true) rfl rfl ((cn_gt rfl (nI_toInt (by omega))).trans (decide_eq_true (by omega))) ?_
    refine E_iconst (x := nI 0) rfl (by decide) ?_
    exact E_iret at_X2_isDigit_39 rfl
set_option maxHeartbeats 400000 in
theorem w_st1 {e : List Int64} {n x c : Nat} (hx : x < 2147483648) (hc : c < 1000) (hn : n ≤ 160) (l_lt : lt.length = 160) (hlt : ∀ i, i < n → lt.getD i 0 = tw e i) (h : chB e n x c = true) : Ev ab_Z0 1 24 [.ref 34, .int (nI x), .int (nI c)] (ww im lf s d k ls (-1) (nI n) ra rn rq lt m1 m2 m3 m4 bd fc hd sz el t g fm hm so si sh ce ca td wa kp la bf oo bo pw ow tr) (some (.int (nI 1)), (ww im lf s d k ls (-1) (nI n) ra rn rq lt m1 m2 m3 m4 bd fc hd sz el t g fm hm so si sh ce ca td wa kp la bf oo bo pw ow tr)) := by
  have h2 := chB_t h
  refine Ef.in (md := mX2_stands) (L := [some (.ref 34), some (.int (nI x)), some (.int (nI c))]) rfl (Nat.le_of_ble_eq_true rfl) rfl ?_
  refine E_iload_n rfl rfl ?_
  refine E_if (t := 26) (b := false) rfl rfl ((cn_lt (nI_toInt (by omega)) (by decide : (0 : Int32).toInt = 0)).trans (decide_eq_false (by omega))) ?_
  refine E_iload_n rfl rfl ?_
  refine E_aload_n rfl rfl ?_
  refine E_getfield (v := .int (nI n)) rfl w34 rfl (by decide) rfl ?_
  refine E_ic (t := 26) (b := false) rfl rfl ((cn_ge (nI_toInt (by omega)) (nI_toInt (by omega))).trans (decide_eq_false (by omega))) ?_
  refine E_aload_n rfl rfl ?_
  refine E_getfield (v := .ref 45) rfl w34 rfl (by decide) rfl ?_
  refine E_iload_n rfl rfl ?_
  refine E_ialI (l := lt) (v := tw e x) rfl w45 (by omega) (by omega) (hlt x (by omega)) ?_
  refine E_iload_n rfl rfl ?_
  refine E_ic (t := 26) (b := false) rfl rfl ((cn_ne rfl (nI_toInt (by omega))).trans (decide_eq_false (by omega))) ?_
  refine E_iconst (x := nI 1) rfl (by decide) ?_
  refine E_goto (t := 27) rfl rfl ?_
  exact E_iret rfl rfl
set_option maxHeartbeats 400000 in
theorem w_dg1 {e : List Int64} {n x : Nat} (hx : x < 2147483648) (hn : n ≤ 160) (l_lt : lt.length = 160) (hlt : ∀ i, i < n → lt.getD i 0 = tw e i) (h : dgB e n x = true) : Ev ab_Z0 1 27 [.ref 34, .int (nI x)] (ww im lf s d k ls (-1) (nI n) ra rn rq lt m1 m2 m3 m4 bd fc hd sz el t g fm hm so si sh ce ca td wa kp la bf oo bo pw ow tr) (some (.int (nI 1)), (ww im lf s d k ls (-1) (nI n) ra rn rq lt m1 m2 m3 m4 bd fc hd sz el t g fm hm so si sh ce ca td wa kp la bf oo bo pw ow tr)) := by
  have h2 := dgB_t h
  refine Ef.in (md := mX2_isDigit) (L := [some (.ref 34), some (.int (nI x))]) rfl (Nat.le_of_ble_eq_true rfl) rfl ?_
  refine E_iload_n at_X2_isDigit_0 rfl ?_
  refine E_if (t := 38) (b := false) at_X2_isDigit_1 rfl ((cn_lt (nI_toInt (by omega)) (by decide : (0 : Int32).toInt = 0)).trans (decide_eq_false (by omega))) ?_
  refine E_iload_n at_X2_isDigit_4 rfl ?_
  refine E_aload_n at_X2_isDigit_5 rfl ?_
  refine E_getfield (v := .int (nI n)) at_X2_isDigit_6 w34 rfl (by decide) rfl ?_
  refine E_ic (t := 38) (b := false) at_X2_isDigit_9 rfl ((cn_ge (nI_toInt (by omega)) (nI_toInt (by omega))).trans (decide_eq_false (by omega))) ?_
  refine E_aload_n rfl rfl ?_
  refine E_getfield (v := .ref 45) rfl w34 rfl (by decide) rfl ?_
  refine E_iload_n rfl rfl ?_
  refine E_ialI (l := lt) (v := tw e x) rfl w45 (by omega) (by omega) (hlt x (by omega)) ?_
  refine E_bipush (x := nI 48) rfl (by decide) ?_
  refine E_ic (t := 38) (b := false) rfl rfl ((cn_lt rfl (nI_toInt (by omega))).trans (decide_eq_false (by omega))) ?_
  refine E_aload_n rfl rfl ?_
  refine E_getfield (v := .ref 45) rfl w34 rfl (by decide) rfl ?_
  refine E_iload_n rfl rfl ?_
  refine E_ialI (l := lt) (v := tw e x) rfl w45 (by omega) (by omega) (hlt x (by omega)) ?_
  refine E_bipush (x := nI 57) rfl (by decide) ?_
  refine E_ic (t := 38) (b := false) rfl rfl ((cn_gt rfl (nI_toInt (by omega))).trans (decide_eq_false (by omega))) ?_
  refine E_iconst (x := nI 1) rfl (by decide) ?_
  refine E_goto (t := 39) rfl rfl ?_
  exact E_iret at_X2_isDigit_39 rfl
set_option maxHeartbeats 400000 in
theorem w_li0 {e : List Int64} {n a : Nat} (hn : n ≤ 160) (ha : a ≤ n) (l_lt : lt.length = 160) (hlt : ∀ i, i < n → lt.getD i 0 = tw e i) : Ev ab_Z0 2 23 [.ref 34, .ref 2000000] (ww im lf s d k ls (-1) (nI n) (nI a) rn rq lt m1 m2 m3 m4 bd fc hd sz el t g fm hm so si sh ce ca td wa kp la bf oo bo pw ow tr) (some (.int (nI (mj0 e n a))), (ww im lf s d k ls (-1) (nI n) (nI a) rn rq lt m1 m2 m3 m4 bd fc hd sz el t g fm hm so si sh ce ca td wa kp la bf oo bo pw ow tr)) := by
  rcases bo2 (chB e n (a) 112) with hb0 | hb0
  · have q0 : mtc e n [112, 105, 101, 99, 101] (a) = 0 := mtc_f hb0
    have hm0 : mj0 e n a = 0 := by unfold mj0; omega
    rw [hm0]
    refine Ef.in (md := mX2_lettersAsIn) (L := [some (.ref 34), some (.ref 2000000), none]) rfl (Nat.le_of_ble_eq_true rfl) rfl ?_
    refine E_iconst (x := nI 0) at_X2_lettersAsIn_0 (by decide) ?_
    refine E_istore_n (L2 := [some (.ref 34), some (.ref 2000000), some (.int (nI 0))]) at_X2_lettersAsIn_1 rfl ?_
    refine E_iload_n at_X2_lettersAsIn_2 rfl ?_
    refine E_aload_n at_X2_lettersAsIn_3 rfl ?_
    refine E_slen (z := nI 5) at_X2_lettersAsIn_4 (by decide) (Nat.le_of_ble_eq_true rfl) (by decide) ?_
    refine E_ic (t := 36) (b := false) at_X2_lettersAsIn_7 rfl (by decide) ?_
    refine E_aload_n at_X2_lettersAsIn_10 rfl ?_
    refine E_aload_n at_X2_lettersAsIn_11 rfl ?_
    refine E_getfield (v := .int (nI a)) at_X2_lettersAsIn_12 w34 rfl (by decide) rfl ?_
    refine E_iload_n at_X2_lettersAsIn_15 rfl ?_
    refine E_iadd (z := nI (a + 0)) at_X2_lettersAsIn_16 (nI_add _ _) ?_
    refine E_aload_n at_X2_lettersAsIn_17 rfl ?_
    refine E_iload_n at_X2_lettersAsIn_18 rfl ?_
    refine E_schr (z := nI 112) at_X2_lettersAsIn_19 (by decide) (Nat.le_of_ble_eq_true rfl) (by decide) (by decide) ?_
    refine E_callV (v := some (.int (nI 0))) (As := [.ref 34, .int (nI (a + 0)), .int (nI 112)]) (r0 := []) (cs2 := (ww im lf s d k ls (-1) (nI n) (nI a) rn rq lt m1 m2 m3 m4 bd fc hd sz el t g fm hm so si sh ce ca td wa kp la bf oo bo pw ow tr)) at_X2_lettersAsIn_22 rfl rfl (Nat.le_of_ble_eq_true rfl) rfl (ab_rvOf w34 rfl) (w_st0 (x := a + 0) (c := 112) (by omega) (by decide) hn l_lt hlt hb0) (by decide) rfl ?_
    refine E_if (t := 30) (b := false) at_X2_lettersAsIn_25 rfl (by decide) ?_
    refine E_iload_n at_X2_lettersAsIn_28 rfl ?_
    exact E_iret at_X2_lettersAsIn_29 rfl
  · rcases bo2 (chB e n (a + 1) 105) with hb1 | hb1
    · have q0 : mtc e n [112, 105, 101, 99, 101] (a) = mtc e n [105, 101, 99, 101] (a + 1) + 1 := mtc_t hb0
      have q1 : mtc e n [105, 101, 99, 101] (a + 1) = 0 := mtc_f hb1
      have hm0 : mj0 e n a = 1 := by unfold mj0; omega
      rw [hm0]
      refine Ef.in (md := mX2_lettersAsIn) (L := [some (.ref 34), some (.ref 2000000), none]) rfl (Nat.le_of_ble_eq_true rfl) rfl ?_
      refine E_iconst (x := nI 0) at_X2_lettersAsIn_0 (by decide) ?_
      refine E_istore_n (L2 := [some (.ref 34), some (.ref 2000000), some (.int (nI 0))]) at_X2_lettersAsIn_1 rfl ?_
      refine E_iload_n at_X2_lettersAsIn_2 rfl ?_
      refine E_aload_n at_X2_lettersAsIn_3 rfl ?_
      refine E_slen (z := nI 5) at_X2_lettersAsIn_4 (by decide) (Nat.le_of_ble_eq_true rfl) (by decide) ?_
      refine E_ic (t := 36) (b := false) at_X2_lettersAsIn_7 rfl (by decide) ?_
      refine E_aload_n at_X2_lettersAsIn_10 rfl ?_
      refine E_aload_n at_X2_lettersAsIn_11 rfl ?_
      refine E_getfield (v := .int (nI a)) at_X2_lettersAsIn_12 w34 rfl (by decide) rfl ?_
      refine E_iload_n at_X2_lettersAsIn_15 rfl ?_
      refine E_iadd (z := nI (a + 0)) at_X2_lettersAsIn_16 (nI_add _ _) ?_
      refine E_aload_n at_X2_lettersAsIn_17 rfl ?_
      refine E_iload_n at_X2_lettersAsIn_18 rfl ?_
      refine E_schr (z := nI 112) at_X2_lettersAsIn_19 (by decide) (Nat.le_of_ble_eq_true rfl) (by decide) (by decide) ?_
      refine E_callV (v := some (.int (nI 1))) (As := [.ref 34, .int (nI (a + 0)), .int (nI 112)]) (r0 := []) (cs2 := (ww im lf s d k ls (-1) (nI n) (nI a) rn rq lt m1 m2 m3 m4 bd fc hd sz el t g fm hm so si sh ce ca td wa kp la bf oo bo pw ow tr)) at_X2_lettersAsIn_22 rfl rfl (Nat.le_of_ble_eq_true rfl) rfl (ab_rvOf w34 rfl) (w_st1 (x := a + 0) (c := 112) (by omega) (by decide) hn l_lt hlt hb0) (by decide) rfl ?_
      refine E_if (t := 30) (b := true) at_X2_lettersAsIn_25 rfl (by decide) ?_
      refine E_iinc (y := nI 1) (L2 := [some (.ref 34), some (.ref 2000000), some (.int (nI 1))]) at_X2_lettersAsIn_30 rfl (by decide) rfl ?_
      refine E_goto (t := 2) at_X2_lettersAsIn_33 rfl ?_
      refine E_iload_n at_X2_lettersAsIn_2 rfl ?_
      refine E_aload_n at_X2_lettersAsIn_3 rfl ?_
      refine E_slen (z := nI 5) at_X2_lettersAsIn_4 (by decide) (Nat.le_of_ble_eq_true rfl) (by decide) ?_
      refine E_ic (t := 36) (b := false) at_X2_lettersAsIn_7 rfl (by decide) ?_
      refine E_aload_n at_X2_lettersAsIn_10 rfl ?_
      refine E_aload_n at_X2_lettersAsIn_11 rfl ?_
      refine E_getfield (v := .int (nI a)) at_X2_lettersAsIn_12 w34 rfl (by decide) rfl ?_
      refine E_iload_n at_X2_lettersAsIn_15 rfl ?_
      refine E_iadd (z := nI (a + 1)) at_X2_lettersAsIn_16 (nI_add _ _) ?_
      refine E_aload_n at_X2_lettersAsIn_17 rfl ?_
      refine E_iload_n at_X2_lettersAsIn_18 rfl ?_
      refine E_schr (z := nI 105) at_X2_lettersAsIn_19 (by decide) (Nat.le_of_ble_eq_true rfl) (by decide) (by decide) ?_
      refine E_callV (v := some (.int (nI 0))) (As := [.ref 34, .int (nI (a + 1)), .int (nI 105)]) (r0 := []) (cs2 := (ww im lf s d k ls (-1) (nI n) (nI a) rn rq lt m1 m2 m3 m4 bd fc hd sz el t g fm hm so si sh ce ca td wa kp la bf oo bo pw ow tr)) at_X2_lettersAsIn_22 rfl rfl (Nat.le_of_ble_eq_true rfl) rfl (ab_rvOf w34 rfl) (w_st0 (x := a + 1) (c := 105) (by omega) (by decide) hn l_lt hlt hb1) (by decide) rfl ?_
      refine E_if (t := 30) (b := false) at_X2_lettersAsIn_25 rfl (by decide) ?_
      refine E_iload_n at_X2_lettersAsIn_28 rfl ?_
      exact E_iret at_X2_lettersAsIn_29 rfl
    · rcases bo2 (chB e n (a + 1 + 1) 101) with hb2 | hb2
      · have q0 : mtc e n [112, 105, 101, 99, 101] (a) = mtc e n [105, 101, 99, 101] (a + 1) + 1 := mtc_t hb0
        have q1 : mtc e n [105, 101, 99, 101] (a + 1) = mtc e n [101, 99, 101] (a + 1 + 1) + 1 := mtc_t hb1
        have q2 : mtc e n [101, 99, 101] (a + 1 + 1) = 0 := mtc_f hb2
        have hm0 : mj0 e n a = 2 := by unfold mj0; omega
        rw [hm0]
        refine Ef.in (md := mX2_lettersAsIn) (L := [some (.ref 34), some (.ref 2000000), none]) rfl (Nat.le_of_ble_eq_true rfl) rfl ?_
        refine E_iconst (x := nI 0) at_X2_lettersAsIn_0 (by decide) ?_
        refine E_istore_n (L2 := [some (.ref 34), some (.ref 2000000), some (.int (nI 0))]) at_X2_lettersAsIn_1 rfl ?_
        refine E_iload_n at_X2_lettersAsIn_2 rfl ?_
        refine E_aload_n at_X2_lettersAsIn_3 rfl ?_
        refine E_slen (z := nI 5) at_X2_lettersAsIn_4 (by decide) (Nat.le_of_ble_eq_true rfl) (by decide) ?_
        refine E_ic (t := 36) (b := false) at_X2_lettersAsIn_7 rfl (by decide) ?_
        refine E_aload_n at_X2_lettersAsIn_10 rfl ?_
        refine E_aload_n at_X2_lettersAsIn_11 rfl ?_
        refine E_getfield (v := .int (nI a)) at_X2_lettersAsIn_12 w34 rfl (by decide) rfl ?_
        refine E_iload_n at_X2_lettersAsIn_15 rfl ?_
        refine E_iadd (z := nI (a + 0)) at_X2_lettersAsIn_16 (nI_add _ _) ?_
        refine E_aload_n at_X2_lettersAsIn_17 rfl ?_
        refine E_iload_n at_X2_lettersAsIn_18 rfl ?_
        refine E_schr (z := nI 112) at_X2_lettersAsIn_19 (by decide) (Nat.le_of_ble_eq_true rfl) (by decide) (by decide) ?_
        refine E_callV (v := some (.int (nI 1))) (As := [.ref 34, .int (nI (a + 0)), .int (nI 112)]) (r0 := []) (cs2 := (ww im lf s d k ls (-1) (nI n) (nI a) rn rq lt m1 m2 m3 m4 bd fc hd sz el t g fm hm so si sh ce ca td wa kp la bf oo bo pw ow tr)) at_X2_lettersAsIn_22 rfl rfl (Nat.le_of_ble_eq_true rfl) rfl (ab_rvOf w34 rfl) (w_st1 (x := a + 0) (c := 112) (by omega) (by decide) hn l_lt hlt hb0) (by decide) rfl ?_
        refine E_if (t := 30) (b := true) at_X2_lettersAsIn_25 rfl (by decide) ?_
        refine E_iinc (y := nI 1) (L2 := [some (.ref 34), some (.ref 2000000), some (.int (nI 1))]) at_X2_lettersAsIn_30 rfl (by decide) rfl ?_
        refine E_goto (t := 2) at_X2_lettersAsIn_33 rfl ?_
        refine E_iload_n at_X2_lettersAsIn_2 rfl ?_
        refine E_aload_n at_X2_lettersAsIn_3 rfl ?_
        refine E_slen (z := nI 5) at_X2_lettersAsIn_4 (by decide) (Nat.le_of_ble_eq_true rfl) (by decide) ?_
        refine E_ic (t := 36) (b := false) at_X2_lettersAsIn_7 rfl (by decide) ?_
        refine E_aload_n at_X2_lettersAsIn_10 rfl ?_
        refine E_aload_n at_X2_lettersAsIn_11 rfl ?_
        refine E_getfield (v := .int (nI a)) at_X2_lettersAsIn_12 w34 rfl (by decide) rfl ?_
        refine E_iload_n at_X2_lettersAsIn_15 rfl ?_
        refine E_iadd (z := nI (a + 1)) at_X2_lettersAsIn_16 (nI_add _ _) ?_
        refine E_aload_n at_X2_lettersAsIn_17 rfl ?_
        refine E_iload_n at_X2_lettersAsIn_18 rfl ?_
        refine E_schr (z := nI 105) at_X2_lettersAsIn_19 (by decide) (Nat.le_of_ble_eq_true rfl) (by decide) (by decide) ?_
        refine E_callV (v := some (.int (nI 1))) (As := [.ref 34, .int (nI (a + 1)), .int (nI 105)]) (r0 := []) (cs2 := (ww im lf s d k ls (-1) (nI n) (nI a) rn rq lt m1 m2 m3 m4 bd fc hd sz el t g fm hm so si sh ce ca td wa kp la bf oo bo pw ow tr)) at_X2_lettersAsIn_22 rfl rfl (Nat.le_of_ble_eq_true rfl) rfl (ab_rvOf w34 rfl) (w_st1 (x := a + 1) (c := 105) (by omega) (by decide) hn l_lt hlt hb1) (by decide) rfl ?_
        refine E_if (t := 30) (b := true) at_X2_lettersAsIn_25 rfl (by decide) ?_
        refine E_iinc (y := nI 2) (L2 := [some (.ref 34), some (.ref 2000000), some (.int (nI 2))]) at_X2_lettersAsIn_30 rfl (by decide) rfl ?_
        refine E_goto (t := 2) at_X2_lettersAsIn_33 rfl ?_
        refine E_iload_n at_X2_lettersAsIn_2 rfl ?_
        refine E_aload_n at_X2_lettersAsIn_3 rfl ?_
        refine E_slen (z := nI 5) at_X2_lettersAsIn_4 (by decide) (Nat.le_of_ble_eq_true rfl) (by decide) ?_
        refine E_ic (t := 36) (b := false) at_X2_lettersAsIn_7 rfl (by decide) ?_
        refine E_aload_n at_X2_lettersAsIn_10 rfl ?_
        refine E_aload_n at_X2_lettersAsIn_11 rfl ?_
        refine E_getfield (v := .int (nI a)) at_X2_lettersAsIn_12 w34 rfl (by decide) rfl ?_
        refine E_iload_n at_X2_lettersAsIn_15 rfl ?_
        refine E_iadd (z := nI (a + 2)) at_X2_lettersAsIn_16 (nI_add _ _) ?_
        refine E_aload_n at_X2_lettersAsIn_17 rfl ?_
        refine E_iload_n at_X2_lettersAsIn_18 rfl ?_
        refine E_schr (z := nI 101) at_X2_lettersAsIn_19 (by decide) (Nat.le_of_ble_eq_true rfl) (by decide) (by decide) ?_
        refine E_callV (v := some (.int (nI 0))) (As := [.ref 34, .int (nI (a + 2)), .int (nI 101)]) (r0 := []) (cs2 := (ww im lf s d k ls (-1) (nI n) (nI a) rn rq lt m1 m2 m3 m4 bd fc hd sz el t g fm hm so si sh ce ca td wa kp la bf oo bo pw ow tr)) at_X2_lettersAsIn_22 rfl rfl (Nat.le_of_ble_eq_true rfl) rfl (ab_rvOf w34 rfl) (w_st0 (x := a + 2) (c := 101) (by omega) (by decide) hn l_lt hlt hb2) (by decide) rfl ?_
        refine E_if (t := 30) (b := false) at_X2_lettersAsIn_25 rfl (by decide) ?_
        refine E_iload_n at_X2_lettersAsIn_28 rfl ?_
        exact E_iret at_X2_lettersAsIn_29 rfl
      · rcases bo2 (chB e n (a + 1 + 1 + 1) 99) with hb3 | hb3
        · have q0 : mtc e n [112, 105, 101, 99, 101] (a) = mtc e n [105, 101, 99, 101] (a + 1) + 1 := mtc_t hb0
          have q1 : mtc e n [105, 101, 99, 101] (a + 1) = mtc e n [101, 99, 101] (a + 1 + 1) + 1 := mtc_t hb1
          have q2 : mtc e n [101, 99, 101] (a + 1 + 1) = mtc e n [99, 101] (a + 1 + 1 + 1) + 1 := mtc_t hb2
          have q3 : mtc e n [99, 101] (a + 1 + 1 + 1) = 0 := mtc_f hb3
          have hm0 : mj0 e n a = 3 := by unfold mj0; omega
          rw [hm0]
          refine Ef.in (md := mX2_lettersAsIn) (L := [some (.ref 34), some (.ref 2000000), none]) rfl (Nat.le_of_ble_eq_true rfl) rfl ?_
          refine E_iconst (x := nI 0) at_X2_lettersAsIn_0 (by decide) ?_
          refine E_istore_n (L2 := [some (.ref 34), some (.ref 2000000), some (.int (nI 0))]) at_X2_lettersAsIn_1 rfl ?_
          refine E_iload_n at_X2_lettersAsIn_2 rfl ?_
          refine E_aload_n at_X2_lettersAsIn_3 rfl ?_
          refine E_slen (z := nI 5) at_X2_lettersAsIn_4 (by decide) (Nat.le_of_ble_eq_true rfl) (by decide) ?_
          refine E_ic (t := 36) (b := false) at_X2_lettersAsIn_7 rfl (by decide) ?_
          refine E_aload_n at_X2_lettersAsIn_10 rfl ?_
          refine E_aload_n at_X2_lettersAsIn_11 rfl ?_
          refine E_getfield (v := .int (nI a)) at_X2_lettersAsIn_12 w34 rfl (by decide) rfl ?_
          refine E_iload_n at_X2_lettersAsIn_15 rfl ?_
          refine E_iadd (z := nI (a + 0)) at_X2_lettersAsIn_16 (nI_add _ _) ?_
          refine E_aload_n at_X2_lettersAsIn_17 rfl ?_
          refine E_iload_n at_X2_lettersAsIn_18 rfl ?_
          refine E_schr (z := nI 112) at_X2_lettersAsIn_19 (by decide) (Nat.le_of_ble_eq_true rfl) (by decide) (by decide) ?_
          refine E_callV (v := some (.int (nI 1))) (As := [.ref 34, .int (nI (a + 0)), .int (nI 112)]) (r0 := []) (cs2 := (ww im lf s d k ls (-1) (nI n) (nI a) rn rq lt m1 m2 m3 m4 bd fc hd sz el t g fm hm so si sh ce ca td wa kp la bf oo bo pw ow tr)) at_X2_lettersAsIn_22 rfl rfl (Nat.le_of_ble_eq_true rfl) rfl (ab_rvOf w34 rfl) (w_st1 (x := a + 0) (c := 112) (by omega) (by decide) hn l_lt hlt hb0) (by decide) rfl ?_
          refine E_if (t := 30) (b := true) at_X2_lettersAsIn_25 rfl (by decide) ?_
          refine E_iinc (y := nI 1) (L2 := [some (.ref 34), some (.ref 2000000), some (.int (nI 1))]) at_X2_lettersAsIn_30 rfl (by decide) rfl ?_
          refine E_goto (t := 2) at_X2_lettersAsIn_33 rfl ?_
          refine E_iload_n at_X2_lettersAsIn_2 rfl ?_
          refine E_aload_n at_X2_lettersAsIn_3 rfl ?_
          refine E_slen (z := nI 5) at_X2_lettersAsIn_4 (by decide) (Nat.le_of_ble_eq_true rfl) (by decide) ?_
          refine E_ic (t := 36) (b := false) at_X2_lettersAsIn_7 rfl (by decide) ?_
          refine E_aload_n at_X2_lettersAsIn_10 rfl ?_
          refine E_aload_n at_X2_lettersAsIn_11 rfl ?_
          refine E_getfield (v := .int (nI a)) at_X2_lettersAsIn_12 w34 rfl (by decide) rfl ?_
          refine E_iload_n at_X2_lettersAsIn_15 rfl ?_
          refine E_iadd (z := nI (a + 1)) at_X2_lettersAsIn_16 (nI_add _ _) ?_
          refine E_aload_n at_X2_lettersAsIn_17 rfl ?_
          refine E_iload_n at_X2_lettersAsIn_18 rfl ?_
          refine E_schr (z := nI 105) at_X2_lettersAsIn_19 (by decide) (Nat.le_of_ble_eq_true rfl) (by decide) (by decide) ?_
          refine E_callV (v := some (.int (nI 1))) (As := [.ref 34, .int (nI (a + 1)), .int (nI 105)]) (r0 := []) (cs2 := (ww im lf s d k ls (-1) (nI n) (nI a) rn rq lt m1 m2 m3 m4 bd fc hd sz el t g fm hm so si sh ce ca td wa kp la bf oo bo pw ow tr)) at_X2_lettersAsIn_22 rfl rfl (Nat.le_of_ble_eq_true rfl) rfl (ab_rvOf w34 rfl) (w_st1 (x := a + 1) (c := 105) (by omega) (by decide) hn l_lt hlt hb1) (by decide) rfl ?_
          refine E_if (t := 30) (b := true) at_X2_lettersAsIn_25 rfl (by decide) ?_
          refine E_iinc (y := nI 2) (L2 := [some (.ref 34), some (.ref 2000000), some (.int (nI 2))]) at_X2_lettersAsIn_30 rfl (by decide) rfl ?_
          refine E_goto (t := 2) at_X2_lettersAsIn_33 rfl ?_
          refine E_iload_n at_X2_lettersAsIn_2 rfl ?_
          refine E_aload_n at_X2_lettersAsIn_3 rfl ?_
          refine E_slen (z := nI 5) at_X2_lettersAsIn_4 (by decide) (Nat.le_of_ble_eq_true rfl) (by decide) ?_
          refine E_ic (t := 36) (b := false) at_X2_lettersAsIn_7 rfl (by decide) ?_
          refine E_aload_n at_X2_lettersAsIn_10 rfl ?_
          refine E_aload_n at_X2_lettersAsIn_11 rfl ?_
          refine E_getfield (v := .int (nI a)) at_X2_lettersAsIn_12 w34 rfl (by decide) rfl ?_
          refine E_iload_n at_X2_lettersAsIn_15 rfl ?_
          refine E_iadd (z := nI (a + 2)) at_X2_lettersAsIn_16 (nI_add _ _) ?_
          refine E_aload_n at_X2_lettersAsIn_17 rfl ?_
          refine E_iload_n at_X2_lettersAsIn_18 rfl ?_
          refine E_schr (z := nI 101) at_X2_lettersAsIn_19 (by decide) (Nat.le_of_ble_eq_true rfl) (by decide) (by decide) ?_
          refine E_callV (v := some (.int (nI 1))) (As := [.ref 34, .int (nI (a + 2)), .int (nI 101)]) (r0 := []) (cs2 := (ww im lf s d k ls (-1) (nI n) (nI a) rn rq lt m1 m2 m3 m4 bd fc hd sz el t g fm hm so si sh ce ca td wa kp la bf oo bo pw ow tr)) at_X2_lettersAsIn_22 rfl rfl (Nat.le_of_ble_eq_true rfl) rfl (ab_rvOf w34 rfl) (w_st1 (x := a + 2) (c := 101) (by omega) (by decide) hn l_lt hlt hb2) (by decide) rfl ?_
          refine E_if (t := 30) (b := true) at_X2_lettersAsIn_25 rfl (by decide) ?_
          refine E_iinc (y := nI 3) (L2 := [some (.ref 34), some (.ref 2000000), some (.int (nI 3))]) at_X2_lettersAsIn_30 rfl (by decide) rfl ?_
          refine E_goto (t := 2) at_X2_lettersAsIn_33 rfl ?_
          refine E_iload_n at_X2_lettersAsIn_2 rfl ?_
          refine E_aload_n at_X2_lettersAsIn_3 rfl ?_
          refine E_slen (z := nI 5) at_X2_lettersAsIn_4 (by decide) (Nat.le_of_ble_eq_true rfl) (by decide) ?_
          refine E_ic (t := 36) (b := false) at_X2_lettersAsIn_7 rfl (by decide) ?_
          refine E_aload_n at_X2_lettersAsIn_10 rfl ?_
          refine E_aload_n at_X2_lettersAsIn_11 rfl ?_
          refine E_getfield (v := .int (nI a)) at_X2_lettersAsIn_12 w34 rfl (by decide) rfl ?_
          refine E_iload_n at_X2_lettersAsIn_15 rfl ?_
          refine E_iadd (z := nI (a + 3)) at_X2_lettersAsIn_16 (nI_add _ _) ?_
          refine E_aload_n at_X2_lettersAsIn_17 rfl ?_
          refine E_iload_n at_X2_lettersAsIn_18 rfl ?_
          refine E_schr (z := nI 99) at_X2_lettersAsIn_19 (by decide) (Nat.le_of_ble_eq_true rfl) (by decide) (by decide) ?_
          refine E_callV (v := some (.int (nI 0))) (As := [.ref 34, .int (nI (a + 3)), .int (nI 99)]) (r0 := []) (cs2 := (ww im lf s d k ls (-1) (nI n) (nI a) rn rq lt m1 m2 m3 m4 bd fc hd sz el t g fm hm so si sh ce ca td wa kp la bf oo bo pw ow tr)) at_X2_lettersAsIn_22 rfl rfl (Nat.le_of_ble_eq_true rfl) rfl (ab_rvOf w34 rfl) (w_st0 (x := a + 3) (c := 99) (by omega) (by decide) hn l_lt hlt hb3) (by decide) rfl ?_
          refine E_if (t := 30) (b := false) at_X2_lettersAsIn_25 rfl (by decide) ?_
          refine E_iload_n at_X2_lettersAsIn_28 rfl ?_
          exact E_iret at_X2_lettersAsIn_29 rfl
        · rcases bo2 (chB e n (a + 1 + 1 + 1 + 1) 101) with hb4 | hb4
          · have q0 : mtc e n [112, 105, 101, 99, 101] (a) = mtc e n [105, 101, 99, 101] (a + 1) + 1 := mtc_t hb0
            have q1 : mtc e n [105, 101, 99, 101] (a + 1) = mtc e n [101, 99, 101] (a + 1 + 1) + 1 := mtc_t hb1
            have q2 : mtc e n [101, 99, 101] (a + 1 + 1) = mtc e n [99, 101] (a + 1 + 1 + 1) + 1 := mtc_t hb2
            have q3 : mtc e n [99, 101] (a + 1 + 1 + 1) = mtc e n [101] (a + 1 + 1 + 1 + 1) + 1 := mtc_t hb3
            have q4 : mtc e n [101] (a + 1 + 1 + 1 + 1) = 0 := mtc_f hb4
            have hm0 : mj0 e n a = 4 := by unfold mj0; omega
            rw [hm0]
            refine Ef.in (md := mX2_lettersAsIn) (L := [some (.ref 34), some (.ref 2000000), none]) rfl (Nat.le_of_ble_eq_true rfl) rfl ?_
            refine E_iconst (x := nI 0) at_X2_lettersAsIn_0 (by decide) ?_
            refine E_istore_n (L2 := [some (.ref 34), some (.ref 2000000), some (.int (nI 0))]) at_X2_lettersAsIn_1 rfl ?_
            refine E_iload_n at_X2_lettersAsIn_2 rfl ?_
            refine E_aload_n at_X2_lettersAsIn_3 rfl ?_
            refine E_slen (z := nI 5) at_X2_lettersAsIn_4 (by decide) (Nat.le_of_ble_eq_true rfl) (by decide) ?_
            refine E_ic (t := 36) (b := false) at_X2_lettersAsIn_7 rfl (by decide) ?_
            refine E_aload_n at_X2_lettersAsIn_10 rfl ?_
            refine E_aload_n at_X2_lettersAsIn_11 rfl ?_
            refine E_getfield (v := .int (nI a)) at_X2_lettersAsIn_12 w34 rfl (by decide) rfl ?_
            refine E_iload_n at_X2_lettersAsIn_15 rfl ?_
            refine E_iadd (z := nI (a + 0)) at_X2_lettersAsIn_16 (nI_add _ _) ?_
            refine E_aload_n at_X2_lettersAsIn_17 rfl ?_
            refine E_iload_n at_X2_lettersAsIn_18 rfl ?_
            refine E_schr (z := nI 112) at_X2_lettersAsIn_19 (by decide) (Nat.le_of_ble_eq_true rfl) (by decide) (by decide) ?_
            refine E_callV (v := some (.int (nI 1))) (As := [.ref 34, .int (nI (a + 0)), .int (nI 112)]) (r0 := []) (cs2 := (ww im lf s d k ls (-1) (nI n) (nI a) rn rq lt m1 m2 m3 m4 bd fc hd sz el t g fm hm so si sh ce ca td wa kp la bf oo bo pw ow tr)) at_X2_lettersAsIn_22 rfl rfl (Nat.le_of_ble_eq_true rfl) rfl (ab_rvOf w34 rfl) (w_st1 (x := a + 0) (c := 112) (by omega) (by decide) hn l_lt hlt hb0) (by decide) rfl ?_
            refine E_if (t := 30) (b := true) at_X2_lettersAsIn_25 rfl (by decide) ?_
            refine E_iinc (y := nI 1) (L2 := [some (.ref 34), some (.ref 2000000), some (.int (nI 1))]) at_X2_lettersAsIn_30 rfl (by decide) rfl ?_
            refine E_goto (t := 2) at_X2_lettersAsIn_33 rfl ?_
            refine E_iload_n at_X2_lettersAsIn_2 rfl ?_
            refine E_aload_n at_X2_lettersAsIn_3 rfl ?_
            refine E_slen (z := nI 5) at_X2_lettersAsIn_4 (by decide) (Nat.le_of_ble_eq_true rfl) (by decide) ?_
            refine E_ic (t := 36) (b := false) at_X2_lettersAsIn_7 rfl (by decide) ?_
            refine E_aload_n at_X2_lettersAsIn_10 rfl ?_
            refine E_aload_n at_X2_lettersAsIn_11 rfl ?_
            refine E_getfield (v := .int (nI a)) at_X2_lettersAsIn_12 w34 rfl (by decide) rfl ?_
            refine E_iload_n at_X2_lettersAsIn_15 rfl ?_
            refine E_iadd (z := nI (a + 1)) at_X2_lettersAsIn_16 (nI_add _ _) ?_
            refine E_aload_n at_X2_lettersAsIn_17 rfl ?_
            refine E_iload_n at_X2_lettersAsIn_18 rfl ?_
            refine E_schr (z := nI 105) at_X2_lettersAsIn_19 (by decide) (Nat.le_of_ble_eq_true rfl) (by decide) (by decide) ?_
            refine E_callV (v := some (.int (nI 1))) (As := [.ref 34, .int (nI (a + 1)), .int (nI 105)]) (r0 := []) (cs2 := (ww im lf s d k ls (-1) (nI n) (nI a) rn rq lt m1 m2 m3 m4 bd fc hd sz el t g fm hm so si sh ce ca td wa kp la bf oo bo pw ow tr)) at_X2_lettersAsIn_22 rfl rfl (Nat.le_of_ble_eq_true rfl) rfl (ab_rvOf w34 rfl) (w_st1 (x := a + 1) (c := 105) (by omega) (by decide) hn l_lt hlt hb1) (by decide) rfl ?_
            refine E_if (t := 30) (b := true) at_X2_lettersAsIn_25 rfl (by decide) ?_
            refine E_iinc (y := nI 2) (L2 := [some (.ref 34), some (.ref 2000000), some (.int (nI 2))]) at_X2_lettersAsIn_30 rfl (by decide) rfl ?_
            refine E_goto (t := 2) at_X2_lettersAsIn_33 rfl ?_
            refine E_iload_n at_X2_lettersAsIn_2 rfl ?_
            refine E_aload_n at_X2_lettersAsIn_3 rfl ?_
            refine E_slen (z := nI 5) at_X2_lettersAsIn_4 (by decide) (Nat.le_of_ble_eq_true rfl) (by decide) ?_
            refine E_ic (t := 36) (b := false) at_X2_lettersAsIn_7 rfl (by decide) ?_
            refine E_aload_n at_X2_lettersAsIn_10 rfl ?_
            refine E_aload_n at_X2_lettersAsIn_11 rfl ?_
            refine E_getfield (v := .int (nI a)) at_X2_lettersAsIn_12 w34 rfl (by decide) rfl ?_
            refine E_iload_n at_X2_lettersAsIn_15 rfl ?_
            refine E_iadd (z := nI (a + 2)) at_X2_lettersAsIn_16 (nI_add _ _) ?_
            refine E_aload_n at_X2_lettersAsIn_17 rfl ?_
            refine E_iload_n at_X2_lettersAsIn_18 rfl ?_
            refine E_schr (z := nI 101) at_X2_lettersAsIn_19 (by decide) (Nat.le_of_ble_eq_true rfl) (by decide) (by decide) ?_
            refine E_callV (v := some (.int (nI 1))) (As := [.ref 34, .int (nI (a + 2)), .int (nI 101)]) (r0 := []) (cs2 := (ww im lf s d k ls (-1) (nI n) (nI a) rn rq lt m1 m2 m3 m4 bd fc hd sz el t g fm hm so si sh ce ca td wa kp la bf oo bo pw ow tr)) at_X2_lettersAsIn_22 rfl rfl (Nat.le_of_ble_eq_true rfl) rfl (ab_rvOf w34 rfl) (w_st1 (x := a + 2) (c := 101) (by omega) (by decide) hn l_lt hlt hb2) (by decide) rfl ?_
            refine E_if (t := 30) (b := true) at_X2_lettersAsIn_25 rfl (by decide) ?_
            refine E_iinc (y := nI 3) (L2 := [some (.ref 34), some (.ref 2000000), some (.int (nI 3))]) at_X2_lettersAsIn_30 rfl (by decide) rfl ?_
            refine E_goto (t := 2) at_X2_lettersAsIn_33 rfl ?_
            refine E_iload_n at_X2_lettersAsIn_2 rfl ?_
            refine E_aload_n at_X2_lettersAsIn_3 rfl ?_
            refine E_slen (z := nI 5) at_X2_lettersAsIn_4 (by decide) (Nat.le_of_ble_eq_true rfl) (by decide) ?_
            refine E_ic (t := 36) (b := false) at_X2_lettersAsIn_7 rfl (by decide) ?_
            refine E_aload_n at_X2_lettersAsIn_10 rfl ?_
            refine E_aload_n at_X2_lettersAsIn_11 rfl ?_
            refine E_getfield (v := .int (nI a)) at_X2_lettersAsIn_12 w34 rfl (by decide) rfl ?_
            refine E_iload_n at_X2_lettersAsIn_15 rfl ?_
            refine E_iadd (z := nI (a + 3)) at_X2_lettersAsIn_16 (nI_add _ _) ?_
            refine E_aload_n at_X2_lettersAsIn_17 rfl ?_
            refine E_iload_n at_X2_lettersAsIn_18 rfl ?_
            refine E_schr (z := nI 99) at_X2_lettersAsIn_19 (by decide) (Nat.le_of_ble_eq_true rfl) (by decide) (by decide) ?_
            refine E_callV (v := some (.int (nI 1))) (As := [.ref 34, .int (nI (a + 3)), .int (nI 99)]) (r0 := []) (cs2 := (ww im lf s d k ls (-1) (nI n) (nI a) rn rq lt m1 m2 m3 m4 bd fc hd sz el t g fm hm so si sh ce ca td wa kp la bf oo bo pw ow tr)) at_X2_lettersAsIn_22 rfl rfl (Nat.le_of_ble_eq_true rfl) rfl (ab_rvOf w34 rfl) (w_st1 (x := a + 3) (c := 99) (by omega) (by decide) hn l_lt hlt hb3) (by decide) rfl ?_
            refine E_if (t := 30) (b := true) at_X2_lettersAsIn_25 rfl (by decide) ?_
            refine E_iinc (y := nI 4) (L2 := [some (.ref 34), some (.ref 2000000), some (.int (nI 4))]) at_X2_lettersAsIn_30 rfl (by decide) rfl ?_
            refine E_goto (t := 2) at_X2_lettersAsIn_33 rfl ?_
            refine E_iload_n at_X2_lettersAsIn_2 rfl ?_
            refine E_aload_n at_X2_lettersAsIn_3 rfl ?_
            refine E_slen (z := nI 5) at_X2_lettersAsIn_4 (by decide) (Nat.le_of_ble_eq_true rfl) (by decide) ?_
            refine E_ic (t := 36) (b := false) at_X2_lettersAsIn_7 rfl (by decide) ?_
            refine E_aload_n at_X2_lettersAsIn_10 rfl ?_
            refine E_aload_n at_X2_lettersAsIn_11 rfl ?_
            refine E_getfield (v := .int (nI a)) at_X2_lettersAsIn_12 w34 rfl (by decide) rfl ?_
            refine E_iload_n at_X2_lettersAsIn_15 rfl ?_
            refine E_iadd (z := nI (a + 4)) at_X2_lettersAsIn_16 (nI_add _ _) ?_
            refine E_aload_n at_X2_lettersAsIn_17 rfl ?_
            refine E_iload_n at_X2_lettersAsIn_18 rfl ?_
            refine E_schr (z := nI 101) at_X2_lettersAsIn_19 (by decide) (Nat.le_of_ble_eq_true rfl) (by decide) (by decide) ?_
            refine E_callV (v := some (.int (nI 0))) (As := [.ref 34, .int (nI (a + 4)), .int (nI 101)]) (r0 := []) (cs2 := (ww im lf s d k ls (-1) (nI n) (nI a) rn rq lt m1 m2 m3 m4 bd fc hd sz el t g fm hm so si sh ce ca td wa kp la bf oo bo pw ow tr)) at_X2_lettersAsIn_22 rfl rfl (Nat.le_of_ble_eq_true rfl) rfl (ab_rvOf w34 rfl) (w_st0 (x := a + 4) (c := 101) (by omega) (by decide) hn l_lt hlt hb4) (by decide) rfl ?_
            refine E_if (t := 30) (b := false) at_X2_lettersAsIn_25 rfl (by decide) ?_
            refine E_iload_n at_X2_lettersAsIn_28 rfl ?_
            exact E_iret at_X2_lettersAsIn_29 rfl
          · have q0 : mtc e n [112, 105, 101, 99, 101] (a) = mtc e n [105, 101, 99, 101] (a + 1) + 1 := mtc_t hb0
            have q1 : mtc e n [105, 101, 99, 101] (a + 1) = mtc e n [101, 99, 101] (a + 1 + 1) + 1 := mtc_t hb1
            have q2 : mtc e n [101, 99, 101] (a + 1 + 1) = mtc e n [99, 101] (a + 1 + 1 + 1) + 1 := mtc_t hb2
            have q3 : mtc e n [99, 101] (a + 1 + 1 + 1) = mtc e n [101] (a + 1 + 1 + 1 + 1) + 1 := mtc_t hb3
            have q4 : mtc e n [101] (a + 1 + 1 + 1 + 1) = mtc e n [] (a + 1 + 1 + 1 + 1 + 1) + 1 := mtc_t hb4
            have q5 : mtc e n [] (a + 1 + 1 + 1 + 1 + 1) = 0 := rfl
            have hm0 : mj0 e n a = 5 := by unfold mj0; omega
            rw [hm0]
            refine Ef.in (md := mX2_lettersAsIn) (L := [some (.ref 34), some (.ref 2000000), none]) rfl (Nat.le_of_ble_eq_true rfl) rfl ?_
            refine E_iconst (x := nI 0) at_X2_lettersAsIn_0 (by decide) ?_
            refine E_istore_n (L2 := [some (.ref 34), some (.ref 2000000), some (.int (nI 0))]) at_X2_lettersAsIn_1 rfl ?_
            refine E_iload_n at_X2_lettersAsIn_2 rfl ?_
            refine E_aload_n at_X2_lettersAsIn_3 rfl ?_
            refine E_slen (z := nI 5) at_X2_lettersAsIn_4 (by decide) (Nat.le_of_ble_eq_true rfl) (by decide) ?_
            refine E_ic (t := 36) (b := false) at_X2_lettersAsIn_7 rfl (by decide) ?_
            refine E_aload_n at_X2_lettersAsIn_10 rfl ?_
            refine E_aload_n at_X2_lettersAsIn_11 rfl ?_
            refine E_getfield (v := .int (nI a)) at_X2_lettersAsIn_12 w34 rfl (by decide) rfl ?_
            refine E_iload_n at_X2_lettersAsIn_15 rfl ?_
            refine E_iadd (z := nI (a + 0)) at_X2_lettersAsIn_16 (nI_add _ _) ?_
            refine E_aload_n at_X2_lettersAsIn_17 rfl ?_
            refine E_iload_n at_X2_lettersAsIn_18 rfl ?_
            refine E_schr (z := nI 112) at_X2_lettersAsIn_19 (by decide) (Nat.le_of_ble_eq_true rfl) (by decide) (by decide) ?_
            refine E_callV (v := some (.int (nI 1))) (As := [.ref 34, .int (nI (a + 0)), .int (nI 112)]) (r0 := []) (cs2 := (ww im lf s d k ls (-1) (nI n) (nI a) rn rq lt m1 m2 m3 m4 bd fc hd sz el t g fm hm so si sh ce ca td wa kp la bf oo bo pw ow tr)) at_X2_lettersAsIn_22 rfl rfl (Nat.le_of_ble_eq_true rfl) rfl (ab_rvOf w34 rfl) (w_st1 (x := a + 0) (c := 112) (by omega) (by decide) hn l_lt hlt hb0) (by decide) rfl ?_
            refine E_if (t := 30) (b := true) at_X2_lettersAsIn_25 rfl (by decide) ?_
            refine E_iinc (y := nI 1) (L2 := [some (.ref 34), some (.ref 2000000), some (.int (nI 1))]) at_X2_lettersAsIn_30 rfl (by decide) rfl ?_
            refine E_goto (t := 2) at_X2_lettersAsIn_33 rfl ?_
            refine E_iload_n at_X2_lettersAsIn_2 rfl ?_
            refine E_aload_n at_X2_lettersAsIn_3 rfl ?_
            refine E_slen (z := nI 5) at_X2_lettersAsIn_4 (by decide) (Nat.le_of_ble_eq_true rfl) (by decide) ?_
            refine E_ic (t := 36) (b := false) at_X2_lettersAsIn_7 rfl (by decide) ?_
            refine E_aload_n at_X2_lettersAsIn_10 rfl ?_
            refine E_aload_n at_X2_lettersAsIn_11 rfl ?_
            refine E_getfield (v := .int (nI a)) at_X2_lettersAsIn_12 w34 rfl (by decide) rfl ?_
            refine E_iload_n at_X2_lettersAsIn_15 rfl ?_
            refine E_iadd (z := nI (a + 1)) at_X2_lettersAsIn_16 (nI_add _ _) ?_
            refine E_aload_n at_X2_lettersAsIn_17 rfl ?_
            refine E_iload_n at_X2_lettersAsIn_18 rfl ?_
            refine E_schr (z := nI 105) at_X2_lettersAsIn_19 (by decide) (Nat.le_of_ble_eq_true rfl) (by decide) (by decide) ?_
            refine E_callV (v := some (.int (nI 1))) (As := [.ref 34, .int (nI (a + 1)), .int (nI 105)]) (r0 := []) (cs2 := (ww im lf s d k ls (-1) (nI n) (nI a) rn rq lt m1 m2 m3 m4 bd fc hd sz el t g fm hm so si sh ce ca td wa kp la bf oo bo pw ow tr)) at_X2_lettersAsIn_22 rfl rfl (Nat.le_of_ble_eq_true rfl) rfl (ab_rvOf w34 rfl) (w_st1 (x := a + 1) (c := 105) (by omega) (by decide) hn l_lt hlt hb1) (by decide) rfl ?_
            refine E_if (t := 30) (b := true) at_X2_lettersAsIn_25 rfl (by decide) ?_
            refine E_iinc (y := nI 2) (L2 := [some (.ref 34), some (.ref 2000000), some (.int (nI 2))]) at_X2_lettersAsIn_30 rfl (by decide) rfl ?_
            refine E_goto (t := 2) at_X2_lettersAsIn_33 rfl ?_
            refine E_iload_n at_X2_lettersAsIn_2 rfl ?_
            refine E_aload_n at_X2_lettersAsIn_3 rfl ?_
            refine E_slen (z := nI 5) at_X2_lettersAsIn_4 (by decide) (Nat.le_of_ble_eq_true rfl) (by decide) ?_
            refine E_ic (t := 36) (b := false) at_X2_lettersAsIn_7 rfl (by decide) ?_
            refine E_aload_n at_X2_lettersAsIn_10 rfl ?_
            refine E_aload_n at_X2_lettersAsIn_11 rfl ?_
            refine E_getfield (v := .int (nI a)) at_X2_lettersAsIn_12 w34 rfl (by decide) rfl ?_
            refine E_iload_n at_X2_lettersAsIn_15 rfl ?_
            refine E_iadd (z := nI (a + 2)) at_X2_lettersAsIn_16 (nI_add _ _) ?_
            refine E_aload_n at_X2_lettersAsIn_17 rfl ?_
            refine E_iload_n at_X2_lettersAsIn_18 rfl ?_
            refine E_schr (z := nI 101) at_X2_lettersAsIn_19 (by decide) (Nat.le_of_ble_eq_true rfl) (by decide) (by decide) ?_
            refine E_callV (v := some (.int (nI 1))) (As := [.ref 34, .int (nI (a + 2)), .int (nI 101)]) (r0 := []) (cs2 := (ww im lf s d k ls (-1) (nI n) (nI a) rn rq lt m1 m2 m3 m4 bd fc hd sz el t g fm hm so si sh ce ca td wa kp la bf oo bo pw ow tr)) at_X2_lettersAsIn_22 rfl rfl (Nat.le_of_ble_eq_true rfl) rfl (ab_rvOf w34 rfl) (w_st1 (x := a + 2) (c := 101) (by omega) (by decide) hn l_lt hlt hb2) (by decide) rfl ?_
            refine E_if (t := 30) (b := true) at_X2_lettersAsIn_25 rfl (by decide) ?_
            refine E_iinc (y := nI 3) (L2 := [some (.ref 34), some (.ref 2000000), some (.int (nI 3))]) at_X2_lettersAsIn_30 rfl (by decide) rfl ?_
            refine E_goto (t := 2) at_X2_lettersAsIn_33 rfl ?_
            refine E_iload_n at_X2_lettersAsIn_2 rfl ?_
            refine E_aload_n at_X2_lettersAsIn_3 rfl ?_
            refine E_slen (z := nI 5) at_X2_lettersAsIn_4 (by decide) (Nat.le_of_ble_eq_true rfl) (by decide) ?_
            refine E_ic (t := 36) (b := false) at_X2_lettersAsIn_7 rfl (by decide) ?_
            refine E_aload_n at_X2_lettersAsIn_10 rfl ?_
            refine E_aload_n at_X2_lettersAsIn_11 rfl ?_
            refine E_getfield (v := .int (nI a)) at_X2_lettersAsIn_12 w34 rfl (by decide) rfl ?_
            refine E_iload_n at_X2_lettersAsIn_15 rfl ?_
            refine E_iadd (z := nI (a + 3)) at_X2_lettersAsIn_16 (nI_add _ _) ?_
            refine E_aload_n at_X2_lettersAsIn_17 rfl ?_
            refine E_iload_n at_X2_lettersAsIn_18 rfl ?_
            refine E_schr (z := nI 99) at_X2_lettersAsIn_19 (by decide) (Nat.le_of_ble_eq_true rfl) (by decide) (by decide) ?_
            refine E_callV (v := some (.int (nI 1))) (As := [.ref 34, .int (nI (a + 3)), .int (nI 99)]) (r0 := []) (cs2 := (ww im lf s d k ls (-1) (nI n) (nI a) rn rq lt m1 m2 m3 m4 bd fc hd sz el t g fm hm so si sh ce ca td wa kp la bf oo bo pw ow tr)) at_X2_lettersAsIn_22 rfl rfl (Nat.le_of_ble_eq_true rfl) rfl (ab_rvOf w34 rfl) (w_st1 (x := a + 3) (c := 99) (by omega) (by decide) hn l_lt hlt hb3) (by decide) rfl ?_
            refine E_if (t := 30) (b := true) at_X2_lettersAsIn_25 rfl (by decide) ?_
            refine E_iinc (y := nI 4) (L2 := [some (.ref 34), some (.ref 2000000), some (.int (nI 4))]) at_X2_lettersAsIn_30 rfl (by decide) rfl ?_
            refine E_goto (t := 2) at_X2_lettersAsIn_33 rfl ?_
            refine E_iload_n at_X2_lettersAsIn_2 rfl ?_
            refine E_aload_n at_X2_lettersAsIn_3 rfl ?_
            refine E_slen (z := nI 5) at_X2_lettersAsIn_4 (by decide) (Nat.le_of_ble_eq_true rfl) (by decide) ?_
            refine E_ic (t := 36) (b := false) at_X2_lettersAsIn_7 rfl (by decide) ?_
            refine E_aload_n at_X2_lettersAsIn_10 rfl ?_
            refine E_aload_n at_X2_lettersAsIn_11 rfl ?_
            refine E_getfield (v := .int (nI a)) at_X2_lettersAsIn_12 w34 rfl (by decide) rfl ?_
            refine E_iload_n at_X2_lettersAsIn_15 rfl ?_
            refine E_iadd (z := nI (a + 4)) at_X2_lettersAsIn_16 (nI_add _ _) ?_
            refine E_aload_n at_X2_lettersAsIn_17 rfl ?_
            refine E_iload_n at_X2_lettersAsIn_18 rfl ?_
            refine E_schr (z := nI 101) at_X2_lettersAsIn_19 (by decide) (Nat.le_of_ble_eq_true rfl) (by decide) (by decide) ?_
            refine E_callV (v := some (.int (nI 1))) (As := [.ref 34, .int (nI (a + 4)), .int (nI 101)]) (r0 := []) (cs2 := (ww im lf s d k ls (-1) (nI n) (nI a) rn rq lt m1 m2 m3 m4 bd fc hd sz el t g fm hm so si sh ce ca td wa kp la bf oo bo pw ow tr)) at_X2_lettersAsIn_22 rfl rfl (Nat.le_of_ble_eq_true rfl) rfl (ab_rvOf w34 rfl) (w_st1 (x := a + 4) (c := 101) (by omega) (by decide) hn l_lt hlt hb4) (by decide) rfl ?_
            refine E_if (t := 30) (b := true) at_X2_lettersAsIn_25 rfl (by decide) ?_
            refine E_iinc (y := nI 5) (L2 := [some (.ref 34), some (.ref 2000000), some (.int (nI 5))]) at_X2_lettersAsIn_30 rfl (by decide) rfl ?_
            refine E_goto (t := 2) at_X2_lettersAsIn_33 rfl ?_
            refine E_iload_n at_X2_lettersAsIn_2 rfl ?_
            refine E_aload_n at_X2_lettersAsIn_3 rfl ?_
            refine E_slen (z := nI 5) at_X2_lettersAsIn_4 (by decide) (Nat.le_of_ble_eq_true rfl) (by decide) ?_
            refine E_ic (t := 36) (b := true) at_X2_lettersAsIn_7 rfl (by decide) ?_
            refine E_aload_n at_X2_lettersAsIn_36 rfl ?_
            refine E_slen (z := nI 5) at_X2_lettersAsIn_37 (by decide) (Nat.le_of_ble_eq_true rfl) (by decide) ?_
            exact E_iret at_X2_lettersAsIn_40 rfl
set_option maxHeartbeats 400000 in
theorem w_li1 {e : List Int64} {n a : Nat} (hn : n ≤ 160) (ha : a ≤ n) (l_lt : lt.length = 160) (hlt : ∀ i, i < n → lt.getD i 0 = tw e i) : Ev ab_Z0 2 23 [.ref 34, .ref 2000001] (ww im lf s d k ls (-1) (nI n) (nI a) rn rq lt m1 m2 m3 m4 bd fc hd sz el t g fm hm so si sh ce ca td wa kp la bf oo bo pw ow tr) (some (.int (nI (mj1 e n a))), (ww im lf s d k ls (-1) (nI n) (nI a) rn rq lt m1 m2 m3 m4 bd fc hd sz el t g fm hm so si sh ce ca td wa kp la bf oo bo pw ow tr)) := by
  rcases bo2 (chB e n (a) 112) with hb0 | hb0
  · have q0 : mtc e n [112, 101, 114, 115, 111, 110] (a) = 0 := mtc_f hb0
    have hm0 : mj1 e n a = 0 := by unfold mj1; omega
    rw [hm0]
    refine Ef.in (md := mX2_lettersAsIn) (L := [some (.ref 34), some (.ref 2000001), none]) rfl (Nat.le_of_ble_eq_true rfl) rfl ?_
    refine E_iconst (x := nI 0) at_X2_lettersAsIn_0 (by decide) ?_
    refine E_istore_n (L2 := [some (.ref 34), some (.ref 2000001), some (.int (nI 0))]) at_X2_lettersAsIn_1 rfl ?_
    refine E_iload_n at_X2_lettersAsIn_2 rfl ?_
    refine E_aload_n at_X2_lettersAsIn_3 rfl ?_
    refine E_slen (z := nI 6) at_X2_lettersAsIn_4 (by decide) (Nat.le_of_ble_eq_true rfl) (by decide) ?_
    refine E_ic (t := 36) (b := false) at_X2_lettersAsIn_7 rfl (by decide) ?_
    refine E_aload_n at_X2_lettersAsIn_10 rfl ?_
    refine E_aload_n at_X2_lettersAsIn_11 rfl ?_
    refine E_getfield (v := .int (nI a)) at_X2_lettersAsIn_12 w34 rfl (by decide) rfl ?_
    refine E_iload_n at_X2_lettersAsIn_15 rfl ?_
    refine E_iadd (z := nI (a + 0)) at_X2_lettersAsIn_16 (nI_add _ _) ?_
    refine E_aload_n at_X2_lettersAsIn_17 rfl ?_
    refine E_iload_n at_X2_lettersAsIn_18 rfl ?_
    refine E_schr (z := nI 112) at_X2_lettersAsIn_19 (by decide) (Nat.le_of_ble_eq_true rfl) (by decide) (by decide) ?_
    refine E_callV (v := some (.int (nI 0))) (As := [.ref 34, .int (nI (a + 0)), .int (nI 112)]) (r0 := []) (cs2 := (ww im lf s d k ls (-1) (nI n) (nI a) rn rq lt m1 m2 m3 m4 bd fc hd sz el t g fm hm so si sh ce ca td wa kp la bf oo bo pw ow tr)) at_X2_lettersAsIn_22 rfl rfl (Nat.le_of_ble_eq_true rfl) rfl (ab_rvOf w34 rfl) (w_st0 (x := a + 0) (c := 112) (by omega) (by decide) hn l_lt hlt hb0) (by decide) rfl ?_
    refine E_if (t := 30) (b := false) at_X2_lettersAsIn_25 rfl (by decide) ?_
    refine E_iload_n at_X2_lettersAsIn_28 rfl ?_
    exact E_iret at_X2_lettersAsIn_29 rfl
  · rcases bo2 (chB e n (a + 1) 101) with hb1 | hb1
    · have q0 : mtc e n [112, 101, 114, 115, 111, 110] (a) = mtc e n [101, 114, 115, 111, 110] (a + 1) + 1 := mtc_t hb0
      have q1 : mtc e n [101, 114, 115, 111, 110] (a + 1) = 0 := mtc_f hb1
      have hm0 : mj1 e n a = 1 := by unfold mj1; omega
      rw [hm0]
      refine Ef.in (md := mX2_lettersAsIn) (L := [some (.ref 34), some (.ref 2000001), none]) rfl (Nat.le_of_ble_eq_true rfl) rfl ?_
      refine E_iconst (x := nI 0) at_X2_lettersAsIn_0 (by decide) ?_
      refine E_istore_n (L2 := [some (.ref 34), some (.ref 2000001), some (.int (nI 0))]) at_X2_lettersAsIn_1 rfl ?_
      refine E_iload_n at_X2_lettersAsIn_2 rfl ?_
      refine E_aload_n at_X2_lettersAsIn_3 rfl ?_
      refine E_slen (z := nI 6) at_X2_lettersAsIn_4 (by decide) (Nat.le_of_ble_eq_true rfl) (by decide) ?_
      refine E_ic (t := 36) (b := false) at_X2_lettersAsIn_7 rfl (by decide) ?_
      refine E_aload_n at_X2_lettersAsIn_10 rfl ?_
      refine E_aload_n at_X2_lettersAsIn_11 rfl ?_
      refine E_getfield (v := .int (nI a)) at_X2_lettersAsIn_12 w34 rfl (by decide) rfl ?_
      refine E_iload_n at_X2_lettersAsIn_15 rfl ?_
      refine E_iadd (z := nI (a + 0)) at_X2_lettersAsIn_16 (nI_add _ _) ?_
      refine E_aload_n at_X2_lettersAsIn_17 rfl ?_
      refine E_iload_n at_X2_lettersAsIn_18 rfl ?_
      refine E_schr (z := nI 112) at_X2_lettersAsIn_19 (by decide) (Nat.le_of_ble_eq_true rfl) (by decide) (by decide) ?_
      refine E_callV (v := some (.int (nI 1))) (As := [.ref 34, .int (nI (a + 0)), .int (nI 112)]) (r0 := []) (cs2 := (ww im lf s d k ls (-1) (nI n) (nI a) rn rq lt m1 m2 m3 m4 bd fc hd sz el t g fm hm so si sh ce ca td wa kp la bf oo bo pw ow tr)) at_X2_lettersAsIn_22 rfl rfl (Nat.le_of_ble_eq_true rfl) rfl (ab_rvOf w34 rfl) (w_st1 (x := a + 0) (c := 112) (by omega) (by decide) hn l_lt hlt hb0) (by decide) rfl ?_
      refine E_if (t := 30) (b := true) at_X2_lettersAsIn_25 rfl (by decide) ?_
      refine E_iinc (y := nI 1) (L2 := [some (.ref 34), some (.ref 2000001), some (.int (nI 1))]) at_X2_lettersAsIn_30 rfl (by decide) rfl ?_
      refine E_goto (t := 2) at_X2_lettersAsIn_33 rfl ?_
      refine E_iload_n at_X2_lettersAsIn_2 rfl ?_
      refine E_aload_n at_X2_lettersAsIn_3 rfl ?_
      refine E_slen (z := nI 6) at_X2_lettersAsIn_4 (by decide) (Nat.le_of_ble_eq_true rfl) (by decide) ?_
      refine E_ic (t := 36) (b := false) at_X2_lettersAsIn_7 rfl (by decide) ?_
      refine E_aload_n at_X2_lettersAsIn_10 rfl ?_
      refine E_aload_n at_X2_lettersAsIn_11 rfl ?_
      refine E_getfield (v := .int (nI a)) at_X2_lettersAsIn_12 w34 rfl (by decide) rfl ?_
      refine E_iload_n at_X2_lettersAsIn_15 rfl ?_
      refine E_iadd (z := nI (a + 1)) at_X2_lettersAsIn_16 (nI_add _ _) ?_
      refine E_aload_n at_X2_lettersAsIn_17 rfl ?_
      refine E_iload_n at_X2_lettersAsIn_18 rfl ?_
      refine E_schr (z := nI 101) at_X2_lettersAsIn_19 (by decide) (Nat.le_of_ble_eq_true rfl) (by decide) (by decide) ?_
      refine E_callV (v := some (.int (nI 0))) (As := [.ref 34, .int (nI (a + 1)), .int (nI 101)]) (r0 := []) (cs2 := (ww im lf s d k ls (-1) (nI n) (nI a) rn rq lt m1 m2 m3 m4 bd fc hd sz el t g fm hm so si sh ce ca td wa kp la bf oo bo pw ow tr)) at_X2_lettersAsIn_22 rfl rfl (Nat.le_of_ble_eq_true rfl) rfl (ab_rvOf w34 rfl) (w_st0 (x := a + 1) (c := 101) (by omega) (by decide) hn l_lt hlt hb1) (by decide) rfl ?_
      refine E_if (t := 30) (b := false) at_X2_lettersAsIn_25 rfl (by decide) ?_
      refine E_iload_n at_X2_lettersAsIn_28 rfl ?_
      exact E_iret at_X2_lettersAsIn_29 rfl
    · rcases bo2 (chB e n (a + 1 + 1) 114) with hb2 | hb2
      · have q0 : mtc e n [112, 101, 114, 115, 111, 110] (a) = mtc e n [101, 114, 115, 111, 110] (a + 1) + 1 := mtc_t hb0
        have q1 : mtc e n [101, 114, 115, 111, 110] (a + 1) = mtc e n [114, 115, 111, 110] (a + 1 + 1) + 1 := mtc_t hb1
        have q2 : mtc e n [114, 115, 111, 110] (a + 1 + 1) = 0 := mtc_f hb2
        have hm0 : mj1 e n a = 2 := by unfold mj1; omega
        rw [hm0]
        refine Ef.in (md := mX2_lettersAsIn) (L := [some (.ref 34), some (.ref 2000001), none]) rfl (Nat.le_of_ble_eq_true rfl) rfl ?_
        refine E_iconst (x := nI 0) at_X2_lettersAsIn_0 (by decide) ?_
        refine E_istore_n (L2 := [some (.ref 34), some (.ref 2000001), some (.int (nI 0))]) at_X2_lettersAsIn_1 rfl ?_
        refine E_iload_n at_X2_lettersAsIn_2 rfl ?_
        refine E_aload_n at_X2_lettersAsIn_3 rfl ?_
        refine E_slen (z := nI 6) at_X2_lettersAsIn_4 (by decide) (Nat.le_of_ble_eq_true rfl) (by decide) ?_
        refine E_ic (t := 36) (b := false) at_X2_lettersAsIn_7 rfl (by decide) ?_
        refine E_aload_n at_X2_lettersAsIn_10 rfl ?_
        refine E_aload_n at_X2_lettersAsIn_11 rfl ?_
        refine E_getfield (v := .int (nI a)) at_X2_lettersAsIn_12 w34 rfl (by decide) rfl ?_
        refine E_iload_n at_X2_lettersAsIn_15 rfl ?_
        refine E_iadd (z := nI (a + 0)) at_X2_lettersAsIn_16 (nI_add _ _) ?_
        refine E_aload_n at_X2_lettersAsIn_17 rfl ?_
        refine E_iload_n at_X2_lettersAsIn_18 rfl ?_
        refine E_schr (z := nI 112) at_X2_lettersAsIn_19 (by decide) (Nat.le_of_ble_eq_true rfl) (by decide) (by decide) ?_
        refine E_callV (v := some (.int (nI 1))) (As := [.ref 34, .int (nI (a + 0)), .int (nI 112)]) (r0 := []) (cs2 := (ww im lf s d k ls (-1) (nI n) (nI a) rn rq lt m1 m2 m3 m4 bd fc hd sz el t g fm hm so si sh ce ca td wa kp la bf oo bo pw ow tr)) at_X2_lettersAsIn_22 rfl rfl (Nat.le_of_ble_eq_true rfl) rfl (ab_rvOf w34 rfl) (w_st1 (x := a + 0) (c := 112) (by omega) (by decide) hn l_lt hlt hb0) (by decide) rfl ?_
        refine E_if (t := 30) (b := true) at_X2_lettersAsIn_25 rfl (by decide) ?_
        refine E_iinc (y := nI 1) (L2 := [some (.ref 34), some (.ref 2000001), some (.int (nI 1))]) at_X2_lettersAsIn_30 rfl (by decide) rfl ?_
        refine E_goto (t := 2) at_X2_lettersAsIn_33 rfl ?_
        refine E_iload_n at_X2_lettersAsIn_2 rfl ?_
        refine E_aload_n at_X2_lettersAsIn_3 rfl ?_
        refine E_slen (z := nI 6) at_X2_lettersAsIn_4 (by decide) (Nat.le_of_ble_eq_true rfl) (by decide) ?_
        refine E_ic (t := 36) (b := false) at_X2_lettersAsIn_7 rfl (by decide) ?_
        refine E_aload_n at_X2_lettersAsIn_10 rfl ?_
        refine E_aload_n at_X2_lettersAsIn_11 rfl ?_
        refine E_getfield (v := .int (nI a)) at_X2_lettersAsIn_12 w34 rfl (by decide) rfl ?_
        refine E_iload_n at_X2_lettersAsIn_15 rfl ?_
        refine E_iadd (z := nI (a + 1)) at_X2_lettersAsIn_16 (nI_add _ _) ?_
        refine E_aload_n at_X2_lettersAsIn_17 rfl ?_
        refine E_iload_n at_X2_lettersAsIn_18 rfl ?_
        refine E_schr (z := nI 101) at_X2_lettersAsIn_19 (by decide) (Nat.le_of_ble_eq_true rfl) (by decide) (by decide) ?_
        refine E_callV (v := some (.int (nI 1))) (As := [.ref 34, .int (nI (a + 1)), .int (nI 101)]) (r0 := []) (cs2 := (ww im lf s d k ls (-1) (nI n) (nI a) rn rq lt m1 m2 m3 m4 bd fc hd sz el t g fm hm so si sh ce ca td wa kp la bf oo bo pw ow tr)) at_X2_lettersAsIn_22 rfl rfl (Nat.le_of_ble_eq_true rfl) rfl (ab_rvOf w34 rfl) (w_st1 (x := a + 1) (c := 101) (by omega) (by decide) hn l_lt hlt hb1) (by decide) rfl ?_
        refine E_if (t := 30) (b := true) at_X2_lettersAsIn_25 rfl (by decide) ?_
        refine E_iinc (y := nI 2) (L2 := [some (.ref 34), some (.ref 2000001), some (.int (nI 2))]) at_X2_lettersAsIn_30 rfl (by decide) rfl ?_
        refine E_goto (t := 2) at_X2_lettersAsIn_33 rfl ?_
        refine E_iload_n at_X2_lettersAsIn_2 rfl ?_
        refine E_aload_n at_X2_lettersAsIn_3 rfl ?_
        refine E_slen (z := nI 6) at_X2_lettersAsIn_4 (by decide) (Nat.le_of_ble_eq_true rfl) (by decide) ?_
        refine E_ic (t := 36) (b := false) at_X2_lettersAsIn_7 rfl (by decide) ?_
        refine E_aload_n at_X2_lettersAsIn_10 rfl ?_
        refine E_aload_n at_X2_lettersAsIn_11 rfl ?_
        refine E_getfield (v := .int (nI a)) at_X2_lettersAsIn_12 w34 rfl (by decide) rfl ?_
        refine E_iload_n at_X2_lettersAsIn_15 rfl ?_
        refine E_iadd (z := nI (a + 2)) at_X2_lettersAsIn_16 (nI_add _ _) ?_
        refine E_aload_n at_X2_lettersAsIn_17 rfl ?_
        refine E_iload_n at_X2_lettersAsIn_18 rfl ?_
        refine E_schr (z := nI 114) at_X2_lettersAsIn_19 (by decide) (Nat.le_of_ble_eq_true rfl) (by decide) (by decide) ?_
        refine E_callV (v := some (.int (nI 0))) (As := [.ref 34, .int (nI (a + 2)), .int (nI 114)]) (r0 := []) (cs2 := (ww im lf s d k ls (-1) (nI n) (nI a) rn rq lt m1 m2 m3 m4 bd fc hd sz el t g fm hm so si sh ce ca td wa kp la bf oo bo pw ow tr)) at_X2_lettersAsIn_22 rfl rfl (Nat.le_of_ble_eq_true rfl) rfl (ab_rvOf w34 rfl) (w_st0 (x := a + 2) (c := 114) (by omega) (by decide) hn l_lt hlt hb2) (by decide) rfl ?_
        refine E_if (t := 30) (b := false) at_X2_lettersAsIn_25 rfl (by decide) ?_
        refine E_iload_n at_X2_lettersAsIn_28 rfl ?_
        exact E_iret at_X2_lettersAsIn_29 rfl
      · rcases bo2 (chB e n (a + 1 + 1 + 1) 115) with hb3 | hb3
        · have q0 : mtc e n [112, 101, 114, 115, 111, 110] (a) = mtc e n [101, 114, 115, 111, 110] (a + 1) + 1 := mtc_t hb0
          have q1 : mtc e n [101, 114, 115, 111, 110] (a + 1) = mtc e n [114, 115, 111, 110] (a + 1 + 1) + 1 := mtc_t hb1
          have q2 : mtc e n [114, 115, 111, 110] (a + 1 + 1) = mtc e n [115, 111, 110] (a + 1 + 1 + 1) + 1 := mtc_t hb2
          have q3 : mtc e n [115, 111, 110] (a + 1 + 1 + 1) = 0 := mtc_f hb3
          have hm0 : mj1 e n a = 3 := by unfold mj1; omega
          rw [hm0]
          refine Ef.in (md := mX2_lettersAsIn) (L := [some (.ref 34), some (.ref 2000001), none]) rfl (Nat.le_of_ble_eq_true rfl) rfl ?_
          refine E_iconst (x := nI 0) at_X2_lettersAsIn_0 (by decide) ?_
          refine E_istore_n (L2 := [some (.ref 34), some (.ref 2000001), some (.int (nI 0))]) at_X2_lettersAsIn_1 rfl ?_
          refine E_iload_n at_X2_lettersAsIn_2 rfl ?_
          refine E_aload_n at_X2_lettersAsIn_3 rfl ?_
          refine E_slen (z := nI 6) at_X2_lettersAsIn_4 (by decide) (Nat.le_of_ble_eq_true rfl) (by decide) ?_
          refine E_ic (t := 36) (b := false) at_X2_lettersAsIn_7 rfl (by decide) ?_
          refine E_aload_n at_X2_lettersAsIn_10 rfl ?_
          refine E_aload_n at_X2_lettersAsIn_11 rfl ?_
          refine E_getfield (v := .int (nI a)) at_X2_lettersAsIn_12 w34 rfl (by decide) rfl ?_
          refine E_iload_n at_X2_lettersAsIn_15 rfl ?_
          refine E_iadd (z := nI (a + 0)) at_X2_lettersAsIn_16 (nI_add _ _) ?_
          refine E_aload_n at_X2_lettersAsIn_17 rfl ?_
          refine E_iload_n at_X2_lettersAsIn_18 rfl ?_
          refine E_schr (z := nI 112) at_X2_lettersAsIn_19 (by decide) (Nat.le_of_ble_eq_true rfl) (by decide) (by decide) ?_
          refine E_callV (v := some (.int (nI 1))) (As := [.ref 34, .int (nI (a + 0)), .int (nI 112)]) (r0 := []) (cs2 := (ww im lf s d k ls (-1) (nI n) (nI a) rn rq lt m1 m2 m3 m4 bd fc hd sz el t g fm hm so si sh ce ca td wa kp la bf oo bo pw ow tr)) at_X2_lettersAsIn_22 rfl rfl (Nat.le_of_ble_eq_true rfl) rfl (ab_rvOf w34 rfl) (w_st1 (x := a + 0) (c := 112) (by omega) (by decide) hn l_lt hlt hb0) (by decide) rfl ?_
          refine E_if (t := 30) (b := true) at_X2_lettersAsIn_25 rfl (by decide) ?_
          refine E_iinc (y := nI 1) (L2 := [some (.ref 34), some (.ref 2000001), some (.int (nI 1))]) at_X2_lettersAsIn_30 rfl (by decide) rfl ?_
          refine E_goto (t := 2) at_X2_lettersAsIn_33 rfl ?_
          refine E_iload_n at_X2_lettersAsIn_2 rfl ?_
          refine E_aload_n at_X2_lettersAsIn_3 rfl ?_
          refine E_slen (z := nI 6) at_X2_lettersAsIn_4 (by decide) (Nat.le_of_ble_eq_true rfl) (by decide) ?_
          refine E_ic (t := 36) (b := false) at_X2_lettersAsIn_7 rfl (by decide) ?_
          refine E_aload_n at_X2_lettersAsIn_10 rfl ?_
          refine E_aload_n at_X2_lettersAsIn_11 rfl ?_
          refine E_getfield (v := .int (nI a)) at_X2_lettersAsIn_12 w34 rfl (by decide) rfl ?_
          refine E_iload_n at_X2_lettersAsIn_15 rfl ?_
          refine E_iadd (z := nI (a + 1)) at_X2_lettersAsIn_16 (nI_add _ _) ?_
          refine E_aload_n at_X2_lettersAsIn_17 rfl ?_
          refine E_iload_n at_X2_lettersAsIn_18 rfl ?_
          refine E_schr (z := nI 101) at_X2_lettersAsIn_19 (by decide) (Nat.le_of_ble_eq_true rfl) (by decide) (by decide) ?_
          refine E_callV (v := some (.int (nI 1))) (As := [.ref 34, .int (nI (a + 1)), .int (nI 101)]) (r0 := []) (cs2 := (ww im lf s d k ls (-1) (nI n) (nI a) rn rq lt m1 m2 m3 m4 bd fc hd sz el t g fm hm so si sh ce ca td wa kp la bf oo bo pw ow tr)) at_X2_lettersAsIn_22 rfl rfl (Nat.le_of_ble_eq_true rfl) rfl (ab_rvOf w34 rfl) (w_st1 (x := a + 1) (c := 101) (by omega) (by decide) hn l_lt hlt hb1) (by decide) rfl ?_
          refine E_if (t := 30) (b := true) at_X2_lettersAsIn_25 rfl (by decide) ?_
          refine E_iinc (y := nI 2) (L2 := [some (.ref 34), some (.ref 2000001), some (.int (nI 2))]) at_X2_lettersAsIn_30 rfl (by decide) rfl ?_
          refine E_goto (t := 2) at_X2_lettersAsIn_33 rfl ?_
          refine E_iload_n at_X2_lettersAsIn_2 rfl ?_
          refine E_aload_n at_X2_lettersAsIn_3 rfl ?_
          refine E_slen (z := nI 6) at_X2_lettersAsIn_4 (by decide) (Nat.le_of_ble_eq_true rfl) (by decide) ?_
          refine E_ic (t := 36) (b := false) at_X2_lettersAsIn_7 rfl (by decide) ?_
          refine E_aload_n at_X2_lettersAsIn_10 rfl ?_
          refine E_aload_n at_X2_lettersAsIn_11 rfl ?_
          refine E_getfield (v := .int (nI a)) at_X2_lettersAsIn_12 w34 rfl (by decide) rfl ?_
          refine E_iload_n at_X2_lettersAsIn_15 rfl ?_
          refine E_iadd (z := nI (a + 2)) at_X2_lettersAsIn_16 (nI_add _ _) ?_
          refine E_aload_n at_X2_lettersAsIn_17 rfl ?_
          refine E_iload_n at_X2_lettersAsIn_18 rfl ?_
          refine E_schr (z := nI 114) at_X2_lettersAsIn_19 (by decide) (Nat.le_of_ble_eq_true rfl) (by decide) (by decide) ?_
          refine E_callV (v := some (.int (nI 1))) (As := [.ref 34, .int (nI (a + 2)), .int (nI 114)]) (r0 := []) (cs2 := (ww im lf s d k ls (-1) (nI n) (nI a) rn rq lt m1 m2 m3 m4 bd fc hd sz el t g fm hm so si sh ce ca td wa kp la bf oo bo pw ow tr)) at_X2_lettersAsIn_22 rfl rfl (Nat.le_of_ble_eq_true rfl) rfl (ab_rvOf w34 rfl) (w_st1 (x := a + 2) (c := 114) (by omega) (by decide) hn l_lt hlt hb2) (by decide) rfl ?_
          refine E_if (t := 30) (b := true) at_X2_lettersAsIn_25 rfl (by decide) ?_
          refine E_iinc (y := nI 3) (L2 := [some (.ref 34), some (.ref 2000001), some (.int (nI 3))]) at_X2_lettersAsIn_30 rfl (by decide) rfl ?_
          refine E_goto (t := 2) at_X2_lettersAsIn_33 rfl ?_
          refine E_iload_n at_X2_lettersAsIn_2 rfl ?_
          refine E_aload_n at_X2_lettersAsIn_3 rfl ?_
          refine E_slen (z := nI 6) at_X2_lettersAsIn_4 (by decide) (Nat.le_of_ble_eq_true rfl) (by decide) ?_
          refine E_ic (t := 36) (b := false) at_X2_lettersAsIn_7 rfl (by decide) ?_
          refine E_aload_n at_X2_lettersAsIn_10 rfl ?_
          refine E_aload_n at_X2_lettersAsIn_11 rfl ?_
          refine E_getfield (v := .int (nI a)) at_X2_lettersAsIn_12 w34 rfl (by decide) rfl ?_
          refine E_iload_n at_X2_lettersAsIn_15 rfl ?_
          refine E_iadd (z := nI (a + 3)) at_X2_lettersAsIn_16 (nI_add _ _) ?_
          refine E_aload_n at_X2_lettersAsIn_17 rfl ?_
          refine E_iload_n at_X2_lettersAsIn_18 rfl ?_
          refine E_schr (z := nI 115) at_X2_lettersAsIn_19 (by decide) (Nat.le_of_ble_eq_true rfl) (by decide) (by decide) ?_
          refine E_callV (v := some (.int (nI 0))) (As := [.ref 34, .int (nI (a + 3)), .int (nI 115)]) (r0 := []) (cs2 := (ww im lf s d k ls (-1) (nI n) (nI a) rn rq lt m1 m2 m3 m4 bd fc hd sz el t g fm hm so si sh ce ca td wa kp la bf oo bo pw ow tr)) at_X2_lettersAsIn_22 rfl rfl (Nat.le_of_ble_eq_true rfl) rfl (ab_rvOf w34 rfl) (w_st0 (x := a + 3) (c := 115) (by omega) (by decide) hn l_lt hlt hb3) (by decide) rfl ?_
          refine E_if (t := 30) (b := false) at_X2_lettersAsIn_25 rfl (by decide) ?_
          refine E_iload_n at_X2_lettersAsIn_28 rfl ?_
          exact E_iret at_X2_lettersAsIn_29 rfl
        · rcases bo2 (chB e n (a + 1 + 1 + 1 + 1) 111) with hb4 | hb4
          · have q0 : mtc e n [112, 101, 114, 115, 111, 110] (a) = mtc e n [101, 114, 115, 111, 110] (a + 1) + 1 := mtc_t hb0
            have q1 : mtc e n [101, 114, 115, 111, 110] (a + 1) = mtc e n [114, 115, 111, 110] (a + 1 + 1) + 1 := mtc_t hb1
            have q2 : mtc e n [114, 115, 111, 110] (a + 1 + 1) = mtc e n [115, 111, 110] (a + 1 + 1 + 1) + 1 := mtc_t hb2
            have q3 : mtc e n [115, 111, 110] (a + 1 + 1 + 1) = mtc e n [111, 110] (a + 1 + 1 + 1 + 1) + 1 := mtc_t hb3
            have q4 : mtc e n [111, 110] (a + 1 + 1 + 1 + 1) = 0 := mtc_f hb4
            have hm0 : mj1 e n a = 4 := by unfold mj1; omega
            rw [hm0]
            refine Ef.in (md := mX2_lettersAsIn) (L := [some (.ref 34), some (.ref 2000001), none]) rfl (Nat.le_of_ble_eq_true rfl) rfl ?_
            refine E_iconst (x := nI 0) at_X2_lettersAsIn_0 (by decide) ?_
            refine E_istore_n (L2 := [some (.ref 34), some (.ref 2000001), some (.int (nI 0))]) at_X2_lettersAsIn_1 rfl ?_
            refine E_iload_n at_X2_lettersAsIn_2 rfl ?_
            refine E_aload_n at_X2_lettersAsIn_3 rfl ?_
            refine E_slen (z := nI 6) at_X2_lettersAsIn_4 (by decide) (Nat.le_of_ble_eq_true rfl) (by decide) ?_
            refine E_ic (t := 36) (b := false) at_X2_lettersAsIn_7 rfl (by decide) ?_
            refine E_aload_n at_X2_lettersAsIn_10 rfl ?_
            refine E_aload_n at_X2_lettersAsIn_11 rfl ?_
            refine E_getfield (v := .int (nI a)) at_X2_lettersAsIn_12 w34 rfl (by decide) rfl ?_
            refine E_iload_n at_X2_lettersAsIn_15 rfl ?_
            refine E_iadd (z := nI (a + 0)) at_X2_lettersAsIn_16 (nI_add _ _) ?_
            refine E_aload_n at_X2_lettersAsIn_17 rfl ?_
            refine E_iload_n at_X2_lettersAsIn_18 rfl ?_
            refine E_schr (z := nI 112) at_X2_lettersAsIn_19 (by decide) (Nat.le_of_ble_eq_true rfl) (by decide) (by decide) ?_
            refine E_callV (v := some (.int (nI 1))) (As := [.ref 34, .int (nI (a + 0)), .int (nI 112)]) (r0 := []) (cs2 := (ww im lf s d k ls (-1) (nI n) (nI a) rn rq lt m1 m2 m3 m4 bd fc hd sz el t g fm hm so si sh ce ca td wa kp la bf oo bo pw ow tr)) at_X2_lettersAsIn_22 rfl rfl (Nat.le_of_ble_eq_true rfl) rfl (ab_rvOf w34 rfl) (w_st1 (x := a + 0) (c := 112) (by omega) (by decide) hn l_lt hlt hb0) (by decide) rfl ?_
            refine E_if (t := 30) (b := true) at_X2_lettersAsIn_25 rfl (by decide) ?_
            refine E_iinc (y := nI 1) (L2 := [some (.ref 34), some (.ref 2000001), some (.int (nI 1))]) at_X2_lettersAsIn_30 rfl (by decide) rfl ?_
            refine E_goto (t := 2) at_X2_lettersAsIn_33 rfl ?_
            refine E_iload_n at_X2_lettersAsIn_2 rfl ?_
            refine E_aload_n at_X2_lettersAsIn_3 rfl ?_
            refine E_slen (z := nI 6) at_X2_lettersAsIn_4 (by decide) (Nat.le_of_ble_eq_true rfl) (by decide) ?_
            refine E_ic (t := 36) (b := false) at_X2_lettersAsIn_7 rfl (by decide) ?_
            refine E_aload_n at_X2_lettersAsIn_10 rfl ?_
            refine E_aload_n at_X2_lettersAsIn_11 rfl ?_
            refine E_getfield (v := .int (nI a)) at_X2_lettersAsIn_12 w34 rfl (by decide) rfl ?_
            refine E_iload_n at_X2_lettersAsIn_15 rfl ?_
            refine E_iadd (z := nI (a + 1)) at_X2_lettersAsIn_16 (nI_add _ _) ?_
            refine E_aload_n at_X2_lettersAsIn_17 rfl ?_
            refine E_iload_n at_X2_lettersAsIn_18 rfl ?_
            refine E_schr (z := nI 101) at_X2_lettersAsIn_19 (by decide) (Nat.le_of_ble_eq_true rfl) (by decide) (by decide) ?_
            refine E_callV (v := some (.int (nI 1))) (As := [.ref 34, .int (nI (a + 1)), .int (nI 101)]) (r0 := []) (cs2 := (ww im lf s d k ls (-1) (nI n) (nI a) rn rq lt m1 m2 m3 m4 bd fc hd sz el t g fm hm so si sh ce ca td wa kp la bf oo bo pw ow tr)) at_X2_lettersAsIn_22 rfl rfl (Nat.le_of_ble_eq_true rfl) rfl (ab_rvOf w34 rfl) (w_st1 (x := a + 1) (c := 101) (by omega) (by decide) hn l_lt hlt hb1) (by decide) rfl ?_
            refine E_if (t := 30) (b := true) at_X2_lettersAsIn_25 rfl (by decide) ?_
            refine E_iinc (y := nI 2) (L2 := [some (.ref 34), some (.ref 2000001), some (.int (nI 2))]) at_X2_lettersAsIn_30 rfl (by decide) rfl ?_
            refine E_goto (t := 2) at_X2_lettersAsIn_33 rfl ?_
            refine E_iload_n at_X2_lettersAsIn_2 rfl ?_
            refine E_aload_n at_X2_lettersAsIn_3 rfl ?_
            refine E_slen (z := nI 6) at_X2_lettersAsIn_4 (by decide) (Nat.le_of_ble_eq_true rfl) (by decide) ?_
            refine E_ic (t := 36) (b := false) at_X2_lettersAsIn_7 rfl (by decide) ?_
            refine E_aload_n at_X2_lettersAsIn_10 rfl ?_
            refine E_aload_n at_X2_lettersAsIn_11 rfl ?_
            refine E_getfield (v := .int (nI a)) at_X2_lettersAsIn_12 w34 rfl (by decide) rfl ?_
            refine E_iload_n at_X2_lettersAsIn_15 rfl ?_
            refine E_iadd (z := nI (a + 2)) at_X2_lettersAsIn_16 (nI_add _ _) ?_
            refine E_aload_n at_X2_lettersAsIn_17 rfl ?_
            refine E_iload_n at_X2_lettersAsIn_18 rfl ?_
            refine E_schr (z := nI 114) at_X2_lettersAsIn_19 (by decide) (Nat.le_of_ble_eq_true rfl) (by decide) (by decide) ?_
            refine E_callV (v := some (.int (nI 1))) (As := [.ref 34, .int (nI (a + 2)), .int (nI 114)]) (r0 := []) (cs2 := (ww im lf s d k ls (-1) (nI n) (nI a) rn rq lt m1 m2 m3 m4 bd fc hd sz el t g fm hm so si sh ce ca td wa kp la bf oo bo pw ow tr)) at_X2_lettersAsIn_22 rfl rfl (Nat.le_of_ble_eq_true rfl) rfl (ab_rvOf w34 rfl) (w_st1 (x := a + 2) (c := 114) (by omega) (by decide) hn l_lt hlt hb2) (by decide) rfl ?_
            refine E_if (t := 30) (b := true) at_X2_lettersAsIn_25 rfl (by decide) ?_
            refine E_iinc (y := nI 3) (L2 := [some (.ref 34), some (.ref 2000001), some (.int (nI 3))]) at_X2_lettersAsIn_30 rfl (by decide) rfl ?_
            refine E_goto (t := 2) at_X2_lettersAsIn_33 rfl ?_
            refine E_iload_n at_X2_lettersAsIn_2 rfl ?_
            refine E_aload_n at_X2_lettersAsIn_3 rfl ?_
            refine E_slen (z := nI 6) at_X2_lettersAsIn_4 (by decide) (Nat.le_of_ble_eq_true rfl) (by decide) ?_
            refine E_ic (t := 36) (b := false) at_X2_lettersAsIn_7 rfl (by decide) ?_
            refine E_aload_n at_X2_lettersAsIn_10 rfl ?_
            refine E_aload_n at_X2_lettersAsIn_11 rfl ?_
            refine E_getfield (v := .int (nI a)) at_X2_lettersAsIn_12 w34 rfl (by decide) rfl ?_
            refine E_iload_n at_X2_lettersAsIn_15 rfl ?_
            refine E_iadd (z := nI (a + 3)) at_X2_lettersAsIn_16 (nI_add _ _) ?_
            refine E_aload_n at_X2_lettersAsIn_17 rfl ?_
            refine E_iload_n at_X2_lettersAsIn_18 rfl ?_
            refine E_schr (z := nI 115) at_X2_lettersAsIn_19 (by decide) (Nat.le_of_ble_eq_true rfl) (by decide) (by decide) ?_
            refine E_callV (v := some (.int (nI 1))) (As := [.ref 34, .int (nI (a + 3)), .int (nI 115)]) (r0 := []) (cs2 := (ww im lf s d k ls (-1) (nI n) (nI a) rn rq lt m1 m2 m3 m4 bd fc hd sz el t g fm hm so si sh ce ca td wa kp la bf oo bo pw ow tr)) at_X2_lettersAsIn_22 rfl rfl (Nat.le_of_ble_eq_true rfl) rfl (ab_rvOf w34 rfl) (w_st1 (x := a + 3) (c := 115) (by omega) (by decide) hn l_lt hlt hb3) (by decide) rfl ?_
            refine E_if (t := 30) (b := true) at_X2_lettersAsIn_25 rfl (by decide) ?_
            refine E_iinc (y := nI 4) (L2 := [some (.ref 34), some (.ref 2000001), some (.int (nI 4))]) at_X2_lettersAsIn_30 rfl (by decide) rfl ?_
            refine E_goto (t := 2) at_X2_lettersAsIn_33 rfl ?_
            refine E_iload_n at_X2_lettersAsIn_2 rfl ?_
            refine E_aload_n at_X2_lettersAsIn_3 rfl ?_
            refine E_slen (z := nI 6) at_X2_lettersAsIn_4 (by decide) (Nat.le_of_ble_eq_true rfl) (by decide) ?_
            refine E_ic (t := 36) (b := false) at_X2_lettersAsIn_7 rfl (by decide) ?_
            refine E_aload_n at_X2_lettersAsIn_10 rfl ?_
            refine E_aload_n at_X2_lettersAsIn_11 rfl ?_
            refine E_getfield (v := .int (nI a)) at_X2_lettersAsIn_12 w34 rfl (by decide) rfl ?_
            refine E_iload_n at_X2_lettersAsIn_15 rfl ?_
            refine E_iadd (z := nI (a + 4)) at_X2_lettersAsIn_16 (nI_add _ _) ?_
            refine E_aload_n at_X2_lettersAsIn_17 rfl ?_
            refine E_iload_n at_X2_lettersAsIn_18 rfl ?_
            refine E_schr (z := nI 111) at_X2_lettersAsIn_19 (by decide) (Nat.le_of_ble_eq_true rfl) (by decide) (by decide) ?_
            refine E_callV (v := some (.int (nI 0))) (As := [.ref 34, .int (nI (a + 4)), .int (nI 111)]) (r0 := []) (cs2 := (ww im lf s d k ls (-1) (nI n) (nI a) rn rq lt m1 m2 m3 m4 bd fc hd sz el t g fm hm so si sh ce ca td wa kp la bf oo bo pw ow tr)) at_X2_lettersAsIn_22 rfl rfl (Nat.le_of_ble_eq_true rfl) rfl (ab_rvOf w34 rfl) (w_st0 (x := a + 4) (c := 111) (by omega) (by decide) hn l_lt hlt hb4) (by decide) rfl ?_
            refine E_if (t := 30) (b := false) at_X2_lettersAsIn_25 rfl (by decide) ?_
            refine E_iload_n at_X2_lettersAsIn_28 rfl ?_
            exact E_iret at_X2_lettersAsIn_29 rfl
          · rcases bo2 (chB e n (a + 1 + 1 + 1 + 1 + 1) 110) with hb5 | hb5
            · have q0 : mtc e n [112, 101, 114, 115, 111, 110] (a) = mtc e n [101, 114, 115, 111, 110] (a + 1) + 1 := mtc_t hb0
              have q1 : mtc e n [101, 114, 115, 111, 110] (a + 1) = mtc e n [114, 115, 111, 110] (a + 1 + 1) + 1 := mtc_t hb1
              have q2 : mtc e n [114, 115, 111, 110] (a + 1 + 1) = mtc e n [115, 111, 110] (a + 1 + 1 + 1) + 1 := mtc_t hb2
              have q3 : mtc e n [115, 111, 110] (a + 1 + 1 + 1) = mtc e n [111, 110] (a + 1 + 1 + 1 + 1) + 1 := mtc_t hb3
              have q4 : mtc e n [111, 110] (a + 1 + 1 + 1 + 1) = mtc e n [110] (a + 1 + 1 + 1 + 1 + 1) + 1 := mtc_t hb4
              have q5 : mtc e n [110] (a + 1 + 1 + 1 + 1 + 1) = 0 := mtc_f hb5
              have hm0 : mj1 e n a = 5 := by unfold mj1; omega
              rw [hm0]
              refine Ef.in (md := mX2_lettersAsIn) (L := [some (.ref 34), some (.ref 2000001), none]) rfl (Nat.le_of_ble_eq_true rfl) rfl ?_
              refine E_iconst (x := nI 0) at_X2_lettersAsIn_0 (by decide) ?_
              refine E_istore_n (L2 := [some (.ref 34), some (.ref 2000001), some (.int (nI 0))]) at_X2_lettersAsIn_1 rfl ?_
              refine E_iload_n at_X2_lettersAsIn_2 rfl ?_
              refine E_aload_n at_X2_lettersAsIn_3 rfl ?_
              refine E_slen (z := nI 6) at_X2_lettersAsIn_4 (by decide) (Nat.le_of_ble_eq_true rfl) (by decide) ?_
              refine E_ic (t := 36) (b := false) at_X2_lettersAsIn_7 rfl (by decide) ?_
              refine E_aload_n at_X2_lettersAsIn_10 rfl ?_
              refine E_aload_n at_X2_lettersAsIn_11 rfl ?_
              refine E_getfield (v := .int (nI a)) at_X2_lettersAsIn_12 w34 rfl (by decide) rfl ?_
              refine E_iload_n at_X2_lettersAsIn_15 rfl ?_
              refine E_iadd (z := nI (a + 0)) at_X2_lettersAsIn_16 (nI_add _ _) ?_
              refine E_aload_n at_X2_lettersAsIn_17 rfl ?_
              refine E_iload_n at_X2_lettersAsIn_18 rfl ?_
              refine E_schr (z := nI 112) at_X2_lettersAsIn_19 (by decide) (Nat.le_of_ble_eq_true rfl) (by decide) (by decide) ?_
              refine E_callV (v := some (.int (nI 1))) (As := [.ref 34, .int (nI (a + 0)), .int (nI 112)]) (r0 := []) (cs2 := (ww im lf s d k ls (-1) (nI n) (nI a) rn rq lt m1 m2 m3 m4 bd fc hd sz el t g fm hm so si sh ce ca td wa kp la bf oo bo pw ow tr)) at_X2_lettersAsIn_22 rfl rfl (Nat.le_of_ble_eq_true rfl) rfl (ab_rvOf w34 rfl) (w_st1 (x := a + 0) (c := 112) (by omega) (by decide) hn l_lt hlt hb0) (by decide) rfl ?_
              refine E_if (t := 30) (b := true) at_X2_lettersAsIn_25 rfl (by decide) ?_
              refine E_iinc (y := nI 1) (L2 := [some (.ref 34), some (.ref 2000001), some (.int (nI 1))]) at_X2_lettersAsIn_30 rfl (by decide) rfl ?_
              refine E_goto (t := 2) at_X2_lettersAsIn_33 rfl ?_
              refine E_iload_n at_X2_lettersAsIn_2 rfl ?_
              refine E_aload_n at_X2_lettersAsIn_3 rfl ?_
              refine E_slen (z := nI 6) at_X2_lettersAsIn_4 (by decide) (Nat.le_of_ble_eq_true rfl) (by decide) ?_
              refine E_ic (t := 36) (b := false) at_X2_lettersAsIn_7 rfl (by decide) ?_
              refine E_aload_n at_X2_lettersAsIn_10 rfl ?_
              refine E_aload_n at_X2_lettersAsIn_11 rfl ?_
              refine E_getfield (v := .int (nI a)) at_X2_lettersAsIn_12 w34 rfl (by decide) rfl ?_
              refine E_iload_n at_X2_lettersAsIn_15 rfl ?_
              refine E_iadd (z := nI (a + 1)) at_X2_lettersAsIn_16 (nI_add _ _) ?_
              refine E_aload_n at_X2_lettersAsIn_17 rfl ?_
              refine E_iload_n at_X2_lettersAsIn_18 rfl ?_
              refine E_schr (z := nI 101) at_X2_lettersAsIn_19 (by decide) (Nat.le_of_ble_eq_true rfl) (by decide) (by decide) ?_
              refine E_callV (v := some (.int (nI 1))) (As := [.ref 34, .int (nI (a + 1)), .int (nI 101)]) (r0 := []) (cs2 := (ww im lf s d k ls (-1) (nI n) (nI a) rn rq lt m1 m2 m3 m4 bd fc hd sz el t g fm hm so si sh ce ca td wa kp la bf oo bo pw ow tr)) at_X2_lettersAsIn_22 rfl rfl (Nat.le_of_ble_eq_true rfl) rfl (ab_rvOf w34 rfl) (w_st1 (x := a + 1) (c := 101) (by omega) (by decide) hn l_lt hlt hb1) (by decide) rfl ?_
              refine E_if (t := 30) (b := true) at_X2_lettersAsIn_25 rfl (by decide) ?_
              refine E_iinc (y := nI 2) (L2 := [some (.ref 34), some (.ref 2000001), some (.int (nI 2))]) at_X2_lettersAsIn_30 rfl (by decide) rfl ?_
              refine E_goto (t := 2) at_X2_lettersAsIn_33 rfl ?_
              refine E_iload_n at_X2_lettersAsIn_2 rfl ?_
              refine E_aload_n at_X2_lettersAsIn_3 rfl ?_
              refine E_slen (z := nI 6) at_X2_lettersAsIn_4 (by decide) (Nat.le_of_ble_eq_true rfl) (by decide) ?_
              refine E_ic (t := 36) (b := false) at_X2_lettersAsIn_7 rfl (by decide) ?_
              refine E_aload_n at_X2_lettersAsIn_10 rfl ?_
              refine E_aload_n at_X2_lettersAsIn_11 rfl ?_
              refine E_getfield (v := .int (nI a)) at_X2_lettersAsIn_12 w34 rfl (by decide) rfl ?_
              refine E_iload_n at_X2_lettersAsIn_15 rfl ?_
              refine E_iadd (z := nI (a + 2)) at_X2_lettersAsIn_16 (nI_add _ _) ?_
              refine E_aload_n at_X2_lettersAsIn_17 rfl ?_
              refine E_iload_n at_X2_lettersAsIn_18 rfl ?_
              refine E_schr (z := nI 114) at_X2_lettersAsIn_19 (by decide) (Nat.le_of_ble_eq_true rfl) (by decide) (by decide) ?_
              refine E_callV (v := some (.int (nI 1))) (As := [.ref 34, .int (nI (a + 2)), .int (nI 114)]) (r0 := []) (cs2 := (ww im lf s d k ls (-1) (nI n) (nI a) rn rq lt m1 m2 m3 m4 bd fc hd sz el t g fm hm so si sh ce ca td wa kp la bf oo bo pw ow tr)) at_X2_lettersAsIn_22 rfl rfl (Nat.le_of_ble_eq_true rfl) rfl (ab_rvOf w34 rfl) (w_st1 (x := a + 2) (c := 114) (by omega) (by decide) hn l_lt hlt hb2) (by decide) rfl ?_
              refine E_if (t := 30) (b := true) at_X2_lettersAsIn_25 rfl (by decide) ?_
              refine E_iinc (y := nI 3) (L2 := [some (.ref 34), some (.ref 2000001), some (.int (nI 3))]) at_X2_lettersAsIn_30 rfl (by decide) rfl ?_
              refine E_goto (t := 2) at_X2_lettersAsIn_33 rfl ?_
              refine E_iload_n at_X2_lettersAsIn_2 rfl ?_
              refine E_aload_n at_X2_lettersAsIn_3 rfl ?_
              refine E_slen (z := nI 6) at_X2_lettersAsIn_4 (by decide) (Nat.le_of_ble_eq_true rfl) (by decide) ?_
              refine E_ic (t := 36) (b := false) at_X2_lettersAsIn_7 rfl (by decide) ?_
              refine E_aload_n at_X2_lettersAsIn_10 rfl ?_
              refine E_aload_n at_X2_lettersAsIn_11 rfl ?_
              refine E_getfield (v := .int (nI a)) at_X2_lettersAsIn_12 w34 rfl (by decide) rfl ?_
              refine E_iload_n at_X2_lettersAsIn_15 rfl ?_
              refine E_iadd (z := nI (a + 3)) at_X2_lettersAsIn_16 (nI_add _ _) ?_
              refine E_aload_n at_X2_lettersAsIn_17 rfl ?_
              refine E_iload_n at_X2_lettersAsIn_18 rfl ?_
              refine E_schr (z := nI 115) at_X2_lettersAsIn_19 (by decide) (Nat.le_of_ble_eq_true rfl) (by decide) (by decide) ?_
              refine E_callV (v := some (.int (nI 1))) (As := [.ref 34, .int (nI (a + 3)), .int (nI 115)]) (r0 := []) (cs2 := (ww im lf s d k ls (-1) (nI n) (nI a) rn rq lt m1 m2 m3 m4 bd fc hd sz el t g fm hm so si sh ce ca td wa kp la bf oo bo pw ow tr)) at_X2_lettersAsIn_22 rfl rfl (Nat.le_of_ble_eq_true rfl) rfl (ab_rvOf w34 rfl) (w_st1 (x := a + 3) (c := 115) (by omega) (by decide) hn l_lt hlt hb3) (by decide) rfl ?_
              refine E_if (t := 30) (b := true) at_X2_lettersAsIn_25 rfl (by decide) ?_
              refine E_iinc (y := nI 4) (L2 := [some (.ref 34), some (.ref 2000001), some (.int (nI 4))]) at_X2_lettersAsIn_30 rfl (by decide) rfl ?_
              refine E_goto (t := 2) at_X2_lettersAsIn_33 rfl ?_
              refine E_iload_n at_X2_lettersAsIn_2 rfl ?_
              refine E_aload_n at_X2_lettersAsIn_3 rfl ?_
              refine E_slen (z := nI 6) at_X2_lettersAsIn_4 (by decide) (Nat.le_of_ble_eq_true rfl) (by decide) ?_
              refine E_ic (t := 36) (b := false) at_X2_lettersAsIn_7 rfl (by decide) ?_
              refine E_aload_n at_X2_lettersAsIn_10 rfl ?_
              refine E_aload_n at_X2_lettersAsIn_11 rfl ?_
              refine E_getfield (v := .int (nI a)) at_X2_lettersAsIn_12 w34 rfl (by decide) rfl ?_
              refine E_iload_n at_X2_lettersAsIn_15 rfl ?_
              refine E_iadd (z := nI (a + 4)) at_X2_lettersAsIn_16 (nI_add _ _) ?_
              refine E_aload_n at_X2_lettersAsIn_17 rfl ?_
              refine E_iload_n at_X2_lettersAsIn_18 rfl ?_
              refine E_schr (z := nI 111) at_X2_lettersAsIn_19 (by decide) (Nat.le_of_ble_eq_true rfl) (by decide) (by decide) ?_
              refine E_callV (v := some (.int (nI 1))) (As := [.ref 34, .int (nI (a + 4)), .int (nI 111)]) (r0 := []) (cs2 := (ww im lf s d k ls (-1) (nI n) (nI a) rn rq lt m1 m2 m3 m4 bd fc hd sz el t g fm hm so si sh ce ca td wa kp la bf oo bo pw ow tr)) at_X2_lettersAsIn_22 rfl rfl (Nat.le_of_ble_eq_true rfl) rfl (ab_rvOf w34 rfl) (w_st1 (x := a + 4) (c := 111) (by omega) (by decide) hn l_lt hlt hb4) (by decide) rfl ?_
              refine E_if (t := 30) (b := true) at_X2_lettersAsIn_25 rfl (by decide) ?_
              refine E_iinc (y := nI 5) (L2 := [some (.ref 34), some (.ref 2000001), some (.int (nI 5))]) at_X2_lettersAsIn_30 rfl (by decide) rfl ?_
              refine E_goto (t := 2) at_X2_lettersAsIn_33 rfl ?_
              refine E_iload_n at_X2_lettersAsIn_2 rfl ?_
              refine E_aload_n at_X2_lettersAsIn_3 rfl ?_
              refine E_slen (z := nI 6) at_X2_lettersAsIn_4 (by decide) (Nat.le_of_ble_eq_true rfl) (by decide) ?_
              refine E_ic (t := 36) (b := false) at_X2_lettersAsIn_7 rfl (by decide) ?_
              refine E_aload_n at_X2_lettersAsIn_10 rfl ?_
              refine E_aload_n at_X2_lettersAsIn_11 rfl ?_
              refine E_getfield (v := .int (nI a)) at_X2_lettersAsIn_12 w34 rfl (by decide) rfl ?_
              refine E_iload_n at_X2_lettersAsIn_15 rfl ?_
              refine E_iadd (z := nI (a + 5)) at_X2_lettersAsIn_16 (nI_add _ _) ?_
              refine E_aload_n at_X2_lettersAsIn_17 rfl ?_
              refine E_iload_n at_X2_lettersAsIn_18 rfl ?_
              refine E_schr (z := nI 110) at_X2_lettersAsIn_19 (by decide) (Nat.le_of_ble_eq_true rfl) (by decide) (by decide) ?_
              refine E_callV (v := some (.int (nI 0))) (As := [.ref 34, .int (nI (a + 5)), .int (nI 110)]) (r0 := []) (cs2 := (ww im lf s d k ls (-1) (nI n) (nI a) rn rq lt m1 m2 m3 m4 bd fc hd sz el t g fm hm so si sh ce ca td wa kp la bf oo bo pw ow tr)) at_X2_lettersAsIn_22 rfl rfl (Nat.le_of_ble_eq_true rfl) rfl (ab_rvOf w34 rfl) (w_st0 (x := a + 5) (c := 110) (by omega) (by decide) hn l_lt hlt hb5) (by decide) rfl ?_
              refine E_if (t := 30) (b := false) at_X2_lettersAsIn_25 rfl (by decide) ?_
              refine E_iload_n at_X2_lettersAsIn_28 rfl ?_
              exact E_iret at_X2_lettersAsIn_29 rfl
            · have q0 : mtc e n [112, 101, 114, 115, 111, 110] (a) = mtc e n [101, 114, 115, 111, 110] (a + 1) + 1 := mtc_t hb0
              have q1 : mtc e n [101, 114, 115, 111, 110] (a + 1) = mtc e n [114, 115, 111, 110] (a + 1 + 1) + 1 := mtc_t hb1
              have q2 : mtc e n [114, 115, 111, 110] (a + 1 + 1) = mtc e n [115, 111, 110] (a + 1 + 1 + 1) + 1 := mtc_t hb2
              have q3 : mtc e n [115, 111, 110] (a + 1 + 1 + 1) = mtc e n [111, 110] (a + 1 + 1 + 1 + 1) + 1 := mtc_t hb3
              have q4 : mtc e n [111, 110] (a + 1 + 1 + 1 + 1) = mtc e n [110] (a + 1 + 1 + 1 + 1 + 1) + 1 := mtc_t hb4
              have q5 : mtc e n [110] (a + 1 + 1 + 1 + 1 + 1) = mtc e n [] (a + 1 + 1 + 1 + 1 + 1 + 1) + 1 := mtc_t hb5
              have q6 : mtc e n [] (a + 1 + 1 + 1 + 1 + 1 + 1) = 0 := rfl
              have hm0 : mj1 e n a = 6 := by unfold mj1; omega
              rw [hm0]
              refine Ef.in (md := mX2_lettersAsIn) (L := [some (.ref 34), some (.ref 2000001), none]) rfl (Nat.le_of_ble_eq_true rfl) rfl ?_
              refine E_iconst (x := nI 0) at_X2_lettersAsIn_0 (by decide) ?_
              refine E_istore_n (L2 := [some (.ref 34), some (.ref 2000001), some (.int (nI 0))]) at_X2_lettersAsIn_1 rfl ?_
              refine E_iload_n at_X2_lettersAsIn_2 rfl ?_
              refine E_aload_n at_X2_lettersAsIn_3 rfl ?_
              refine E_slen (z := nI 6) at_X2_lettersAsIn_4 (by decide) (Nat.le_of_ble_eq_true rfl) (by decide) ?_
              refine E_ic (t := 36) (b := false) at_X2_lettersAsIn_7 rfl (by decide) ?_
              refine E_aload_n at_X2_lettersAsIn_10 rfl ?_
              refine E_aload_n at_X2_lettersAsIn_11 rfl ?_
              refine E_getfield (v := .int (nI a)) at_X2_lettersAsIn_12 w34 rfl (by decide) rfl ?_
              refine E_iload_n at_X2_lettersAsIn_15 rfl ?_
              refine E_iadd (z := nI (a + 0)) at_X2_lettersAsIn_16 (nI_add _ _) ?_
              refine E_aload_n at_X2_lettersAsIn_17 rfl ?_
              refine E_iload_n at_X2_lettersAsIn_18 rfl ?_
              refine E_schr (z := nI 112) at_X2_lettersAsIn_19 (by decide) (Nat.le_of_ble_eq_true rfl) (by decide) (by decide) ?_
              refine E_callV (v := some (.int (nI 1))) (As := [.ref 34, .int (nI (a + 0)), .int (nI 112)]) (r0 := []) (cs2 := (ww im lf s d k ls (-1) (nI n) (nI a) rn rq lt m1 m2 m3 m4 bd fc hd sz el t g fm hm so si sh ce ca td wa kp la bf oo bo pw ow tr)) at_X2_lettersAsIn_22 rfl rfl (Nat.le_of_ble_eq_true rfl) rfl (ab_rvOf w34 rfl) (w_st1 (x := a + 0) (c := 112) (by omega) (by decide) hn l_lt hlt hb0) (by decide) rfl ?_
              refine E_if (t := 30) (b := true) at_X2_lettersAsIn_25 rfl (by decide) ?_
              refine E_iinc (y := nI 1) (L2 := [some (.ref 34), some (.ref 2000001), some (.int (nI 1))]) at_X2_lettersAsIn_30 rfl (by decide) rfl ?_
              refine E_goto (t := 2) at_X2_lettersAsIn_33 rfl ?_
              refine E_iload_n at_X2_lettersAsIn_2 rfl ?_
              refine E_aload_n at_X2_lettersAsIn_3 rfl ?_
              refine E_slen (z := nI 6) at_X2_lettersAsIn_4 (by decide) (Nat.le_of_ble_eq_true rfl) (by decide) ?_
              refine E_ic (t := 36) (b := false) at_X2_lettersAsIn_7 rfl (by decide) ?_
              refine E_aload_n at_X2_lettersAsIn_10 rfl ?_
              refine E_aload_n at_X2_lettersAsIn_11 rfl ?_
              refine E_getfield (v := .int (nI a)) at_X2_lettersAsIn_12 w34 rfl (by decide) rfl ?_
              refine E_iload_n at_X2_lettersAsIn_15 rfl ?_
              refine E_iadd (z := nI (a + 1)) at_X2_lettersAsIn_16 (nI_add _ _) ?_
              refine E_aload_n at_X2_lettersAsIn_17 rfl ?_
              refine E_iload_n at_X2_lettersAsIn_18 rfl ?_
              refine E_schr (z := nI 101) at_X2_lettersAsIn_19 (by decide) (Nat.le_of_ble_eq_true rfl) (by decide) (by decide) ?_
              refine E_callV (v := some (.int (nI 1))) (As := [.ref 34, .int (nI (a + 1)), .int (nI 101)]) (r0 := []) (cs2 := (ww im lf s d k ls (-1) (nI n) (nI a) rn rq lt m1 m2 m3 m4 bd fc hd sz el t g fm hm so si sh ce ca td wa kp la bf oo bo pw ow tr)) at_X2_lettersAsIn_22 rfl rfl (Nat.le_of_ble_eq_true rfl) rfl (ab_rvOf w34 rfl) (w_st1 (x := a + 1) (c := 101) (by omega) (by decide) hn l_lt hlt hb1) (by decide) rfl ?_
              refine E_if (t := 30) (b := true) at_X2_lettersAsIn_25 rfl (by decide) ?_
              refine E_iinc (y := nI 2) (L2 := [some (.ref 34), some (.ref 2000001), some (.int (nI 2))]) at_X2_lettersAsIn_30 rfl (by decide) rfl ?_
              refine E_goto (t := 2) at_X2_lettersAsIn_33 rfl ?_
              refine E_iload_n at_X2_lettersAsIn_2 rfl ?_
              refine E_aload_n at_X2_lettersAsIn_3 rfl ?_
              refine E_slen (z := nI 6) at_X2_lettersAsIn_4 (by decide) (Nat.le_of_ble_eq_true rfl) (by decide) ?_
              refine E_ic (t := 36) (b := false) at_X2_lettersAsIn_7 rfl (by decide) ?_
              refine E_aload_n at_X2_lettersAsIn_10 rfl ?_
              refine E_aload_n at_X2_lettersAsIn_11 rfl ?_
              refine E_getfield (v := .int (nI a)) at_X2_lettersAsIn_12 w34 rfl (by decide) rfl ?_
              refine E_iload_n at_X2_lettersAsIn_15 rfl ?_
              refine E_iadd (z := nI (a + 2)) at_X2_lettersAsIn_16 (nI_add _ _) ?_
              refine E_aload_n at_X2_lettersAsIn_17 rfl ?_
              refine E_iload_n at_X2_lettersAsIn_18 rfl ?_
              refine E_schr (z := nI 114) at_X2_lettersAsIn_19 (by decide) (Nat.le_of_ble_eq_true rfl) (by decide) (by decide) ?_
              refine E_callV (v := some (.int (nI 1))) (As := [.ref 34, .int (nI (a + 2)), .int (nI 114)]) (r0 := []) (cs2 := (ww im lf s d k ls (-1) (nI n) (nI a) rn rq lt m1 m2 m3 m4 bd fc hd sz el t g fm hm so si sh ce ca td wa kp la bf oo bo pw ow tr)) at_X2_lettersAsIn_22 rfl rfl (Nat.le_of_ble_eq_true rfl) rfl (ab_rvOf w34 rfl) (w_st1 (x := a + 2) (c := 114) (by omega) (by decide) hn l_lt hlt hb2) (by decide) rfl ?_
              refine E_if (t := 30) (b := true) at_X2_lettersAsIn_25 rfl (by decide) ?_
              refine E_iinc (y := nI 3) (L2 := [some (.ref 34), some (.ref 2000001), some (.int (nI 3))]) at_X2_lettersAsIn_30 rfl (by decide) rfl ?_
              refine E_goto (t := 2) at_X2_lettersAsIn_33 rfl ?_
              refine E_iload_n at_X2_lettersAsIn_2 rfl ?_
              refine E_aload_n at_X2_lettersAsIn_3 rfl ?_
              refine E_slen (z := nI 6) at_X2_lettersAsIn_4 (by decide) (Nat.le_of_ble_eq_true rfl) (by decide) ?_
              refine E_ic (t := 36) (b := false) at_X2_lettersAsIn_7 rfl (by decide) ?_
              refine E_aload_n at_X2_lettersAsIn_10 rfl ?_
              refine E_aload_n at_X2_lettersAsIn_11 rfl ?_
              refine E_getfield (v := .int (nI a)) at_X2_lettersAsIn_12 w34 rfl (by decide) rfl ?_
              refine E_iload_n at_X2_lettersAsIn_15 rfl ?_
              refine E_iadd (z := nI (a + 3)) at_X2_lettersAsIn_16 (nI_add _ _) ?_
              refine E_aload_n at_X2_lettersAsIn_17 rfl ?_
              refine E_iload_n at_X2_lettersAsIn_18 rfl ?_
              refine E_schr (z := nI 115) at_X2_lettersAsIn_19 (by decide) (Nat.le_of_ble_eq_true rfl) (by decide) (by decide) ?_
              refine E_callV (v := some (.int (nI 1))) (As := [.ref 34, .int (nI (a + 3)), .int (nI 115)]) (r0 := []) (cs2 := (ww im lf s d k ls (-1) (nI n) (nI a) rn rq lt m1 m2 m3 m4 bd fc hd sz el t g fm hm so si sh ce ca td wa kp la bf oo bo pw ow tr)) at_X2_lettersAsIn_22 rfl rfl (Nat.le_of_ble_eq_true rfl) rfl (ab_rvOf w34 rfl) (w_st1 (x := a + 3) (c := 115) (by omega) (by decide) hn l_lt hlt hb3) (by decide) rfl ?_
              refine E_if (t := 30) (b := true) at_X2_lettersAsIn_25 rfl (by decide) ?_
              refine E_iinc (y := nI 4) (L2 := [some (.ref 34), some (.ref 2000001), some (.int (nI 4))]) at_X2_lettersAsIn_30 rfl (by decide) rfl ?_
              refine E_goto (t := 2) at_X2_lettersAsIn_33 rfl ?_
              refine E_iload_n at_X2_lettersAsIn_2 rfl ?_
              refine E_aload_n at_X2_lettersAsIn_3 rfl ?_
              refine E_slen (z := nI 6) at_X2_lettersAsIn_4 (by decide) (Nat.le_of_ble_eq_true rfl) (by decide) ?_
              refine E_ic (t := 36) (b := false) at_X2_lettersAsIn_7 rfl (by decide) ?_
              refine E_aload_n at_X2_lettersAsIn_10 rfl ?_
              refine E_aload_n at_X2_lettersAsIn_11 rfl ?_
              refine E_getfield (v := .int (nI a)) at_X2_lettersAsIn_12 w34 rfl (by decide) rfl ?_
              refine E_iload_n at_X2_lettersAsIn_15 rfl ?_
              refine E_iadd (z := nI (a + 4)) at_X2_lettersAsIn_16 (nI_add _ _) ?_
              refine E_aload_n at_X2_lettersAsIn_17 rfl ?_
              refine E_iload_n at_X2_lettersAsIn_18 rfl ?_
              refine E_schr (z := nI 111) at_X2_lettersAsIn_19 (by decide) (Nat.le_of_ble_eq_true rfl) (by decide) (by decide) ?_
              refine E_callV (v := some (.int (nI 1))) (As := [.ref 34, .int (nI (a + 4)), .int (nI 111)]) (r0 := []) (cs2 := (ww im lf s d k ls (-1) (nI n) (nI a) rn rq lt m1 m2 m3 m4 bd fc hd sz el t g fm hm so si sh ce ca td wa kp la bf oo bo pw ow tr)) at_X2_lettersAsIn_22 rfl rfl (Nat.le_of_ble_eq_true rfl) rfl (ab_rvOf w34 rfl) (w_st1 (x := a + 4) (c := 111) (by omega) (by decide) hn l_lt hlt hb4) (by decide) rfl ?_
              refine E_if (t := 30) (b := true) at_X2_lettersAsIn_25 rfl (by decide) ?_
              refine E_iinc (y := nI 5) (L2 := [some (.ref 34), some (.ref 2000001), some (.int (nI 5))]) at_X2_lettersAsIn_30 rfl (by decide) rfl ?_
              refine E_goto (t := 2) at_X2_lettersAsIn_33 rfl ?_
              refine E_iload_n at_X2_lettersAsIn_2 rfl ?_
              refine E_aload_n at_X2_lettersAsIn_3 rfl ?_
              refine E_slen (z := nI 6) at_X2_lettersAsIn_4 (by decide) (Nat.le_of_ble_eq_true rfl) (by decide) ?_
              refine E_ic (t := 36) (b := false) at_X2_lettersAsIn_7 rfl (by decide) ?_
              refine E_aload_n at_X2_lettersAsIn_10 rfl ?_
              refine E_aload_n at_X2_lettersAsIn_11 rfl ?_
              refine E_getfield (v := .int (nI a)) at_X2_lettersAsIn_12 w34 rfl (by decide) rfl ?_
              refine E_iload_n at_X2_lettersAsIn_15 rfl ?_
              refine E_iadd (z := nI (a + 5)) at_X2_lettersAsIn_16 (nI_add _ _) ?_
              refine E_aload_n at_X2_lettersAsIn_17 rfl ?_
              refine E_iload_n at_X2_lettersAsIn_18 rfl ?_
              refine E_schr (z := nI 110) at_X2_lettersAsIn_19 (by decide) (Nat.le_of_ble_eq_true rfl) (by decide) (by decide) ?_
              refine E_callV (v := some (.int (nI 1))) (As := [.ref 34, .int (nI (a + 5)), .int (nI 110)]) (r0 := []) (cs2 := (ww im lf s d k ls (-1) (nI n) (nI a) rn rq lt m1 m2 m3 m4 bd fc hd sz el t g fm hm so si sh ce ca td wa kp la bf oo bo pw ow tr)) at_X2_lettersAsIn_22 rfl rfl (Nat.le_of_ble_eq_true rfl) rfl (ab_rvOf w34 rfl) (w_st1 (x := a + 5) (c := 110) (by omega) (by decide) hn l_lt hlt hb5) (by decide) rfl ?_
              refine E_if (t := 30) (b := true) at_X2_lettersAsIn_25 rfl (by decide) ?_
              refine E_iinc (y := nI 6) (L2 := [some (.ref 34), some (.ref 2000001), some (.int (nI 6))]) at_X2_lettersAsIn_30 rfl (by decide) rfl ?_
              refine E_goto (t := 2) at_X2_lettersAsIn_33 rfl ?_
              refine E_iload_n at_X2_lettersAsIn_2 rfl ?_
              refine E_aload_n at_X2_lettersAsIn_3 rfl ?_
              refine E_slen (z := nI 6) at_X2_lettersAsIn_4 (by decide) (Nat.le_of_ble_eq_true rfl) (by decide) ?_
              refine E_ic (t := 36) (b := true) at_X2_lettersAsIn_7 rfl (by decide) ?_
              refine E_aload_n at_X2_lettersAsIn_36 rfl ?_
              refine E_slen (z := nI 6) at_X2_lettersAsIn_37 (by decide) (Nat.le_of_ble_eq_true rfl) (by decide) ?_
              exact E_iret at_X2_lettersAsIn_40 rfl
set_option maxHeartbeats 400000 in
theorem w_li2 {e : List Int64} {n a : Nat} (hn : n ≤ 160) (ha : a ≤ n) (l_lt : lt.length = 160) (hlt : ∀ i, i < n → lt.getD i 0 = tw e i) : Ev ab_Z0 2 23 [.ref 34, .ref 2000002] (ww im lf s d k ls (-1) (nI n) (nI a) rn rq lt m1 m2 m3 m4 bd fc hd sz el t g fm hm so si sh ce ca td wa kp la bf oo bo pw ow tr) (some (.int (nI (mj2 e n a))), (ww im lf s d k ls (-1) (nI n) (nI a) rn rq lt m1 m2 m3 m4 bd fc hd sz el t g fm hm so si sh ce ca td wa kp la bf oo bo pw ow tr)) := by
  rcases bo2 (chB e n (a) 99) with hb0 | hb0
  · have q0 : mtc e n [99, 111, 115, 116] (a) = 0 := mtc_f hb0
    have hm0 : mj2 e n a = 0 := by unfold mj2; omega
    rw [hm0]
    refine Ef.in (md := mX2_lettersAsIn) (L := [some (.ref 34), some (.ref 2000002), none]) rfl (Nat.le_of_ble_eq_true rfl) rfl ?_
    refine E_iconst (x := nI 0) at_X2_lettersAsIn_0 (by decide) ?_
    refine E_istore_n (L2 := [some (.ref 34), some (.ref 2000002), some (.int (nI 0))]) at_X2_lettersAsIn_1 rfl ?_
    refine E_iload_n at_X2_lettersAsIn_2 rfl ?_
    refine E_aload_n at_X2_lettersAsIn_3 rfl ?_
    refine E_slen (z := nI 4) at_X2_lettersAsIn_4 (by decide) (Nat.le_of_ble_eq_true rfl) (by decide) ?_
    refine E_ic (t := 36) (b := false) at_X2_lettersAsIn_7 rfl (by decide) ?_
    refine E_aload_n at_X2_lettersAsIn_10 rfl ?_
    refine E_aload_n at_X2_lettersAsIn_11 rfl ?_
    refine E_getfield (v := .int (nI a)) at_X2_lettersAsIn_12 w34 rfl (by decide) rfl ?_
    refine E_iload_n at_X2_lettersAsIn_15 rfl ?_
    refine E_iadd (z := nI (a + 0)) at_X2_lettersAsIn_16 (nI_add _ _) ?_
    refine E_aload_n at_X2_lettersAsIn_17 rfl ?_
    refine E_iload_n at_X2_lettersAsIn_18 rfl ?_
    refine E_schr (z := nI 99) at_X2_lettersAsIn_19 (by decide) (Nat.le_of_ble_eq_true rfl) (by decide) (by decide) ?_
    refine E_callV (v := some (.int (nI 0))) (As := [.ref 34, .int (nI (a + 0)), .int (nI 99)]) (r0 := []) (cs2 := (ww im lf s d k ls (-1) (nI n) (nI a) rn rq lt m1 m2 m3 m4 bd fc hd sz el t g fm hm so si sh ce ca td wa kp la bf oo bo pw ow tr)) at_X2_lettersAsIn_22 rfl rfl (Nat.le_of_ble_eq_true rfl) rfl (ab_rvOf w34 rfl) (w_st0 (x := a + 0) (c := 99) (by omega) (by decide) hn l_lt hlt hb0) (by decide) rfl ?_
    refine E_if (t := 30) (b := false) at_X2_lettersAsIn_25 rfl (by decide) ?_
    refine E_iload_n at_X2_lettersAsIn_28 rfl ?_
    exact E_iret at_X2_lettersAsIn_29 rfl
  · rcases bo2 (chB e n (a + 1) 111) with hb1 | hb1
    · have q0 : mtc e n [99, 111, 115, 116] (a) = mtc e n [111, 115, 116] (a + 1) + 1 := mtc_t hb0
      have q1 : mtc e n [111, 115, 116] (a + 1) = 0 := mtc_f hb1
      have hm0 : mj2 e n a = 1 := by unfold mj2; omega
      rw [hm0]
      refine Ef.in (md := mX2_lettersAsIn) (L := [some (.ref 34), some (.ref 2000002), none]) rfl (Nat.le_of_ble_eq_true rfl) rfl ?_
      refine E_iconst (x := nI 0) at_X2_lettersAsIn_0 (by decide) ?_
      refine E_istore_n (L2 := [some (.ref 34), some (.ref 2000002), some (.int (nI 0))]) at_X2_lettersAsIn_1 rfl ?_
      refine E_iload_n at_X2_lettersAsIn_2 rfl ?_
      refine E_aload_n at_X2_lettersAsIn_3 rfl ?_
      refine E_slen (z := nI 4) at_X2_lettersAsIn_4 (by decide) (Nat.le_of_ble_eq_true rfl) (by decide) ?_
      refine E_ic (t := 36) (b := false) at_X2_lettersAsIn_7 rfl (by decide) ?_
      refine E_aload_n at_X2_lettersAsIn_10 rfl ?_
      refine E_aload_n at_X2_lettersAsIn_11 rfl ?_
      refine E_getfield (v := .int (nI a)) at_X2_lettersAsIn_12 w34 rfl (by decide) rfl ?_
      refine E_iload_n at_X2_lettersAsIn_15 rfl ?_
      refine E_iadd (z := nI (a + 0)) at_X2_lettersAsIn_16 (nI_add _ _) ?_
      refine E_aload_n at_X2_lettersAsIn_17 rfl ?_
      refine E_iload_n at_X2_lettersAsIn_18 rfl ?_
      refine E_schr (z := nI 99) at_X2_lettersAsIn_19 (by decide) (Nat.le_of_ble_eq_true rfl) (by decide) (by decide) ?_
      refine E_callV (v := some (.int (nI 1))) (As := [.ref 34, .int (nI (a + 0)), .int (nI 99)]) (r0 := []) (cs2 := (ww im lf s d k ls (-1) (nI n) (nI a) rn rq lt m1 m2 m3 m4 bd fc hd sz el t g fm hm so si sh ce ca td wa kp la bf oo bo pw ow tr)) at_X2_lettersAsIn_22 rfl rfl (Nat.le_of_ble_eq_true rfl) rfl (ab_rvOf w34 rfl) (w_st1 (x := a + 0) (c := 99) (by omega) (by decide) hn l_lt hlt hb0) (by decide) rfl ?_
      refine E_if (t := 30) (b := true) at_X2_lettersAsIn_25 rfl (by decide) ?_
      refine E_iinc (y := nI 1) (L2 := [some (.ref 34), some (.ref 2000002), some (.int (nI 1))]) at_X2_lettersAsIn_30 rfl (by decide) rfl ?_
      refine E_goto (t := 2) at_X2_lettersAsIn_33 rfl ?_
      refine E_iload_n at_X2_lettersAsIn_2 rfl ?_
      refine E_aload_n at_X2_lettersAsIn_3 rfl ?_
      refine E_slen (z := nI 4) at_X2_lettersAsIn_4 (by decide) (Nat.le_of_ble_eq_true rfl) (by decide) ?_
      refine E_ic (t := 36) (b := false) at_X2_lettersAsIn_7 rfl (by decide) ?_
      refine E_aload_n at_X2_lettersAsIn_10 rfl ?_
      refine E_aload_n at_X2_lettersAsIn_11 rfl ?_
      refine E_getfield (v := .int (nI a)) at_X2_lettersAsIn_12 w34 rfl (by decide) rfl ?_
      refine E_iload_n at_X2_lettersAsIn_15 rfl ?_
      refine E_iadd (z := nI (a + 1)) at_X2_lettersAsIn_16 (nI_add _ _) ?_
      refine E_aload_n at_X2_lettersAsIn_17 rfl ?_
      refine E_iload_n at_X2_lettersAsIn_18 rfl ?_
      refine E_schr (z := nI 111) at_X2_lettersAsIn_19 (by decide) (Nat.le_of_ble_eq_true rfl) (by decide) (by decide) ?_
      refine E_callV (v := some (.int (nI 0))) (As := [.ref 34, .int (nI (a + 1)), .int (nI 111)]) (r0 := []) (cs2 := (ww im lf s d k ls (-1) (nI n) (nI a) rn rq lt m1 m2 m3 m4 bd fc hd sz el t g fm hm so si sh ce ca td wa kp la bf oo bo pw ow tr)) at_X2_lettersAsIn_22 rfl rfl (Nat.le_of_ble_eq_true rfl) rfl (ab_rvOf w34 rfl) (w_st0 (x := a + 1) (c := 111) (by omega) (by decide) hn l_lt hlt hb1) (by decide) rfl ?_
      refine E_if (t := 30) (b := false) at_X2_lettersAsIn_25 rfl (by decide) ?_
      refine E_iload_n at_X2_lettersAsIn_28 rfl ?_
      exact E_iret at_X2_lettersAsIn_29 rfl
    · rcases bo2 (chB e n (a + 1 + 1) 115) with hb2 | hb2
      · have q0 : mtc e n [99, 111, 115, 116] (a) = mtc e n [111, 115, 116] (a + 1) + 1 := mtc_t hb0
        have q1 : mtc e n [111, 115, 116] (a + 1) = mtc e n [115, 116] (a + 1 + 1) + 1 := mtc_t hb1
        have q2 : mtc e n [115, 116] (a + 1 + 1) = 0 := mtc_f hb2
        have hm0 : mj2 e n a = 2 := by unfold mj2; omega
        rw [hm0]
        refine Ef.in (md := mX2_lettersAsIn) (L := [some (.ref 34), some (.ref 2000002), none]) rfl (Nat.le_of_ble_eq_true rfl) rfl ?_
        refine E_iconst (x := nI 0) at_X2_lettersAsIn_0 (by decide) ?_
        refine E_istore_n (L2 := [some (.ref 34), some (.ref 2000002), some (.int (nI 0))]) at_X2_lettersAsIn_1 rfl ?_
        refine E_iload_n at_X2_lettersAsIn_2 rfl ?_
        refine E_aload_n at_X2_lettersAsIn_3 rfl ?_
        refine E_slen (z := nI 4) at_X2_lettersAsIn_4 (by decide) (Nat.le_of_ble_eq_true rfl) (by decide) ?_
        refine E_ic (t := 36) (b := false) at_X2_lettersAsIn_7 rfl (by decide) ?_
        refine E_aload_n at_X2_lettersAsIn_10 rfl ?_
        refine E_aload_n at_X2_lettersAsIn_11 rfl ?_
        refine E_getfield (v := .int (nI a)) at_X2_lettersAsIn_12 w34 rfl (by decide) rfl ?_
        refine E_iload_n at_X2_lettersAsIn_15 rfl ?_
        refine E_iadd (z := nI (a + 0)) at_X2_lettersAsIn_16 (nI_add _ _) ?_
        refine E_aload_n at_X2_lettersAsIn_17 rfl ?_
        refine E_iload_n at_X2_lettersAsIn_18 rfl ?_
        refine E_schr (z := nI 99) at_X2_lettersAsIn_19 (by decide) (Nat.le_of_ble_eq_true rfl) (by decide) (by decide) ?_
        refine E_callV (v := some (.int (nI 1))) (As := [.ref 34, .int (nI (a + 0)), .int (nI 99)]) (r0 := []) (cs2 := (ww im lf s d k ls (-1) (nI n) (nI a) rn rq lt m1 m2 m3 m4 bd fc hd sz el t g fm hm so si sh ce ca td wa kp la bf oo bo pw ow tr)) at_X2_lettersAsIn_22 rfl rfl (Nat.le_of_ble_eq_true rfl) rfl (ab_rvOf w34 rfl) (w_st1 (x := a + 0) (c := 99) (by omega) (by decide) hn l_lt hlt hb0) (by decide) rfl ?_
        refine E_if (t := 30) (b := true) at_X2_lettersAsIn_25 rfl (by decide) ?_
        refine E_iinc (y := nI 1) (L2 := [some (.ref 34), some (.ref 2000002), some (.int (nI 1))]) at_X2_lettersAsIn_30 rfl (by decide) rfl ?_
        refine E_goto (t := 2) at_X2_lettersAsIn_33 rfl ?_
        refine E_iload_n at_X2_lettersAsIn_2 rfl ?_
        refine E_aload_n at_X2_lettersAsIn_3 rfl ?_
        refine E_slen (z := nI 4) at_X2_lettersAsIn_4 (by decide) (Nat.le_of_ble_eq_true rfl) (by decide) ?_
        refine E_ic (t := 36) (b := false) at_X2_lettersAsIn_7 rfl (by decide) ?_
        refine E_aload_n at_X2_lettersAsIn_10 rfl ?_
        refine E_aload_n at_X2_lettersAsIn_11 rfl ?_
        refine E_getfield (v := .int (nI a)) at_X2_lettersAsIn_12 w34 rfl (by decide) rfl ?_
        refine E_iload_n at_X2_lettersAsIn_15 rfl ?_
        refine E_iadd (z := nI (a + 1)) at_X2_lettersAsIn_16 (nI_add _ _) ?_
        refine E_aload_n at_X2_lettersAsIn_17 rfl ?_
        refine E_iload_n at_X2_lettersAsIn_18 rfl ?_
        refine E_schr (z := nI 111) at_X2_lettersAsIn_19 (by decide) (Nat.le_of_ble_eq_true rfl) (by decide) (by decide) ?_
        refine E_callV (v := some (.int (nI 1))) (As := [.ref 34, .int (nI (a + 1)), .int (nI 111)]) (r0 := []) (cs2 := (ww im lf s d k ls (-1) (nI n) (nI a) rn rq lt m1 m2 m3 m4 bd fc hd sz el t g fm hm so si sh ce ca td wa kp la bf oo bo pw ow tr)) at_X2_lettersAsIn_22 rfl rfl (Nat.le_of_ble_eq_true rfl) rfl (ab_rvOf w34 rfl) (w_st1 (x := a + 1) (c := 111) (by omega) (by decide) hn l_lt hlt hb1) (by decide) rfl ?_
        refine E_if (t := 30) (b := true) at_X2_lettersAsIn_25 rfl (by decide) ?_
        refine E_iinc (y := nI 2) (L2 := [some (.ref 34), some (.ref 2000002), some (.int (nI 2))]) at_X2_lettersAsIn_30 rfl (by decide) rfl ?_
        refine E_goto (t := 2) at_X2_lettersAsIn_33 rfl ?_
        refine E_iload_n at_X2_lettersAsIn_2 rfl ?_
        refine E_aload_n at_X2_lettersAsIn_3 rfl ?_
        refine E_slen (z := nI 4) at_X2_lettersAsIn_4 (by decide) (Nat.le_of_ble_eq_true rfl) (by decide) ?_
        refine E_ic (t := 36) (b := false) at_X2_lettersAsIn_7 rfl (by decide) ?_
        refine E_aload_n at_X2_lettersAsIn_10 rfl ?_
        refine E_aload_n at_X2_lettersAsIn_11 rfl ?_
        refine E_getfield (v := .int (nI a)) at_X2_lettersAsIn_12 w34 rfl (by decide) rfl ?_
        refine E_iload_n at_X2_lettersAsIn_15 rfl ?_
        refine E_iadd (z := nI (a + 2)) at_X2_lettersAsIn_16 (nI_add _ _) ?_
        refine E_aload_n at_X2_lettersAsIn_17 rfl ?_
        refine E_iload_n at_X2_lettersAsIn_18 rfl ?_
        refine E_schr (z := nI 115) at_X2_lettersAsIn_19 (by decide) (Nat.le_of_ble_eq_true rfl) (by decide) (by decide) ?_
        refine E_callV (v := some (.int (nI 0))) (As := [.ref 34, .int (nI (a + 2)), .int (nI 115)]) (r0 := []) (cs2 := (ww im lf s d k ls (-1) (nI n) (nI a) rn rq lt m1 m2 m3 m4 bd fc hd sz el t g fm hm so si sh ce ca td wa kp la bf oo bo pw ow tr)) at_X2_lettersAsIn_22 rfl rfl (Nat.le_of_ble_eq_true rfl) rfl (ab_rvOf w34 rfl) (w_st0 (x := a + 2) (c := 115) (by omega) (by decide) hn l_lt hlt hb2) (by decide) rfl ?_
        refine E_if (t := 30) (b := false) at_X2_lettersAsIn_25 rfl (by decide) ?_
        refine E_iload_n at_X2_lettersAsIn_28 rfl ?_
        exact E_iret at_X2_lettersAsIn_29 rfl
      · rcases bo2 (chB e n (a + 1 + 1 + 1) 116) with hb3 | hb3
        · have q0 : mtc e n [99, 111, 115, 116] (a) = mtc e n [111, 115, 116] (a + 1) + 1 := mtc_t hb0
          have q1 : mtc e n [111, 115, 116] (a + 1) = mtc e n [115, 116] (a + 1 + 1) + 1 := mtc_t hb1
          have q2 : mtc e n [115, 116] (a + 1 + 1) = mtc e n [116] (a + 1 + 1 + 1) + 1 := mtc_t hb2
          have q3 : mtc e n [116] (a + 1 + 1 + 1) = 0 := mtc_f hb3
          have hm0 : mj2 e n a = 3 := by unfold mj2; omega
          rw [hm0]
          refine Ef.in (md := mX2_lettersAsIn) (L := [some (.ref 34), some (.ref 2000002), none]) rfl (Nat.le_of_ble_eq_true rfl) rfl ?_
          refine E_iconst (x := nI 0) at_X2_lettersAsIn_0 (by decide) ?_
          refine E_istore_n (L2 := [some (.ref 34), some (.ref 2000002), some (.int (nI 0))]) at_X2_lettersAsIn_1 rfl ?_
          refine E_iload_n at_X2_lettersAsIn_2 rfl ?_
          refine E_aload_n at_X2_lettersAsIn_3 rfl ?_
          refine E_slen (z := nI 4) at_X2_lettersAsIn_4 (by decide) (Nat.le_of_ble_eq_true rfl) (by decide) ?_
          refine E_ic (t := 36) (b := false) at_X2_lettersAsIn_7 rfl (by decide) ?_
          refine E_aload_n at_X2_lettersAsIn_10 rfl ?_
          refine E_aload_n at_X2_lettersAsIn_11 rfl ?_
          refine E_getfield (v := .int (nI a)) at_X2_lettersAsIn_12 w34 rfl (by decide) rfl ?_
          refine E_iload_n at_X2_lettersAsIn_15 rfl ?_
          refine E_iadd (z := nI (a + 0)) at_X2_lettersAsIn_16 (nI_add _ _) ?_
          refine E_aload_n at_X2_lettersAsIn_17 rfl ?_
          refine E_iload_n at_X2_lettersAsIn_18 rfl ?_
          refine E_schr (z := nI 99) at_X2_lettersAsIn_19 (by decide) (Nat.le_of_ble_eq_true rfl) (by decide) (by decide) ?_
          refine E_callV (v := some (.int (nI 1))) (As := [.ref 34, .int (nI (a + 0)), .int (nI 99)]) (r0 := []) (cs2 := (ww im lf s d k ls (-1) (nI n) (nI a) rn rq lt m1 m2 m3 m4 bd fc hd sz el t g fm hm so si sh ce ca td wa kp la bf oo bo pw ow tr)) at_X2_lettersAsIn_22 rfl rfl (Nat.le_of_ble_eq_true rfl) rfl (ab_rvOf w34 rfl) (w_st1 (x := a + 0) (c := 99) (by omega) (by decide) hn l_lt hlt hb0) (by decide) rfl ?_
          refine E_if (t := 30) (b := true) at_X2_lettersAsIn_25 rfl (by decide) ?_
          refine E_iinc (y := nI 1) (L2 := [some (.ref 34), some (.ref 2000002), some (.int (nI 1))]) at_X2_lettersAsIn_30 rfl (by decide) rfl ?_
          refine E_goto (t := 2) at_X2_lettersAsIn_33 rfl ?_
          refine E_iload_n at_X2_lettersAsIn_2 rfl ?_
          refine E_aload_n at_X2_lettersAsIn_3 rfl ?_
          refine E_slen (z := nI 4) at_X2_lettersAsIn_4 (by decide) (Nat.le_of_ble_eq_true rfl) (by decide) ?_
          refine E_ic (t := 36) (b := false) at_X2_lettersAsIn_7 rfl (by decide) ?_
          refine E_aload_n at_X2_lettersAsIn_10 rfl ?_
          refine E_aload_n at_X2_lettersAsIn_11 rfl ?_
          refine E_getfield (v := .int (nI a)) at_X2_lettersAsIn_12 w34 rfl (by decide) rfl ?_
          refine E_iload_n at_X2_lettersAsIn_15 rfl ?_
          refine E_iadd (z := nI (a + 1)) at_X2_lettersAsIn_16 (nI_add _ _) ?_
          refine E_aload_n at_X2_lettersAsIn_17 rfl ?_
          refine E_iload_n at_X2_lettersAsIn_18 rfl ?_
          refine E_schr (z := nI 111) at_X2_lettersAsIn_19 (by decide) (Nat.le_of_ble_eq_true rfl) (by decide) (by decide) ?_
          refine E_callV (v := some (.int (nI 1))) (As := [.ref 34, .int (nI (a + 1)), .int (nI 111)]) (r0 := []) (cs2 := (ww im lf s d k ls (-1) (nI n) (nI a) rn rq lt m1 m2 m3 m4 bd fc hd sz el t g fm hm so si sh ce ca td wa kp la bf oo bo pw ow tr)) at_X2_lettersAsIn_22 rfl rfl (Nat.le_of_ble_eq_true rfl) rfl (ab_rvOf w34 rfl) (w_st1 (x := a + 1) (c := 111) (by omega) (by decide) hn l_lt hlt hb1) (by decide) rfl ?_
          refine E_if (t := 30) (b := true) at_X2_lettersAsIn_25 rfl (by decide) ?_
          refine E_iinc (y := nI 2) (L2 := [some (.ref 34), some (.ref 2000002), some (.int (nI 2))]) at_X2_lettersAsIn_30 rfl (by decide) rfl ?_
          refine E_goto (t := 2) at_X2_lettersAsIn_33 rfl ?_
          refine E_iload_n at_X2_lettersAsIn_2 rfl ?_
          refine E_aload_n at_X2_lettersAsIn_3 rfl ?_
          refine E_slen (z := nI 4) at_X2_lettersAsIn_4 (by decide) (Nat.le_of_ble_eq_true rfl) (by decide) ?_
          refine E_ic (t := 36) (b := false) at_X2_lettersAsIn_7 rfl (by decide) ?_
          refine E_aload_n at_X2_lettersAsIn_10 rfl ?_
          refine E_aload_n at_X2_lettersAsIn_11 rfl ?_
          refine E_getfield (v := .int (nI a)) at_X2_lettersAsIn_12 w34 rfl (by decide) rfl ?_
          refine E_iload_n at_X2_lettersAsIn_15 rfl ?_
          refine E_iadd (z := nI (a + 2)) at_X2_lettersAsIn_16 (nI_add _ _) ?_
          refine E_aload_n at_X2_lettersAsIn_17 rfl ?_
          refine E_iload_n at_X2_lettersAsIn_18 rfl ?_
          refine E_schr (z := nI 115) at_X2_lettersAsIn_19 (by decide) (Nat.le_of_ble_eq_true rfl) (by decide) (by decide) ?_
          refine E_callV (v := some (.int (nI 1))) (As := [.ref 34, .int (nI (a + 2)), .int (nI 115)]) (r0 := []) (cs2 := (ww im lf s d k ls (-1) (nI n) (nI a) rn rq lt m1 m2 m3 m4 bd fc hd sz el t g fm hm so si sh ce ca td wa kp la bf oo bo pw ow tr)) at_X2_lettersAsIn_22 rfl rfl (Nat.le_of_ble_eq_true rfl) rfl (ab_rvOf w34 rfl) (w_st1 (x := a + 2) (c := 115) (by omega) (by decide) hn l_lt hlt hb2) (by decide) rfl ?_
          refine E_if (t := 30) (b := true) at_X2_lettersAsIn_25 rfl (by decide) ?_
          refine E_iinc (y := nI 3) (L2 := [some (.ref 34), some (.ref 2000002), some (.int (nI 3))]) at_X2_lettersAsIn_30 rfl (by decide) rfl ?_
          refine E_goto (t := 2) at_X2_lettersAsIn_33 rfl ?_
          refine E_iload_n at_X2_lettersAsIn_2 rfl ?_
          refine E_aload_n at_X2_lettersAsIn_3 rfl ?_
          refine E_slen (z := nI 4) at_X2_lettersAsIn_4 (by decide) (Nat.le_of_ble_eq_true rfl) (by decide) ?_
          refine E_ic (t := 36) (b := false) at_X2_lettersAsIn_7 rfl (by decide) ?_
          refine E_aload_n at_X2_lettersAsIn_10 rfl ?_
          refine E_aload_n at_X2_lettersAsIn_11 rfl ?_
          refine E_getfield (v := .int (nI a)) at_X2_lettersAsIn_12 w34 rfl (by decide) rfl ?_
          refine E_iload_n at_X2_lettersAsIn_15 rfl ?_
          refine E_iadd (z := nI (a + 3)) at_X2_lettersAsIn_16 (nI_add _ _) ?_
          refine E_aload_n at_X2_lettersAsIn_17 rfl ?_
          refine E_iload_n at_X2_lettersAsIn_18 rfl ?_
          refine E_schr (z := nI 116) at_X2_lettersAsIn_19 (by decide) (Nat.le_of_ble_eq_true rfl) (by decide) (by decide) ?_
          refine E_callV (v := some (.int (nI 0))) (As := [.ref 34, .int (nI (a + 3)), .int (nI 116)]) (r0 := []) (cs2 := (ww im lf s d k ls (-1) (nI n) (nI a) rn rq lt m1 m2 m3 m4 bd fc hd sz el t g fm hm so si sh ce ca td wa kp la bf oo bo pw ow tr)) at_X2_lettersAsIn_22 rfl rfl (Nat.le_of_ble_eq_true rfl) rfl (ab_rvOf w34 rfl) (w_st0 (x := a + 3) (c := 116) (by omega) (by decide) hn l_lt hlt hb3) (by decide) rfl ?_
          refine E_if (t := 30) (b := false) at_X2_lettersAsIn_25 rfl (by decide) ?_
          refine E_iload_n at_X2_lettersAsIn_28 rfl ?_
          exact E_iret at_X2_lettersAsIn_29 rfl
        · have q0 : mtc e n [99, 111, 115, 116] (a) = mtc e n [111, 115, 116] (a + 1) + 1 := mtc_t hb0
          have q1 : mtc e n [111, 115, 116] (a + 1) = mtc e n [115, 116] (a + 1 + 1) + 1 := mtc_t hb1
          have q2 : mtc e n [115, 116] (a + 1 + 1) = mtc e n [116] (a + 1 + 1 + 1) + 1 := mtc_t hb2
          have q3 : mtc e n [116] (a + 1 + 1 + 1) = mtc e n [] (a + 1 + 1 + 1 + 1) + 1 := mtc_t hb3
          have q4 : mtc e n [] (a + 1 + 1 + 1 + 1) = 0 := rfl
          have hm0 : mj2 e n a = 4 := by unfold mj2; omega
          rw [hm0]
          refine Ef.in (md := mX2_lettersAsIn) (L := [some (.ref 34), some (.ref 2000002), none]) rfl (Nat.le_of_ble_eq_true rfl) rfl ?_
          refine E_iconst (x := nI 0) at_X2_lettersAsIn_0 (by decide) ?_
          refine E_istore_n (L2 := [some (.ref 34), some (.ref 2000002), some (.int (nI 0))]) at_X2_lettersAsIn_1 rfl ?_
          refine E_iload_n at_X2_lettersAsIn_2 rfl ?_
          refine E_aload_n at_X2_lettersAsIn_3 rfl ?_
          refine E_slen (z := nI 4) at_X2_lettersAsIn_4 (by decide) (Nat.le_of_ble_eq_true rfl) (by decide) ?_
          refine E_ic (t := 36) (b := false) at_X2_lettersAsIn_7 rfl (by decide) ?_
          refine E_aload_n at_X2_lettersAsIn_10 rfl ?_
          refine E_aload_n at_X2_lettersAsIn_11 rfl ?_
          refine E_getfield (v := .int (nI a)) at_X2_lettersAsIn_12 w34 rfl (by decide) rfl ?_
          refine E_iload_n at_X2_lettersAsIn_15 rfl ?_
          refine E_iadd (z := nI (a + 0)) at_X2_lettersAsIn_16 (nI_add _ _) ?_
          refine E_aload_n at_X2_lettersAsIn_17 rfl ?_
          refine E_iload_n at_X2_lettersAsIn_18 rfl ?_
          refine E_schr (z := nI 99) at_X2_lettersAsIn_19 (by decide) (Nat.le_of_ble_eq_true rfl) (by decide) (by decide) ?_
          refine E_callV (v := some (.int (nI 1))) (As := [.ref 34, .int (nI (a + 0)), .int (nI 99)]) (r0 := []) (cs2 := (ww im lf s d k ls (-1) (nI n) (nI a) rn rq lt m1 m2 m3 m4 bd fc hd sz el t g fm hm so si sh ce ca td wa kp la bf oo bo pw ow tr)) at_X2_lettersAsIn_22 rfl rfl (Nat.le_of_ble_eq_true rfl) rfl (ab_rvOf w34 rfl) (w_st1 (x := a + 0) (c := 99) (by omega) (by decide) hn l_lt hlt hb0) (by decide) rfl ?_
          refine E_if (t := 30) (b := true) at_X2_lettersAsIn_25 rfl (by decide) ?_
          refine E_iinc (y := nI 1) (L2 := [some (.ref 34), some (.ref 2000002), some (.int (nI 1))]) at_X2_lettersAsIn_30 rfl (by decide) rfl ?_
          refine E_goto (t := 2) at_X2_lettersAsIn_33 rfl ?_
          refine E_iload_n at_X2_lettersAsIn_2 rfl ?_
          refine E_aload_n at_X2_lettersAsIn_3 rfl ?_
          refine E_slen (z := nI 4) at_X2_lettersAsIn_4 (by decide) (Nat.le_of_ble_eq_true rfl) (by decide) ?_
          refine E_ic (t := 36) (b := false) at_X2_lettersAsIn_7 rfl (by decide) ?_
          refine E_aload_n at_X2_lettersAsIn_10 rfl ?_
          refine E_aload_n at_X2_lettersAsIn_11 rfl ?_
          refine E_getfield (v := .int (nI a)) at_X2_lettersAsIn_12 w34 rfl (by decide) rfl ?_
          refine E_iload_n at_X2_lettersAsIn_15 rfl ?_
          refine E_iadd (z := nI (a + 1)) at_X2_lettersAsIn_16 (nI_add _ _) ?_
          refine E_aload_n at_X2_lettersAsIn_17 rfl ?_
          refine E_iload_n at_X2_lettersAsIn_18 rfl ?_
          refine E_schr (z := nI 111) at_X2_lettersAsIn_19 (by decide) (Nat.le_of_ble_eq_true rfl) (by decide) (by decide) ?_
          refine E_callV (v := some (.int (nI 1))) (As := [.ref 34, .int (nI (a + 1)), .int (nI 111)]) (r0 := []) (cs2 := (ww im lf s d k ls (-1) (nI n) (nI a) rn rq lt m1 m2 m3 m4 bd fc hd sz el t g fm hm so si sh ce ca td wa kp la bf oo bo pw ow tr)) at_X2_lettersAsIn_22 rfl rfl (Nat.le_of_ble_eq_true rfl) rfl (ab_rvOf w34 rfl) (w_st1 (x := a + 1) (c := 111) (by omega) (by decide) hn l_lt hlt hb1) (by decide) rfl ?_
          refine E_if (t := 30) (b := true) at_X2_lettersAsIn_25 rfl (by decide) ?_
          refine E_iinc (y := nI 2) (L2 := [some (.ref 34), some (.ref 2000002), some (.int (nI 2))]) at_X2_lettersAsIn_30 rfl (by decide) rfl ?_
          refine E_goto (t := 2) at_X2_lettersAsIn_33 rfl ?_
          refine E_iload_n at_X2_lettersAsIn_2 rfl ?_
          refine E_aload_n at_X2_lettersAsIn_3 rfl ?_
          refine E_slen (z := nI 4) at_X2_lettersAsIn_4 (by decide) (Nat.le_of_ble_eq_true rfl) (by decide) ?_
          refine E_ic (t := 36) (b := false) at_X2_lettersAsIn_7 rfl (by decide) ?_
          refine E_aload_n at_X2_lettersAsIn_10 rfl ?_
          refine E_aload_n at_X2_lettersAsIn_11 rfl ?_
          refine E_getfield (v := .int (nI a)) at_X2_lettersAsIn_12 w34 rfl (by decide) rfl ?_
          refine E_iload_n at_X2_lettersAsIn_15 rfl ?_
          refine E_iadd (z := nI (a + 2)) at_X2_lettersAsIn_16 (nI_add _ _) ?_
          refine E_aload_n at_X2_lettersAsIn_17 rfl ?_
          refine E_iload_n at_X2_lettersAsIn_18 rfl ?_
          refine E_schr (z := nI 115) at_X2_lettersAsIn_19 (by decide) (Nat.le_of_ble_eq_true rfl) (by decide) (by decide) ?_
          refine E_callV (v := some (.int (nI 1))) (As := [.ref 34, .int (nI (a + 2)), .int (nI 115)]) (r0 := []) (cs2 := (ww im lf s d k ls (-1) (nI n) (nI a) rn rq lt m1 m2 m3 m4 bd fc hd sz el t g fm hm so si sh ce ca td wa kp la bf oo bo pw ow tr)) at_X2_lettersAsIn_22 rfl rfl (Nat.le_of_ble_eq_true rfl) rfl (ab_rvOf w34 rfl) (w_st1 (x := a + 2) (c := 115) (by omega) (by decide) hn l_lt hlt hb2) (by decide) rfl ?_
          refine E_if (t := 30) (b := true) at_X2_lettersAsIn_25 rfl (by decide) ?_
          refine E_iinc (y := nI 3) (L2 := [some (.ref 34), some (.ref 2000002), some (.int (nI 3))]) at_X2_lettersAsIn_30 rfl (by decide) rfl ?_
          refine E_goto (t := 2) at_X2_lettersAsIn_33 rfl ?_
          refine E_iload_n at_X2_lettersAsIn_2 rfl ?_
          refine E_aload_n at_X2_lettersAsIn_3 rfl ?_
          refine E_slen (z := nI 4) at_X2_lettersAsIn_4 (by decide) (Nat.le_of_ble_eq_true rfl) (by decide) ?_
          refine E_ic (t := 36) (b := false) at_X2_lettersAsIn_7 rfl (by decide) ?_
          refine E_aload_n at_X2_lettersAsIn_10 rfl ?_
          refine E_aload_n at_X2_lettersAsIn_11 rfl ?_
          refine E_getfield (v := .int (nI a)) at_X2_lettersAsIn_12 w34 rfl (by decide) rfl ?_
          refine E_iload_n at_X2_lettersAsIn_15 rfl ?_
          refine E_iadd (z := nI (a + 3)) at_X2_lettersAsIn_16 (nI_add _ _) ?_
          refine E_aload_n at_X2_lettersAsIn_17 rfl ?_
          refine E_iload_n at_X2_lettersAsIn_18 rfl ?_
          refine E_schr (z := nI 116) at_X2_lettersAsIn_19 (by decide) (Nat.le_of_ble_eq_true rfl) (by decide) (by decide) ?_
          refine E_callV (v := some (.int (nI 1))) (As := [.ref 34, .int (nI (a + 3)), .int (nI 116)]) (r0 := []) (cs2 := (ww im lf s d k ls (-1) (nI n) (nI a) rn rq lt m1 m2 m3 m4 bd fc hd sz el t g fm hm so si sh ce ca td wa kp la bf oo bo pw ow tr)) at_X2_lettersAsIn_22 rfl rfl (Nat.le_of_ble_eq_true rfl) rfl (ab_rvOf w34 rfl) (w_st1 (x := a + 3) (c := 116) (by omega) (by decide) hn l_lt hlt hb3) (by decide) rfl ?_
          refine E_if (t := 30) (b := true) at_X2_lettersAsIn_25 rfl (by decide) ?_
          refine E_iinc (y := nI 4) (L2 := [some (.ref 34), some (.ref 2000002), some (.int (nI 4))]) at_X2_lettersAsIn_30 rfl (by decide) rfl ?_
          refine E_goto (t := 2) at_X2_lettersAsIn_33 rfl ?_
          refine E_iload_n at_X2_lettersAsIn_2 rfl ?_
          refine E_aload_n at_X2_lettersAsIn_3 rfl ?_
          refine E_slen (z := nI 4) at_X2_lettersAsIn_4 (by decide) (Nat.le_of_ble_eq_true rfl) (by decide) ?_
          refine E_ic (t := 36) (b := true) at_X2_lettersAsIn_7 rfl (by decide) ?_
          refine E_aload_n at_X2_lettersAsIn_36 rfl ?_
          refine E_slen (z := nI 4) at_X2_lettersAsIn_37 (by decide) (Nat.le_of_ble_eq_true rfl) (by decide) ?_
          exact E_iret at_X2_lettersAsIn_40 rfl
set_option maxHeartbeats 400000 in
theorem w_li3 {e : List Int64} {n a : Nat} (hn : n ≤ 160) (ha : a ≤ n) (l_lt : lt.length = 160) (hlt : ∀ i, i < n → lt.getD i 0 = tw e i) : Ev ab_Z0 2 23 [.ref 34, .ref 2000003] (ww im lf s d k ls (-1) (nI n) (nI a) rn rq lt m1 m2 m3 m4 bd fc hd sz el t g fm hm so si sh ce ca td wa kp la bf oo bo pw ow tr) (some (.int (nI (mj3 e n a))), (ww im lf s d k ls (-1) (nI n) (nI a) rn rq lt m1 m2 m3 m4 bd fc hd sz el t g fm hm so si sh ce ca td wa kp la bf oo bo pw ow tr)) := by
  rcases bo2 (chB e n (a) 104) with hb0 | hb0
  · have q0 : mtc e n [104, 97, 115] (a) = 0 := mtc_f hb0
    have hm0 : mj3 e n a = 0 := by unfold mj3; omega
    rw [hm0]
    refine Ef.in (md := mX2_lettersAsIn) (L := [some (.ref 34), some (.ref 2000003), none]) rfl (Nat.le_of_ble_eq_true rfl) rfl ?_
    refine E_iconst (x := nI 0) at_X2_lettersAsIn_0 (by decide) ?_
    refine E_istore_n (L2 := [some (.ref 34), some (.ref 2000003), some (.int (nI 0))]) at_X2_lettersAsIn_1 rfl ?_
    refine E_iload_n at_X2_lettersAsIn_2 rfl ?_
    refine E_aload_n at_X2_lettersAsIn_3 rfl ?_
    refine E_slen (z := nI 3) at_X2_lettersAsIn_4 (by decide) (Nat.le_of_ble_eq_true rfl) (by decide) ?_
    refine E_ic (t := 36) (b := false) at_X2_lettersAsIn_7 rfl (by decide) ?_
    refine E_aload_n at_X2_lettersAsIn_10 rfl ?_
    refine E_aload_n at_X2_lettersAsIn_11 rfl ?_
    refine E_getfield (v := .int (nI a)) at_X2_lettersAsIn_12 w34 rfl (by decide) rfl ?_
    refine E_iload_n at_X2_lettersAsIn_15 rfl ?_
    refine E_iadd (z := nI (a + 0)) at_X2_lettersAsIn_16 (nI_add _ _) ?_
    refine E_aload_n at_X2_lettersAsIn_17 rfl ?_
    refine E_iload_n at_X2_lettersAsIn_18 rfl ?_
    refine E_schr (z := nI 104) at_X2_lettersAsIn_19 (by decide) (Nat.le_of_ble_eq_true rfl) (by decide) (by decide) ?_
    refine E_callV (v := some (.int (nI 0))) (As := [.ref 34, .int (nI (a + 0)), .int (nI 104)]) (r0 := []) (cs2 := (ww im lf s d k ls (-1) (nI n) (nI a) rn rq lt m1 m2 m3 m4 bd fc hd sz el t g fm hm so si sh ce ca td wa kp la bf oo bo pw ow tr)) at_X2_lettersAsIn_22 rfl rfl (Nat.le_of_ble_eq_true rfl) rfl (ab_rvOf w34 rfl) (w_st0 (x := a + 0) (c := 104) (by omega) (by decide) hn l_lt hlt hb0) (by decide) rfl ?_
    refine E_if (t := 30) (b := false) at_X2_lettersAsIn_25 rfl (by decide) ?_
    refine E_iload_n at_X2_lettersAsIn_28 rfl ?_
    exact E_iret at_X2_lettersAsIn_29 rfl
  · rcases bo2 (chB e n (a + 1) 97) with hb1 | hb1
    · have q0 : mtc e n [104, 97, 115] (a) = mtc e n [97, 115] (a + 1) + 1 := mtc_t hb0
      have q1 : mtc e n [97, 115] (a + 1) = 0 := mtc_f hb1
      have hm0 : mj3 e n a = 1 := by unfold mj3; omega
      rw [hm0]
      refine Ef.in (md := mX2_lettersAsIn) (L := [some (.ref 34), some (.ref 2000003), none]) rfl (Nat.le_of_ble_eq_true rfl) rfl ?_
      refine E_iconst (x := nI 0) at_X2_lettersAsIn_0 (by decide) ?_
      refine E_istore_n (L2 := [some (.ref 34), some (.ref 2000003), some (.int (nI 0))]) at_X2_lettersAsIn_1 rfl ?_
      refine E_iload_n at_X2_lettersAsIn_2 rfl ?_
      refine E_aload_n at_X2_lettersAsIn_3 rfl ?_
      refine E_slen (z := nI 3) at_X2_lettersAsIn_4 (by decide) (Nat.le_of_ble_eq_true rfl) (by decide) ?_
      refine E_ic (t := 36) (b := false) at_X2_lettersAsIn_7 rfl (by decide) ?_
      refine E_aload_n at_X2_lettersAsIn_10 rfl ?_
      refine E_aload_n at_X2_lettersAsIn_11 rfl ?_
      refine E_getfield (v := .int (nI a)) at_X2_lettersAsIn_12 w34 rfl (by decide) rfl ?_
      refine E_iload_n at_X2_lettersAsIn_15 rfl ?_
      refine E_iadd (z := nI (a + 0)) at_X2_lettersAsIn_16 (nI_add _ _) ?_
      refine E_aload_n at_X2_lettersAsIn_17 rfl ?_
      refine E_iload_n at_X2_lettersAsIn_18 rfl ?_
      refine E_schr (z := nI 104) at_X2_lettersAsIn_19 (by decide) (Nat.le_of_ble_eq_true rfl) (by decide) (by decide) ?_
      refine E_callV (v := some (.int (nI 1))) (As := [.ref 34, .int (nI (a + 0)), .int (nI 104)]) (r0 := []) (cs2 := (ww im lf s d k ls (-1) (nI n) (nI a) rn rq lt m1 m2 m3 m4 bd fc hd sz el t g fm hm so si sh ce ca td wa kp la bf oo bo pw ow tr)) at_X2_lettersAsIn_22 rfl rfl (Nat.le_of_ble_eq_true rfl) rfl (ab_rvOf w34 rfl) (w_st1 (x := a + 0) (c := 104) (by omega) (by decide) hn l_lt hlt hb0) (by decide) rfl ?_
      refine E_if (t := 30) (b := true) at_X2_lettersAsIn_25 rfl (by decide) ?_
      refine E_iinc (y := nI 1) (L2 := [some (.ref 34), some (.ref 2000003), some (.int (nI 1))]) at_X2_lettersAsIn_30 rfl (by decide) rfl ?_
      refine E_goto (t := 2) at_X2_lettersAsIn_33 rfl ?_
      refine E_iload_n at_X2_lettersAsIn_2 rfl ?_
      refine E_aload_n at_X2_lettersAsIn_3 rfl ?_
      refine E_slen (z := nI 3) at_X2_lettersAsIn_4 (by decide) (Nat.le_of_ble_eq_true rfl) (by decide) ?_
      refine E_ic (t := 36) (b := false) at_X2_lettersAsIn_7 rfl (by decide) ?_
      refine E_aload_n at_X2_lettersAsIn_10 rfl ?_
      refine E_aload_n at_X2_lettersAsIn_11 rfl ?_
      refine E_getfield (v := .int (nI a)) at_X2_lettersAsIn_12 w34 rfl (by decide) rfl ?_
      refine E_iload_n at_X2_lettersAsIn_15 rfl ?_
      refine E_iadd (z := nI (a + 1)) at_X2_lettersAsIn_16 (nI_add _ _) ?_
      refine E_aload_n at_X2_lettersAsIn_17 rfl ?_
      refine E_iload_n at_X2_lettersAsIn_18 rfl ?_
      refine E_schr (z := nI 97) at_X2_lettersAsIn_19 (by decide) (Nat.le_of_ble_eq_true rfl) (by decide) (by decide) ?_
      refine E_callV (v := some (.int (nI 0))) (As := [.ref 34, .int (nI (a + 1)), .int (nI 97)]) (r0 := []) (cs2 := (ww im lf s d k ls (-1) (nI n) (nI a) rn rq lt m1 m2 m3 m4 bd fc hd sz el t g fm hm so si sh ce ca td wa kp la bf oo bo pw ow tr)) at_X2_lettersAsIn_22 rfl rfl (Nat.le_of_ble_eq_true rfl) rfl (ab_rvOf w34 rfl) (w_st0 (x := a + 1) (c := 97) (by omega) (by decide) hn l_lt hlt hb1) (by decide) rfl ?_
      refine E_if (t := 30) (b := false) at_X2_lettersAsIn_25 rfl (by decide) ?_
      refine E_iload_n at_X2_lettersAsIn_28 rfl ?_
      exact E_iret at_X2_lettersAsIn_29 rfl
    · rcases bo2 (chB e n (a + 1 + 1) 115) with hb2 | hb2
      · have q0 : mtc e n [104, 97, 115] (a) = mtc e n [97, 115] (a + 1) + 1 := mtc_t hb0
        have q1 : mtc e n [97, 115] (a + 1) = mtc e n [115] (a + 1 + 1) + 1 := mtc_t hb1
        have q2 : mtc e n [115] (a + 1 + 1) = 0 := mtc_f hb2
        have hm0 : mj3 e n a = 2 := by unfold mj3; omega
        rw [hm0]
        refine Ef.in (md := mX2_lettersAsIn) (L := [some (.ref 34), some (.ref 2000003), none]) rfl (Nat.le_of_ble_eq_true rfl) rfl ?_
        refine E_iconst (x := nI 0) at_X2_lettersAsIn_0 (by decide) ?_
        refine E_istore_n (L2 := [some (.ref 34), some (.ref 2000003), some (.int (nI 0))]) at_X2_lettersAsIn_1 rfl ?_
        refine E_iload_n at_X2_lettersAsIn_2 rfl ?_
        refine E_aload_n at_X2_lettersAsIn_3 rfl ?_
        refine E_slen (z := nI 3) at_X2_lettersAsIn_4 (by decide) (Nat.le_of_ble_eq_true rfl) (by decide) ?_
        refine E_ic (t := 36) (b := false) at_X2_lettersAsIn_7 rfl (by decide) ?_
        refine E_aload_n at_X2_lettersAsIn_10 rfl ?_
        refine E_aload_n at_X2_lettersAsIn_11 rfl ?_
        refine E_getfield (v := .int (nI a)) at_X2_lettersAsIn_12 w34 rfl (by decide) rfl ?_
        refine E_iload_n at_X2_lettersAsIn_15 rfl ?_
        refine E_iadd (z := nI (a + 0)) at_X2_lettersAsIn_16 (nI_add _ _) ?_
        refine E_aload_n at_X2_lettersAsIn_17 rfl ?_
        refine E_iload_n at_X2_lettersAsIn_18 rfl ?_
        refine E_schr (z := nI 104) at_X2_lettersAsIn_19 (by decide) (Nat.le_of_ble_eq_true rfl) (by decide) (by decide) ?_
        refine E_callV (v := some (.int (nI 1))) (As := [.ref 34, .int (nI (a + 0)), .int (nI 104)]) (r0 := []) (cs2 := (ww im lf s d k ls (-1) (nI n) (nI a) rn rq lt m1 m2 m3 m4 bd fc hd sz el t g fm hm so si sh ce ca td wa kp la bf oo bo pw ow tr)) at_X2_lettersAsIn_22 rfl rfl (Nat.le_of_ble_eq_true rfl) rfl (ab_rvOf w34 rfl) (w_st1 (x := a + 0) (c := 104) (by omega) (by decide) hn l_lt hlt hb0) (by decide) rfl ?_
        refine E_if (t := 30) (b := true) at_X2_lettersAsIn_25 rfl (by decide) ?_
        refine E_iinc (y := nI 1) (L2 := [some (.ref 34), some (.ref 2000003), some (.int (nI 1))]) at_X2_lettersAsIn_30 rfl (by decide) rfl ?_
        refine E_goto (t := 2) at_X2_lettersAsIn_33 rfl ?_
        refine E_iload_n at_X2_lettersAsIn_2 rfl ?_
        refine E_aload_n at_X2_lettersAsIn_3 rfl ?_
        refine E_slen (z := nI 3) at_X2_lettersAsIn_4 (by decide) (Nat.le_of_ble_eq_true rfl) (by decide) ?_
        refine E_ic (t := 36) (b := false) at_X2_lettersAsIn_7 rfl (by decide) ?_
        refine E_aload_n at_X2_lettersAsIn_10 rfl ?_
        refine E_aload_n at_X2_lettersAsIn_11 rfl ?_
        refine E_getfield (v := .int (nI a)) at_X2_lettersAsIn_12 w34 rfl (by decide) rfl ?_
        refine E_iload_n at_X2_lettersAsIn_15 rfl ?_
        refine E_iadd (z := nI (a + 1)) at_X2_lettersAsIn_16 (nI_add _ _) ?_
        refine E_aload_n at_X2_lettersAsIn_17 rfl ?_
        refine E_iload_n at_X2_lettersAsIn_18 rfl ?_
        refine E_schr (z := nI 97) at_X2_lettersAsIn_19 (by decide) (Nat.le_of_ble_eq_true rfl) (by decide) (by decide) ?_
        refine E_callV (v := some (.int (nI 1))) (As := [.ref 34, .int (nI (a + 1)), .int (nI 97)]) (r0 := []) (cs2 := (ww im lf s d k ls (-1) (nI n) (nI a) rn rq lt m1 m2 m3 m4 bd fc hd sz el t g fm hm so si sh ce ca td wa kp la bf oo bo pw ow tr)) at_X2_lettersAsIn_22 rfl rfl (Nat.le_of_ble_eq_true rfl) rfl (ab_rvOf w34 rfl) (w_st1 (x := a + 1) (c := 97) (by omega) (by decide) hn l_lt hlt hb1) (by decide) rfl ?_
        refine E_if (t := 30) (b := true) at_X2_lettersAsIn_25 rfl (by decide) ?_
        refine E_iinc (y := nI 2) (L2 := [some (.ref 34), some (.ref 2000003), some (.int (nI 2))]) at_X2_lettersAsIn_30 rfl (by decide) rfl ?_
        refine E_goto (t := 2) at_X2_lettersAsIn_33 rfl ?_
        refine E_iload_n at_X2_lettersAsIn_2 rfl ?_
        refine E_aload_n at_X2_lettersAsIn_3 rfl ?_
        refine E_slen (z := nI 3) at_X2_lettersAsIn_4 (by decide) (Nat.le_of_ble_eq_true rfl) (by decide) ?_
        refine E_ic (t := 36) (b := false) at_X2_lettersAsIn_7 rfl (by decide) ?_
        refine E_aload_n at_X2_lettersAsIn_10 rfl ?_
        refine E_aload_n at_X2_lettersAsIn_11 rfl ?_
        refine E_getfield (v := .int (nI a)) at_X2_lettersAsIn_12 w34 rfl (by decide) rfl ?_
        refine E_iload_n at_X2_lettersAsIn_15 rfl ?_
        refine E_iadd (z := nI (a + 2)) at_X2_lettersAsIn_16 (nI_add _ _) ?_
        refine E_aload_n at_X2_lettersAsIn_17 rfl ?_
        refine E_iload_n at_X2_lettersAsIn_18 rfl ?_
        refine E_schr (z := nI 115) at_X2_lettersAsIn_19 (by decide) (Nat.le_of_ble_eq_true rfl) (by decide) (by decide) ?_
        refine E_callV (v := some (.int (nI 0))) (As := [.ref 34, .int (nI (a + 2)), .int (nI 115)]) (r0 := []) (cs2 := (ww im lf s d k ls (-1) (nI n) (nI a) rn rq lt m1 m2 m3 m4 bd fc hd sz el t g fm hm so si sh ce ca td wa kp la bf oo bo pw ow tr)) at_X2_lettersAsIn_22 rfl rfl (Nat.le_of_ble_eq_true rfl) rfl (ab_rvOf w34 rfl) (w_st0 (x := a + 2) (c := 115) (by omega) (by decide) hn l_lt hlt hb2) (by decide) rfl ?_
        refine E_if (t := 30) (b := false) at_X2_lettersAsIn_25 rfl (by decide) ?_
        refine E_iload_n at_X2_lettersAsIn_28 rfl ?_
        exact E_iret at_X2_lettersAsIn_29 rfl
      · have q0 : mtc e n [104, 97, 115] (a) = mtc e n [97, 115] (a + 1) + 1 := mtc_t hb0
        have q1 : mtc e n [97, 115] (a + 1) = mtc e n [115] (a + 1 + 1) + 1 := mtc_t hb1
        have q2 : mtc e n [115] (a + 1 + 1) = mtc e n [] (a + 1 + 1 + 1) + 1 := mtc_t hb2
        have q3 : mtc e n [] (a + 1 + 1 + 1) = 0 := rfl
        have hm0 : mj3 e n a = 3 := by unfold mj3; omega
        rw [hm0]
        refine Ef.in (md := mX2_lettersAsIn) (L := [some (.ref 34), some (.ref 2000003), none]) rfl (Nat.le_of_ble_eq_true rfl) rfl ?_
        refine E_iconst (x := nI 0) at_X2_lettersAsIn_0 (by decide) ?_
        refine E_istore_n (L2 := [some (.ref 34), some (.ref 2000003), some (.int (nI 0))]) at_X2_lettersAsIn_1 rfl ?_
        refine E_iload_n at_X2_lettersAsIn_2 rfl ?_
        refine E_aload_n at_X2_lettersAsIn_3 rfl ?_
        refine E_slen (z := nI 3) at_X2_lettersAsIn_4 (by decide) (Nat.le_of_ble_eq_true rfl) (by decide) ?_
        refine E_ic (t := 36) (b := false) at_X2_lettersAsIn_7 rfl (by decide) ?_
        refine E_aload_n at_X2_lettersAsIn_10 rfl ?_
        refine E_aload_n at_X2_lettersAsIn_11 rfl ?_
        refine E_getfield (v := .int (nI a)) at_X2_lettersAsIn_12 w34 rfl (by decide) rfl ?_
        refine E_iload_n at_X2_lettersAsIn_15 rfl ?_
        refine E_iadd (z := nI (a + 0)) at_X2_lettersAsIn_16 (nI_add _ _) ?_
        refine E_aload_n at_X2_lettersAsIn_17 rfl ?_
        refine E_iload_n at_X2_lettersAsIn_18 rfl ?_
        refine E_schr (z := nI 104) at_X2_lettersAsIn_19 (by decide) (Nat.le_of_ble_eq_true rfl) (by decide) (by decide) ?_
        refine E_callV (v := some (.int (nI 1))) (As := [.ref 34, .int (nI (a + 0)), .int (nI 104)]) (r0 := []) (cs2 := (ww im lf s d k ls (-1) (nI n) (nI a) rn rq lt m1 m2 m3 m4 bd fc hd sz el t g fm hm so si sh ce ca td wa kp la bf oo bo pw ow tr)) at_X2_lettersAsIn_22 rfl rfl (Nat.le_of_ble_eq_true rfl) rfl (ab_rvOf w34 rfl) (w_st1 (x := a + 0) (c := 104) (by omega) (by decide) hn l_lt hlt hb0) (by decide) rfl ?_
        refine E_if (t := 30) (b := true) at_X2_lettersAsIn_25 rfl (by decide) ?_
        refine E_iinc (y := nI 1) (L2 := [some (.ref 34), some (.ref 2000003), some (.int (nI 1))]) at_X2_lettersAsIn_30 rfl (by decide) rfl ?_
        refine E_goto (t := 2) at_X2_lettersAsIn_33 rfl ?_
        refine E_iload_n at_X2_lettersAsIn_2 rfl ?_
        refine E_aload_n at_X2_lettersAsIn_3 rfl ?_
        refine E_slen (z := nI 3) at_X2_lettersAsIn_4 (by decide) (Nat.le_of_ble_eq_true rfl) (by decide) ?_
        refine E_ic (t := 36) (b := false) at_X2_lettersAsIn_7 rfl (by decide) ?_
        refine E_aload_n at_X2_lettersAsIn_10 rfl ?_
        refine E_aload_n at_X2_lettersAsIn_11 rfl ?_
        refine E_getfield (v := .int (nI a)) at_X2_lettersAsIn_12 w34 rfl (by decide) rfl ?_
        refine E_iload_n at_X2_lettersAsIn_15 rfl ?_
        refine E_iadd (z := nI (a + 1)) at_X2_lettersAsIn_16 (nI_add _ _) ?_
        refine E_aload_n at_X2_lettersAsIn_17 rfl ?_
        refine E_iload_n at_X2_lettersAsIn_18 rfl ?_
        refine E_schr (z := nI 97) at_X2_lettersAsIn_19 (by decide) (Nat.le_of_ble_eq_true rfl) (by decide) (by decide) ?_
        refine E_callV (v := some (.int (nI 1))) (As := [.ref 34, .int (nI (a + 1)), .int (nI 97)]) (r0 := []) (cs2 := (ww im lf s d k ls (-1) (nI n) (nI a) rn rq lt m1 m2 m3 m4 bd fc hd sz el t g fm hm so si sh ce ca td wa kp la bf oo bo pw ow tr)) at_X2_lettersAsIn_22 rfl rfl (Nat.le_of_ble_eq_true rfl) rfl (ab_rvOf w34 rfl) (w_st1 (x := a + 1) (c := 97) (by omega) (by decide) hn l_lt hlt hb1) (by decide) rfl ?_
        refine E_if (t := 30) (b := true) at_X2_lettersAsIn_25 rfl (by decide) ?_
        refine E_iinc (y := nI 2) (L2 := [some (.ref 34), some (.ref 2000003), some (.int (nI 2))]) at_X2_lettersAsIn_30 rfl (by decide) rfl ?_
        refine E_goto (t := 2) at_X2_lettersAsIn_33 rfl ?_
        refine E_iload_n at_X2_lettersAsIn_2 rfl ?_
        refine E_aload_n at_X2_lettersAsIn_3 rfl ?_
        refine E_slen (z := nI 3) at_X2_lettersAsIn_4 (by decide) (Nat.le_of_ble_eq_true rfl) (by decide) ?_
        refine E_ic (t := 36) (b := false) at_X2_lettersAsIn_7 rfl (by decide) ?_
        refine E_aload_n at_X2_lettersAsIn_10 rfl ?_
        refine E_aload_n at_X2_lettersAsIn_11 rfl ?_
        refine E_getfield (v := .int (nI a)) at_X2_lettersAsIn_12 w34 rfl (by decide) rfl ?_
        refine E_iload_n at_X2_lettersAsIn_15 rfl ?_
        refine E_iadd (z := nI (a + 2)) at_X2_lettersAsIn_16 (nI_add _ _) ?_
        refine E_aload_n at_X2_lettersAsIn_17 rfl ?_
        refine E_iload_n at_X2_lettersAsIn_18 rfl ?_
        refine E_schr (z := nI 115) at_X2_lettersAsIn_19 (by decide) (Nat.le_of_ble_eq_true rfl) (by decide) (by decide) ?_
        refine E_callV (v := some (.int (nI 1))) (As := [.ref 34, .int (nI (a + 2)), .int (nI 115)]) (r0 := []) (cs2 := (ww im lf s d k ls (-1) (nI n) (nI a) rn rq lt m1 m2 m3 m4 bd fc hd sz el t g fm hm so si sh ce ca td wa kp la bf oo bo pw ow tr)) at_X2_lettersAsIn_22 rfl rfl (Nat.le_of_ble_eq_true rfl) rfl (ab_rvOf w34 rfl) (w_st1 (x := a + 2) (c := 115) (by omega) (by decide) hn l_lt hlt hb2) (by decide) rfl ?_
        refine E_if (t := 30) (b := true) at_X2_lettersAsIn_25 rfl (by decide) ?_
        refine E_iinc (y := nI 3) (L2 := [some (.ref 34), some (.ref 2000003), some (.int (nI 3))]) at_X2_lettersAsIn_30 rfl (by decide) rfl ?_
        refine E_goto (t := 2) at_X2_lettersAsIn_33 rfl ?_
        refine E_iload_n at_X2_lettersAsIn_2 rfl ?_
        refine E_aload_n at_X2_lettersAsIn_3 rfl ?_
        refine E_slen (z := nI 3) at_X2_lettersAsIn_4 (by decide) (Nat.le_of_ble_eq_true rfl) (by decide) ?_
        refine E_ic (t := 36) (b := true) at_X2_lettersAsIn_7 rfl (by decide) ?_
        refine E_aload_n at_X2_lettersAsIn_36 rfl ?_
        refine E_slen (z := nI 3) at_X2_lettersAsIn_37 (by decide) (Nat.le_of_ble_eq_true rfl) (by decide) ?_
        exact E_iret at_X2_lettersAsIn_40 rfl
set_option maxHeartbeats 400000 in
theorem w_li4 {e : List Int64} {n a : Nat} (hn : n ≤ 160) (ha : a ≤ n) (l_lt : lt.length = 160) (hlt : ∀ i, i < n → lt.getD i 0 = tw e i) : Ev ab_Z0 2 23 [.ref 34, .ref 2000004] (ww im lf s d k ls (-1) (nI n) (nI a) rn rq lt m1 m2 m3 m4 bd fc hd sz el t g fm hm so si sh ce ca td wa kp la bf oo bo pw ow tr) (some (.int (nI (mj4 e n a))), (ww im lf s d k ls (-1) (nI n) (nI a) rn rq lt m1 m2 m3 m4 bd fc hd sz el t g fm hm so si sh ce ca td wa kp la bf oo bo pw ow tr)) := by
  rcases bo2 (chB e n (a) 98) with hb0 | hb0
  · have q0 : mtc e n [98, 97, 99, 107] (a) = 0 := mtc_f hb0
    have hm0 : mj4 e n a = 0 := by unfold mj4; omega
    rw [hm0]
    refine Ef.in (md := mX2_lettersAsIn) (L := [some (.ref 34), some (.ref 2000004), none]) rfl (Nat.le_of_ble_eq_true rfl) rfl ?_
    refine E_iconst (x := nI 0) at_X2_lettersAsIn_0 (by decide) ?_
    refine E_istore_n (L2 := [some (.ref 34), some (.ref 2000004), some (.int (nI 0))]) at_X2_lettersAsIn_1 rfl ?_
    refine E_iload_n at_X2_lettersAsIn_2 rfl ?_
    refine E_aload_n at_X2_lettersAsIn_3 rfl ?_
    refine E_slen (z := nI 4) at_X2_lettersAsIn_4 (by decide) (Nat.le_of_ble_eq_true rfl) (by decide) ?_
    refine E_ic (t := 36) (b := false) at_X2_lettersAsIn_7 rfl (by decide) ?_
    refine E_aload_n at_X2_lettersAsIn_10 rfl ?_
    refine E_aload_n at_X2_lettersAsIn_11 rfl ?_
    refine E_getfield (v := .int (nI a)) at_X2_lettersAsIn_12 w34 rfl (by decide) rfl ?_
    refine E_iload_n at_X2_lettersAsIn_15 rfl ?_
    refine E_iadd (z := nI (a + 0)) at_X2_lettersAsIn_16 (nI_add _ _) ?_
    refine E_aload_n at_X2_lettersAsIn_17 rfl ?_
    refine E_iload_n at_X2_lettersAsIn_18 rfl ?_
    refine E_schr (z := nI 98) at_X2_lettersAsIn_19 (by decide) (Nat.le_of_ble_eq_true rfl) (by decide) (by decide) ?_
    refine E_callV (v := some (.int (nI 0))) (As := [.ref 34, .int (nI (a + 0)), .int (nI 98)]) (r0 := []) (cs2 := (ww im lf s d k ls (-1) (nI n) (nI a) rn rq lt m1 m2 m3 m4 bd fc hd sz el t g fm hm so si sh ce ca td wa kp la bf oo bo pw ow tr)) at_X2_lettersAsIn_22 rfl rfl (Nat.le_of_ble_eq_true rfl) rfl (ab_rvOf w34 rfl) (w_st0 (x := a + 0) (c := 98) (by omega) (by decide) hn l_lt hlt hb0) (by decide) rfl ?_
    refine E_if (t := 30) (b := false) at_X2_lettersAsIn_25 rfl (by decide) ?_
    refine E_iload_n at_X2_lettersAsIn_28 rfl ?_
    exact E_iret at_X2_lettersAsIn_29 rfl
  · rcases bo2 (chB e n (a + 1) 97) with hb1 | hb1
    · have q0 : mtc e n [98, 97, 99, 107] (a) = mtc e n [97, 99, 107] (a + 1) + 1 := mtc_t hb0
      have q1 : mtc e n [97, 99, 107] (a + 1) = 0 := mtc_f hb1
      have hm0 : mj4 e n a = 1 := by unfold mj4; omega
      rw [hm0]
      refine Ef.in (md := mX2_lettersAsIn) (L := [some (.ref 34), some (.ref 2000004), none]) rfl (Nat.le_of_ble_eq_true rfl) rfl ?_
      refine E_iconst (x := nI 0) at_X2_lettersAsIn_0 (by decide) ?_
      refine E_istore_n (L2 := [some (.ref 34), some (.ref 2000004), some (.int (nI 0))]) at_X2_lettersAsIn_1 rfl ?_
      refine E_iload_n at_X2_lettersAsIn_2 rfl ?_
      refine E_aload_n at_X2_lettersAsIn_3 rfl ?_
      refine E_slen (z := nI 4) at_X2_lettersAsIn_4 (by decide) (Nat.le_of_ble_eq_true rfl) (by decide) ?_
      refine E_ic (t := 36) (b := false) at_X2_lettersAsIn_7 rfl (by decide) ?_
      refine E_aload_n at_X2_lettersAsIn_10 rfl ?_
      refine E_aload_n at_X2_lettersAsIn_11 rfl ?_
      refine E_getfield (v := .int (nI a)) at_X2_lettersAsIn_12 w34 rfl (by decide) rfl ?_
      refine E_iload_n at_X2_lettersAsIn_15 rfl ?_
      refine E_iadd (z := nI (a + 0)) at_X2_lettersAsIn_16 (nI_add _ _) ?_
      refine E_aload_n at_X2_lettersAsIn_17 rfl ?_
      refine E_iload_n at_X2_lettersAsIn_18 rfl ?_
      refine E_schr (z := nI 98) at_X2_lettersAsIn_19 (by decide) (Nat.le_of_ble_eq_true rfl) (by decide) (by decide) ?_
      refine E_callV (v := some (.int (nI 1))) (As := [.ref 34, .int (nI (a + 0)), .int (nI 98)]) (r0 := []) (cs2 := (ww im lf s d k ls (-1) (nI n) (nI a) rn rq lt m1 m2 m3 m4 bd fc hd sz el t g fm hm so si sh ce ca td wa kp la bf oo bo pw ow tr)) at_X2_lettersAsIn_22 rfl rfl (Nat.le_of_ble_eq_true rfl) rfl (ab_rvOf w34 rfl) (w_st1 (x := a + 0) (c := 98) (by omega) (by decide) hn l_lt hlt hb0) (by decide) rfl ?_
      refine E_if (t := 30) (b := true) at_X2_lettersAsIn_25 rfl (by decide) ?_
      refine E_iinc (y := nI 1) (L2 := [some (.ref 34), some (.ref 2000004), some (.int (nI 1))]) at_X2_lettersAsIn_30 rfl (by decide) rfl ?_
      refine E_goto (t := 2) at_X2_lettersAsIn_33 rfl ?_
      refine E_iload_n at_X2_lettersAsIn_2 rfl ?_
      refine E_aload_n at_X2_lettersAsIn_3 rfl ?_
      refine E_slen (z := nI 4) at_X2_lettersAsIn_4 (by decide) (Nat.le_of_ble_eq_true rfl) (by decide) ?_
      refine E_ic (t := 36) (b := false) at_X2_lettersAsIn_7 rfl (by decide) ?_
      refine E_aload_n at_X2_lettersAsIn_10 rfl ?_
      refine E_aload_n at_X2_lettersAsIn_11 rfl ?_
      refine E_getfield (v := .int (nI a)) at_X2_lettersAsIn_12 w34 rfl (by decide) rfl ?_
      refine E_iload_n at_X2_lettersAsIn_15 rfl ?_
      refine E_iadd (z := nI (a + 1)) at_X2_lettersAsIn_16 (nI_add _ _) ?_
      refine E_aload_n at_X2_lettersAsIn_17 rfl ?_
      refine E_iload_n at_X2_lettersAsIn_18 rfl ?_
      refine E_schr (z := nI 97) at_X2_lettersAsIn_19 (by decide) (Nat.le_of_ble_eq_true rfl) (by decide) (by decide) ?_
      refine E_callV (v := some (.int (nI 0))) (As := [.ref 34, .int (nI (a + 1)), .int (nI 97)]) (r0 := []) (cs2 := (ww im lf s d k ls (-1) (nI n) (nI a) rn rq lt m1 m2 m3 m4 bd fc hd sz el t g fm hm so si sh ce ca td wa kp la bf oo bo pw ow tr)) at_X2_lettersAsIn_22 rfl rfl (Nat.le_of_ble_eq_true rfl) rfl (ab_rvOf w34 rfl) (w_st0 (x := a + 1) (c := 97) (by omega) (by decide) hn l_lt hlt hb1) (by decide) rfl ?_
      refine E_if (t := 30) (b := false) at_X2_lettersAsIn_25 rfl (by decide) ?_
      refine E_iload_n at_X2_lettersAsIn_28 rfl ?_
      exact E_iret at_X2_lettersAsIn_29 rfl
    · rcases bo2 (chB e n (a + 1 + 1) 99) with hb2 | hb2
      · have q0 : mtc e n [98, 97, 99, 107] (a) = mtc e n [97, 99, 107] (a + 1) + 1 := mtc_t hb0
        have q1 : mtc e n [97, 99, 107] (a + 1) = mtc e n [99, 107] (a + 1 + 1) + 1 := mtc_t hb1
        have q2 : mtc e n [99, 107] (a + 1 + 1) = 0 := mtc_f hb2
        have hm0 : mj4 e n a = 2 := by unfold mj4; omega
        rw [hm0]
        refine Ef.in (md := mX2_lettersAsIn) (L := [some (.ref 34), some (.ref 2000004), none]) rfl (Nat.le_of_ble_eq_true rfl) rfl ?_
        refine E_iconst (x := nI 0) at_X2_lettersAsIn_0 (by decide) ?_
        refine E_istore_n (L2 := [some (.ref 34), some (.ref 2000004), some (.int (nI 0))]) at_X2_lettersAsIn_1 rfl ?_
        refine E_iload_n at_X2_lettersAsIn_2 rfl ?_
        refine E_aload_n at_X2_lettersAsIn_3 rfl ?_
        refine E_slen (z := nI 4) at_X2_lettersAsIn_4 (by decide) (Nat.le_of_ble_eq_true rfl) (by decide) ?_
        refine E_ic (t := 36) (b := false) at_X2_lettersAsIn_7 rfl (by decide) ?_
        refine E_aload_n at_X2_lettersAsIn_10 rfl ?_
        refine E_aload_n at_X2_lettersAsIn_11 rfl ?_
        refine E_getfield (v := .int (nI a)) at_X2_lettersAsIn_12 w34 rfl (by decide) rfl ?_
        refine E_iload_n at_X2_lettersAsIn_15 rfl ?_
        refine E_iadd (z := nI (a + 0)) at_X2_lettersAsIn_16 (nI_add _ _) ?_
        refine E_aload_n at_X2_lettersAsIn_17 rfl ?_
        refine E_iload_n at_X2_lettersAsIn_18 rfl ?_
        refine E_schr (z := nI 98) at_X2_lettersAsIn_19 (by decide) (Nat.le_of_ble_eq_true rfl) (by decide) (by decide) ?_
        refine E_callV (v := some (.int (nI 1))) (As := [.ref 34, .int (nI (a + 0)), .int (nI 98)]) (r0 := []) (cs2 := (ww im lf s d k ls (-1) (nI n) (nI a) rn rq lt m1 m2 m3 m4 bd fc hd sz el t g fm hm so si sh ce ca td wa kp la bf oo bo pw ow tr)) at_X2_lettersAsIn_22 rfl rfl (Nat.le_of_ble_eq_true rfl) rfl (ab_rvOf w34 rfl) (w_st1 (x := a + 0) (c := 98) (by omega) (by decide) hn l_lt hlt hb0) (by decide) rfl ?_
        refine E_if (t := 30) (b := true) at_X2_lettersAsIn_25 rfl (by decide) ?_
        refine E_iinc (y := nI 1) (L2 := [some (.ref 34), some (.ref 2000004), some (.int (nI 1))]) at_X2_lettersAsIn_30 rfl (by decide) rfl ?_
        refine E_goto (t := 2) at_X2_lettersAsIn_33 rfl ?_
        refine E_iload_n at_X2_lettersAsIn_2 rfl ?_
        refine E_aload_n at_X2_lettersAsIn_3 rfl ?_
        refine E_slen (z := nI 4) at_X2_lettersAsIn_4 (by decide) (Nat.le_of_ble_eq_true rfl) (by decide) ?_
        refine E_ic (t := 36) (b := false) at_X2_lettersAsIn_7 rfl (by decide) ?_
        refine E_aload_n at_X2_lettersAsIn_10 rfl ?_
        refine E_aload_n at_X2_lettersAsIn_11 rfl ?_
        refine E_getfield (v := .int (nI a)) at_X2_lettersAsIn_12 w34 rfl (by decide) rfl ?_
        refine E_iload_n at_X2_lettersAsIn_15 rfl ?_
        refine E_iadd (z := nI (a + 1)) at_X2_lettersAsIn_16 (nI_add _ _) ?_
        refine E_aload_n at_X2_lettersAsIn_17 rfl ?_
        refine E_iload_n at_X2_lettersAsIn_18 rfl ?_
        refine E_schr (z := nI 97) at_X2_lettersAsIn_19 (by decide) (Nat.le_of_ble_eq_true rfl) (by decide) (by decide) ?_
        refine E_callV (v := some (.int (nI 1))) (As := [.ref 34, .int (nI (a + 1)), .int (nI 97)]) (r0 := []) (cs2 := (ww im lf s d k ls (-1) (nI n) (nI a) rn rq lt m1 m2 m3 m4 bd fc hd sz el t g fm hm so si sh ce ca td wa kp la bf oo bo pw ow tr)) at_X2_lettersAsIn_22 rfl rfl (Nat.le_of_ble_eq_true rfl) rfl (ab_rvOf w34 rfl) (w_st1 (x := a + 1) (c := 97) (by omega) (by decide) hn l_lt hlt hb1) (by decide) rfl ?_
        refine E_if (t := 30) (b := true) at_X2_lettersAsIn_25 rfl (by decide) ?_
        refine E_iinc (y := nI 2) (L2 := [some (.ref 34), some (.ref 2000004), some (.int (nI 2))]) at_X2_lettersAsIn_30 rfl (by decide) rfl ?_
        refine E_goto (t := 2) at_X2_lettersAsIn_33 rfl ?_
        refine E_iload_n at_X2_lettersAsIn_2 rfl ?_
        refine E_aload_n at_X2_lettersAsIn_3 rfl ?_
        refine E_slen (z := nI 4) at_X2_lettersAsIn_4 (by decide) (Nat.le_of_ble_eq_true rfl) (by decide) ?_
        refine E_ic (t := 36) (b := false) at_X2_lettersAsIn_7 rfl (by decide) ?_
        refine E_aload_n at_X2_lettersAsIn_10 rfl ?_
        refine E_aload_n at_X2_lettersAsIn_11 rfl ?_
        refine E_getfield (v := .int (nI a)) at_X2_lettersAsIn_12 w34 rfl (by decide) rfl ?_
        refine E_iload_n at_X2_lettersAsIn_15 rfl ?_
        refine E_iadd (z := nI (a + 2)) at_X2_lettersAsIn_16 (nI_add _ _) ?_
        refine E_aload_n at_X2_lettersAsIn_17 rfl ?_
        refine E_iload_n at_X2_lettersAsIn_18 rfl ?_
        refine E_schr (z := nI 99) at_X2_lettersAsIn_19 (by decide) (Nat.le_of_ble_eq_true rfl) (by decide) (by decide) ?_
        refine E_callV (v := some (.int (nI 0))) (As := [.ref 34, .int (nI (a + 2)), .int (nI 99)]) (r0 := []) (cs2 := (ww im lf s d k ls (-1) (nI n) (nI a) rn rq lt m1 m2 m3 m4 bd fc hd sz el t g fm hm so si sh ce ca td wa kp la bf oo bo pw ow tr)) at_X2_lettersAsIn_22 rfl rfl (Nat.le_of_ble_eq_true rfl) rfl (ab_rvOf w34 rfl) (w_st0 (x := a + 2) (c := 99) (by omega) (by decide) hn l_lt hlt hb2) (by decide) rfl ?_
        refine E_if (t := 30) (b := false) at_X2_lettersAsIn_25 rfl (by decide) ?_
        refine E_iload_n at_X2_lettersAsIn_28 rfl ?_
        exact E_iret at_X2_lettersAsIn_29 rfl
      · rcases bo2 (chB e n (a + 1 + 1 + 1) 107) with hb3 | hb3
        · have q0 : mtc e n [98, 97, 99, 107] (a) = mtc e n [97, 99, 107] (a + 1) + 1 := mtc_t hb0
          have q1 : mtc e n [97, 99, 107] (a + 1) = mtc e n [99, 107] (a + 1 + 1) + 1 := mtc_t hb1
          have q2 : mtc e n [99, 107] (a + 1 + 1) = mtc e n [107] (a + 1 + 1 + 1) + 1 := mtc_t hb2
          have q3 : mtc e n [107] (a + 1 + 1 + 1) = 0 := mtc_f hb3
          have hm0 : mj4 e n a = 3 := by unfold mj4; omega
          rw [hm0]
          refine Ef.in (md := mX2_lettersAsIn) (L := [some (.ref 34), some (.ref 2000004), none]) rfl (Nat.le_of_ble_eq_true rfl) rfl ?_
          refine E_iconst (x := nI 0) at_X2_lettersAsIn_0 (by decide) ?_
          refine E_istore_n (L2 := [some (.ref 34), some (.ref 2000004), some (.int (nI 0))]) at_X2_lettersAsIn_1 rfl ?_
          refine E_iload_n at_X2_lettersAsIn_2 rfl ?_
          refine E_aload_n at_X2_lettersAsIn_3 rfl ?_
          refine E_slen (z := nI 4) at_X2_lettersAsIn_4 (by decide) (Nat.le_of_ble_eq_true rfl) (by decide) ?_
          refine E_ic (t := 36) (b := false) at_X2_lettersAsIn_7 rfl (by decide) ?_
          refine E_aload_n at_X2_lettersAsIn_10 rfl ?_
          refine E_aload_n at_X2_lettersAsIn_11 rfl ?_
          refine E_getfield (v := .int (nI a)) at_X2_lettersAsIn_12 w34 rfl (by decide) rfl ?_
          refine E_iload_n at_X2_lettersAsIn_15 rfl ?_
          refine E_iadd (z := nI (a + 0)) at_X2_lettersAsIn_16 (nI_add _ _) ?_
          refine E_aload_n at_X2_lettersAsIn_17 rfl ?_
          refine E_iload_n at_X2_lettersAsIn_18 rfl ?_
          refine E_schr (z := nI 98) at_X2_lettersAsIn_19 (by decide) (Nat.le_of_ble_eq_true rfl) (by decide) (by decide) ?_
          refine E_callV (v := some (.int (nI 1))) (As := [.ref 34, .int (nI (a + 0)), .int (nI 98)]) (r0 := []) (cs2 := (ww im lf s d k ls (-1) (nI n) (nI a) rn rq lt m1 m2 m3 m4 bd fc hd sz el t g fm hm so si sh ce ca td wa kp la bf oo bo pw ow tr)) at_X2_lettersAsIn_22 rfl rfl (Nat.le_of_ble_eq_true rfl) rfl (ab_rvOf w34 rfl) (w_st1 (x := a + 0) (c := 98) (by omega) (by decide) hn l_lt hlt hb0) (by decide) rfl ?_
          refine E_if (t := 30) (b := true) at_X2_lettersAsIn_25 rfl (by decide) ?_
          refine E_iinc (y := nI 1) (L2 := [some (.ref 34), some (.ref 2000004), some (.int (nI 1))]) at_X2_lettersAsIn_30 rfl (by decide) rfl ?_
          refine E_goto (t := 2) at_X2_lettersAsIn_33 rfl ?_
          refine E_iload_n at_X2_lettersAsIn_2 rfl ?_
          refine E_aload_n at_X2_lettersAsIn_3 rfl ?_
          refine E_slen (z := nI 4) at_X2_lettersAsIn_4 (by decide) (Nat.le_of_ble_eq_true rfl) (by decide) ?_
          refine E_ic (t := 36) (b := false) at_X2_lettersAsIn_7 rfl (by decide) ?_
          refine E_aload_n at_X2_lettersAsIn_10 rfl ?_
          refine E_aload_n at_X2_lettersAsIn_11 rfl ?_
          refine E_getfield (v := .int (nI a)) at_X2_lettersAsIn_12 w34 rfl (by decide) rfl ?_
          refine E_iload_n at_X2_lettersAsIn_15 rfl ?_
          refine E_iadd (z := nI (a + 1)) at_X2_lettersAsIn_16 (nI_add _ _) ?_
          refine E_aload_n at_X2_lettersAsIn_17 rfl ?_
          refine E_iload_n at_X2_lettersAsIn_18 rfl ?_
          refine E_schr (z := nI 97) at_X2_lettersAsIn_19 (by decide) (Nat.le_of_ble_eq_true rfl) (by decide) (by decide) ?_
          refine E_callV (v := some (.int (nI 1))) (As := [.ref 34, .int (nI (a + 1)), .int (nI 97)]) (r0 := []) (cs2 := (ww im lf s d k ls (-1) (nI n) (nI a) rn rq lt m1 m2 m3 m4 bd fc hd sz el t g fm hm so si sh ce ca td wa kp la bf oo bo pw ow tr)) at_X2_lettersAsIn_22 rfl rfl (Nat.le_of_ble_eq_true rfl) rfl (ab_rvOf w34 rfl) (w_st1 (x := a + 1) (c := 97) (by omega) (by decide) hn l_lt hlt hb1) (by decide) rfl ?_
          refine E_if (t := 30) (b := true) at_X2_lettersAsIn_25 rfl (by decide) ?_
          refine E_iinc (y := nI 2) (L2 := [some (.ref 34), some (.ref 2000004), some (.int (nI 2))]) at_X2_lettersAsIn_30 rfl (by decide) rfl ?_
          refine E_goto (t := 2) at_X2_lettersAsIn_33 rfl ?_
          refine E_iload_n at_X2_lettersAsIn_2 rfl ?_
          refine E_aload_n at_X2_lettersAsIn_3 rfl ?_
          refine E_slen (z := nI 4) at_X2_lettersAsIn_4 (by decide) (Nat.le_of_ble_eq_true rfl) (by decide) ?_
          refine E_ic (t := 36) (b := false) at_X2_lettersAsIn_7 rfl (by decide) ?_
          refine E_aload_n at_X2_lettersAsIn_10 rfl ?_
          refine E_aload_n at_X2_lettersAsIn_11 rfl ?_
          refine E_getfield (v := .int (nI a)) at_X2_lettersAsIn_12 w34 rfl (by decide) rfl ?_
          refine E_iload_n at_X2_lettersAsIn_15 rfl ?_
          refine E_iadd (z := nI (a + 2)) at_X2_lettersAsIn_16 (nI_add _ _) ?_
          refine E_aload_n at_X2_lettersAsIn_17 rfl ?_
          refine E_iload_n at_X2_lettersAsIn_18 rfl ?_
          refine E_schr (z := nI 99) at_X2_lettersAsIn_19 (by decide) (Nat.le_of_ble_eq_true rfl) (by decide) (by decide) ?_
          refine E_callV (v := some (.int (nI 1))) (As := [.ref 34, .int (nI (a + 2)), .int (nI 99)]) (r0 := []) (cs2 := (ww im lf s d k ls (-1) (nI n) (nI a) rn rq lt m1 m2 m3 m4 bd fc hd sz el t g fm hm so si sh ce ca td wa kp la bf oo bo pw ow tr)) at_X2_lettersAsIn_22 rfl rfl (Nat.le_of_ble_eq_true rfl) rfl (ab_rvOf w34 rfl) (w_st1 (x := a + 2) (c := 99) (by omega) (by decide) hn l_lt hlt hb2) (by decide) rfl ?_
          refine E_if (t := 30) (b := true) at_X2_lettersAsIn_25 rfl (by decide) ?_
          refine E_iinc (y := nI 3) (L2 := [some (.ref 34), some (.ref 2000004), some (.int (nI 3))]) at_X2_lettersAsIn_30 rfl (by decide) rfl ?_
          refine E_goto (t := 2) at_X2_lettersAsIn_33 rfl ?_
          refine E_iload_n at_X2_lettersAsIn_2 rfl ?_
          refine E_aload_n at_X2_lettersAsIn_3 rfl ?_
          refine E_slen (z := nI 4) at_X2_lettersAsIn_4 (by decide) (Nat.le_of_ble_eq_true rfl) (by decide) ?_
          refine E_ic (t := 36) (b := false) at_X2_lettersAsIn_7 rfl (by decide) ?_
          refine E_aload_n at_X2_lettersAsIn_10 rfl ?_
          refine E_aload_n at_X2_lettersAsIn_11 rfl ?_
          refine E_getfield (v := .int (nI a)) at_X2_lettersAsIn_12 w34 rfl (by decide) rfl ?_
          refine E_iload_n at_X2_lettersAsIn_15 rfl ?_
          refine E_iadd (z := nI (a + 3)) at_X2_lettersAsIn_16 (nI_add _ _) ?_
          refine E_aload_n at_X2_lettersAsIn_17 rfl ?_
          refine E_iload_n at_X2_lettersAsIn_18 rfl ?_
          refine E_schr (z := nI 107) at_X2_lettersAsIn_19 (by decide) (Nat.le_of_ble_eq_true rfl) (by decide) (by decide) ?_
          refine E_callV (v := some (.int (nI 0))) (As := [.ref 34, .int (nI (a + 3)), .int (nI 107)]) (r0 := []) (cs2 := (ww im lf s d k ls (-1) (nI n) (nI a) rn rq lt m1 m2 m3 m4 bd fc hd sz el t g fm hm so si sh ce ca td wa kp la bf oo bo pw ow tr)) at_X2_lettersAsIn_22 rfl rfl (Nat.le_of_ble_eq_true rfl) rfl (ab_rvOf w34 rfl) (w_st0 (x := a + 3) (c := 107) (by omega) (by decide) hn l_lt hlt hb3) (by decide) rfl ?_
          refine E_if (t := 30) (b := false) at_X2_lettersAsIn_25 rfl (by decide) ?_
          refine E_iload_n at_X2_lettersAsIn_28 rfl ?_
          exact E_iret at_X2_lettersAsIn_29 rfl
        · have q0 : mtc e n [98, 97, 99, 107] (a) = mtc e n [97, 99, 107] (a + 1) + 1 := mtc_t hb0
          have q1 : mtc e n [97, 99, 107] (a + 1) = mtc e n [99, 107] (a + 1 + 1) + 1 := mtc_t hb1
          have q2 : mtc e n [99, 107] (a + 1 + 1) = mtc e n [107] (a + 1 + 1 + 1) + 1 := mtc_t hb2
          have q3 : mtc e n [107] (a + 1 + 1 + 1) = mtc e n [] (a + 1 + 1 + 1 + 1) + 1 := mtc_t hb3
          have q4 : mtc e n [] (a + 1 + 1 + 1 + 1) = 0 := rfl
          have hm0 : mj4 e n a = 4 := by unfold mj4; omega
          rw [hm0]
          refine Ef.in (md := mX2_lettersAsIn) (L := [some (.ref 34), some (.ref 2000004), none]) rfl (Nat.le_of_ble_eq_true rfl) rfl ?_
          refine E_iconst (x := nI 0) at_X2_lettersAsIn_0 (by decide) ?_
          refine E_istore_n (L2 := [some (.ref 34), some (.ref 2000004), some (.int (nI 0))]) at_X2_lettersAsIn_1 rfl ?_
          refine E_iload_n at_X2_lettersAsIn_2 rfl ?_
          refine E_aload_n at_X2_lettersAsIn_3 rfl ?_
          refine E_slen (z := nI 4) at_X2_lettersAsIn_4 (by decide) (Nat.le_of_ble_eq_true rfl) (by decide) ?_
          refine E_ic (t := 36) (b := false) at_X2_lettersAsIn_7 rfl (by decide) ?_
          refine E_aload_n at_X2_lettersAsIn_10 rfl ?_
          refine E_aload_n at_X2_lettersAsIn_11 rfl ?_
          refine E_getfield (v := .int (nI a)) at_X2_lettersAsIn_12 w34 rfl (by decide) rfl ?_
          refine E_iload_n at_X2_lettersAsIn_15 rfl ?_
          refine E_iadd (z := nI (a + 0)) at_X2_lettersAsIn_16 (nI_add _ _) ?_
          refine E_aload_n at_X2_lettersAsIn_17 rfl ?_
          refine E_iload_n at_X2_lettersAsIn_18 rfl ?_
          refine E_schr (z := nI 98) at_X2_lettersAsIn_19 (by decide) (Nat.le_of_ble_eq_true rfl) (by decide) (by decide) ?_
          refine E_callV (v := some (.int (nI 1))) (As := [.ref 34, .int (nI (a + 0)), .int (nI 98)]) (r0 := []) (cs2 := (ww im lf s d k ls (-1) (nI n) (nI a) rn rq lt m1 m2 m3 m4 bd fc hd sz el t g fm hm so si sh ce ca td wa kp la bf oo bo pw ow tr)) at_X2_lettersAsIn_22 rfl rfl (Nat.le_of_ble_eq_true rfl) rfl (ab_rvOf w34 rfl) (w_st1 (x := a + 0) (c := 98) (by omega) (by decide) hn l_lt hlt hb0) (by decide) rfl ?_
          refine E_if (t := 30) (b := true) at_X2_lettersAsIn_25 rfl (by decide) ?_
          refine E_iinc (y := nI 1) (L2 := [some (.ref 34), some (.ref 2000004), some (.int (nI 1))]) at_X2_lettersAsIn_30 rfl (by decide) rfl ?_
          refine E_goto (t := 2) at_X2_lettersAsIn_33 rfl ?_
          refine E_iload_n at_X2_lettersAsIn_2 rfl ?_
          refine E_aload_n at_X2_lettersAsIn_3 rfl ?_
          refine E_slen (z := nI 4) at_X2_lettersAsIn_4 (by decide) (Nat.le_of_ble_eq_true rfl) (by decide) ?_
          refine E_ic (t := 36) (b := false) at_X2_lettersAsIn_7 rfl (by decide) ?_
          refine E_aload_n at_X2_lettersAsIn_10 rfl ?_
          refine E_aload_n at_X2_lettersAsIn_11 rfl ?_
          refine E_getfield (v := .int (nI a)) at_X2_lettersAsIn_12 w34 rfl (by decide) rfl ?_
          refine E_iload_n at_X2_lettersAsIn_15 rfl ?_
          refine E_iadd (z := nI (a + 1)) at_X2_lettersAsIn_16 (nI_add _ _) ?_
          refine E_aload_n at_X2_lettersAsIn_17 rfl ?_
          refine E_iload_n at_X2_lettersAsIn_18 rfl ?_
          refine E_schr (z := nI 97) at_X2_lettersAsIn_19 (by decide) (Nat.le_of_ble_eq_true rfl) (by decide) (by decide) ?_
          refine E_callV (v := some (.int (nI 1))) (As := [.ref 34, .int (nI (a + 1)), .int (nI 97)]) (r0 := []) (cs2 := (ww im lf s d k ls (-1) (nI n) (nI a) rn rq lt m1 m2 m3 m4 bd fc hd sz el t g fm hm so si sh ce ca td wa kp la bf oo bo pw ow tr)) at_X2_lettersAsIn_22 rfl rfl (Nat.le_of_ble_eq_true rfl) rfl (ab_rvOf w34 rfl) (w_st1 (x := a + 1) (c := 97) (by omega) (by decide) hn l_lt hlt hb1) (by decide) rfl ?_
          refine E_if (t := 30) (b := true) at_X2_lettersAsIn_25 rfl (by decide) ?_
          refine E_iinc (y := nI 2) (L2 := [some (.ref 34), some (.ref 2000004), some (.int (nI 2))]) at_X2_lettersAsIn_30 rfl (by decide) rfl ?_
          refine E_goto (t := 2) at_X2_lettersAsIn_33 rfl ?_
          refine E_iload_n at_X2_lettersAsIn_2 rfl ?_
          refine E_aload_n at_X2_lettersAsIn_3 rfl ?_
          refine E_slen (z := nI 4) at_X2_lettersAsIn_4 (by decide) (Nat.le_of_ble_eq_true rfl) (by decide) ?_
          refine E_ic (t := 36) (b := false) at_X2_lettersAsIn_7 rfl (by decide) ?_
          refine E_aload_n at_X2_lettersAsIn_10 rfl ?_
          refine E_aload_n at_X2_lettersAsIn_11 rfl ?_
          refine E_getfield (v := .int (nI a)) at_X2_lettersAsIn_12 w34 rfl (by decide) rfl ?_
          refine E_iload_n at_X2_lettersAsIn_15 rfl ?_
          refine E_iadd (z := nI (a + 2)) at_X2_lettersAsIn_16 (nI_add _ _) ?_
          refine E_aload_n at_X2_lettersAsIn_17 rfl ?_
          refine E_iload_n at_X2_lettersAsIn_18 rfl ?_
          refine E_schr (z := nI 99) at_X2_lettersAsIn_19 (by decide) (Nat.le_of_ble_eq_true rfl) (by decide) (by decide) ?_
          refine E_callV (v := some (.int (nI 1))) (As := [.ref 34, .int (nI (a + 2)), .int (nI 99)]) (r0 := []) (cs2 := (ww im lf s d k ls (-1) (nI n) (nI a) rn rq lt m1 m2 m3 m4 bd fc hd sz el t g fm hm so si sh ce ca td wa kp la bf oo bo pw ow tr)) at_X2_lettersAsIn_22 rfl rfl (Nat.le_of_ble_eq_true rfl) rfl (ab_rvOf w34 rfl) (w_st1 (x := a + 2) (c := 99) (by omega) (by decide) hn l_lt hlt hb2) (by decide) rfl ?_
          refine E_if (t := 30) (b := true) at_X2_lettersAsIn_25 rfl (by decide) ?_
          refine E_iinc (y := nI 3) (L2 := [some (.ref 34), some (.ref 2000004), some (.int (nI 3))]) at_X2_lettersAsIn_30 rfl (by decide) rfl ?_
          refine E_goto (t := 2) at_X2_lettersAsIn_33 rfl ?_
          refine E_iload_n at_X2_lettersAsIn_2 rfl ?_
          refine E_aload_n at_X2_lettersAsIn_3 rfl ?_
          refine E_slen (z := nI 4) at_X2_lettersAsIn_4 (by decide) (Nat.le_of_ble_eq_true rfl) (by decide) ?_
          refine E_ic (t := 36) (b := false) at_X2_lettersAsIn_7 rfl (by decide) ?_
          refine E_aload_n at_X2_lettersAsIn_10 rfl ?_
          refine E_aload_n at_X2_lettersAsIn_11 rfl ?_
          refine E_getfield (v := .int (nI a)) at_X2_lettersAsIn_12 w34 rfl (by decide) rfl ?_
          refine E_iload_n at_X2_lettersAsIn_15 rfl ?_
          refine E_iadd (z := nI (a + 3)) at_X2_lettersAsIn_16 (nI_add _ _) ?_
          refine E_aload_n at_X2_lettersAsIn_17 rfl ?_
          refine E_iload_n at_X2_lettersAsIn_18 rfl ?_
          refine E_schr (z := nI 107) at_X2_lettersAsIn_19 (by decide) (Nat.le_of_ble_eq_true rfl) (by decide) (by decide) ?_
          refine E_callV (v := some (.int (nI 1))) (As := [.ref 34, .int (nI (a + 3)), .int (nI 107)]) (r0 := []) (cs2 := (ww im lf s d k ls (-1) (nI n) (nI a) rn rq lt m1 m2 m3 m4 bd fc hd sz el t g fm hm so si sh ce ca td wa kp la bf oo bo pw ow tr)) at_X2_lettersAsIn_22 rfl rfl (Nat.le_of_ble_eq_true rfl) rfl (ab_rvOf w34 rfl) (w_st1 (x := a + 3) (c := 107) (by omega) (by decide) hn l_lt hlt hb3) (by decide) rfl ?_
          refine E_if (t := 30) (b := true) at_X2_lettersAsIn_25 rfl (by decide) ?_
          refine E_iinc (y := nI 4) (L2 := [some (.ref 34), some (.ref 2000004), some (.int (nI 4))]) at_X2_lettersAsIn_30 rfl (by decide) rfl ?_
          refine E_goto (t := 2) at_X2_lettersAsIn_33 rfl ?_
          refine E_iload_n at_X2_lettersAsIn_2 rfl ?_
          refine E_aload_n at_X2_lettersAsIn_3 rfl ?_
          refine E_slen (z := nI 4) at_X2_lettersAsIn_4 (by decide) (Nat.le_of_ble_eq_true rfl) (by decide) ?_
          refine E_ic (t := 36) (b := true) at_X2_lettersAsIn_7 rfl (by decide) ?_
          refine E_aload_n at_X2_lettersAsIn_36 rfl ?_
          refine E_slen (z := nI 4) at_X2_lettersAsIn_37 (by decide) (Nat.le_of_ble_eq_true rfl) (by decide) ?_
          exact E_iret at_X2_lettersAsIn_40 rfl
set_option maxHeartbeats 400000 in
theorem w_li5 {e : List Int64} {n a : Nat} (hn : n ≤ 160) (ha : a ≤ n) (l_lt : lt.length = 160) (hlt : ∀ i, i < n → lt.getD i 0 = tw e i) : Ev ab_Z0 2 23 [.ref 34, .ref 2000005] (ww im lf s d k ls (-1) (nI n) (nI a) rn rq lt m1 m2 m3 m4 bd fc hd sz el t g fm hm so si sh ce ca td wa kp la bf oo bo pw ow tr) (some (.int (nI (mj5 e n a))), (ww im lf s d k ls (-1) (nI n) (nI a) rn rq lt m1 m2 m3 m4 bd fc hd sz el t g fm hm so si sh ce ca td wa kp la bf oo bo pw ow tr)) := by
  rcases bo2 (chB e n (a) 103) with hb0 | hb0
  · have q0 : mtc e n [103, 114, 101, 101, 100, 121] (a) = 0 := mtc_f hb0
    have hm0 : mj5 e n a = 0 := by unfold mj5; omega
    rw [hm0]
    refine Ef.in (md := mX2_lettersAsIn) (L := [some (.ref 34), some (.ref 2000005), none]) rfl (Nat.le_of_ble_eq_true rfl) rfl ?_
    refine E_iconst (x := nI 0) at_X2_lettersAsIn_0 (by decide) ?_
    refine E_istore_n (L2 := [some (.ref 34), some (.ref 2000005), some (.int (nI 0))]) at_X2_lettersAsIn_1 rfl ?_
    refine E_iload_n at_X2_lettersAsIn_2 rfl ?_
    refine E_aload_n at_X2_lettersAsIn_3 rfl ?_
    refine E_slen (z := nI 6) at_X2_lettersAsIn_4 (by decide) (Nat.le_of_ble_eq_true rfl) (by decide) ?_
    refine E_ic (t := 36) (b := false) at_X2_lettersAsIn_7 rfl (by decide) ?_
    refine E_aload_n at_X2_lettersAsIn_10 rfl ?_
    refine E_aload_n at_X2_lettersAsIn_11 rfl ?_
    refine E_getfield (v := .int (nI a)) at_X2_lettersAsIn_12 w34 rfl (by decide) rfl ?_
    refine E_iload_n at_X2_lettersAsIn_15 rfl ?_
    refine E_iadd (z := nI (a + 0)) at_X2_lettersAsIn_16 (nI_add _ _) ?_
    refine E_aload_n at_X2_lettersAsIn_17 rfl ?_
    refine E_iload_n at_X2_lettersAsIn_18 rfl ?_
    refine E_schr (z := nI 103) at_X2_lettersAsIn_19 (by decide) (Nat.le_of_ble_eq_true rfl) (by decide) (by decide) ?_
    refine E_callV (v := some (.int (nI 0))) (As := [.ref 34, .int (nI (a + 0)), .int (nI 103)]) (r0 := []) (cs2 := (ww im lf s d k ls (-1) (nI n) (nI a) rn rq lt m1 m2 m3 m4 bd fc hd sz el t g fm hm so si sh ce ca td wa kp la bf oo bo pw ow tr)) at_X2_lettersAsIn_22 rfl rfl (Nat.le_of_ble_eq_true rfl) rfl (ab_rvOf w34 rfl) (w_st0 (x := a + 0) (c := 103) (by omega) (by decide) hn l_lt hlt hb0) (by decide) rfl ?_
    refine E_if (t := 30) (b := false) at_X2_lettersAsIn_25 rfl (by decide) ?_
    refine E_iload_n at_X2_lettersAsIn_28 rfl ?_
    exact E_iret at_X2_lettersAsIn_29 rfl
  · rcases bo2 (chB e n (a + 1) 114) with hb1 | hb1
    · have q0 : mtc e n [103, 114, 101, 101, 100, 121] (a) = mtc e n [114, 101, 101, 100, 121] (a + 1) + 1 := mtc_t hb0
      have q1 : mtc e n [114, 101, 101, 100, 121] (a + 1) = 0 := mtc_f hb1
      have hm0 : mj5 e n a = 1 := by unfold mj5; omega
      rw [hm0]
      refine Ef.in (md := mX2_lettersAsIn) (L := [some (.ref 34), some (.ref 2000005), none]) rfl (Nat.le_of_ble_eq_true rfl) rfl ?_
      refine E_iconst (x := nI 0) at_X2_lettersAsIn_0 (by decide) ?_
      refine E_istore_n (L2 := [some (.ref 34), some (.ref 2000005), some (.int (nI 0))]) at_X2_lettersAsIn_1 rfl ?_
      refine E_iload_n at_X2_lettersAsIn_2 rfl ?_
      refine E_aload_n at_X2_lettersAsIn_3 rfl ?_
      refine E_slen (z := nI 6) at_X2_lettersAsIn_4 (by decide) (Nat.le_of_ble_eq_true rfl) (by decide) ?_
      refine E_ic (t := 36) (b := false) at_X2_lettersAsIn_7 rfl (by decide) ?_
      refine E_aload_n at_X2_lettersAsIn_10 rfl ?_
      refine E_aload_n at_X2_lettersAsIn_11 rfl ?_
      refine E_getfield (v := .int (nI a)) at_X2_lettersAsIn_12 w34 rfl (by decide) rfl ?_
      refine E_iload_n at_X2_lettersAsIn_15 rfl ?_
      refine E_iadd (z := nI (a + 0)) at_X2_lettersAsIn_16 (nI_add _ _) ?_
      refine E_aload_n at_X2_lettersAsIn_17 rfl ?_
      refine E_iload_n at_X2_lettersAsIn_18 rfl ?_
      refine E_schr (z := nI 103) at_X2_lettersAsIn_19 (by decide) (Nat.le_of_ble_eq_true rfl) (by decide) (by decide) ?_
      refine E_callV (v := some (.int (nI 1))) (As := [.ref 34, .int (nI (a + 0)), .int (nI 103)]) (r0 := []) (cs2 := (ww im lf s d k ls (-1) (nI n) (nI a) rn rq lt m1 m2 m3 m4 bd fc hd sz el t g fm hm so si sh ce ca td wa kp la bf oo bo pw ow tr)) at_X2_lettersAsIn_22 rfl rfl (Nat.le_of_ble_eq_true rfl) rfl (ab_rvOf w34 rfl) (w_st1 (x := a + 0) (c := 103) (by omega) (by decide) hn l_lt hlt hb0) (by decide) rfl ?_
      refine E_if (t := 30) (b := true) at_X2_lettersAsIn_25 rfl (by decide) ?_
      refine E_iinc (y := nI 1) (L2 := [some (.ref 34), some (.ref 2000005), some (.int (nI 1))]) at_X2_lettersAsIn_30 rfl (by decide) rfl ?_
      refine E_goto (t := 2) at_X2_lettersAsIn_33 rfl ?_
      refine E_iload_n at_X2_lettersAsIn_2 rfl ?_
      refine E_aload_n at_X2_lettersAsIn_3 rfl ?_
      refine E_slen (z := nI 6) at_X2_lettersAsIn_4 (by decide) (Nat.le_of_ble_eq_true rfl) (by decide) ?_
      refine E_ic (t := 36) (b := false) at_X2_lettersAsIn_7 rfl (by decide) ?_
      refine E_aload_n at_X2_lettersAsIn_10 rfl ?_
      refine E_aload_n at_X2_lettersAsIn_11 rfl ?_
      refine E_getfield (v := .int (nI a)) at_X2_lettersAsIn_12 w34 rfl (by decide) rfl ?_
      refine E_iload_n at_X2_lettersAsIn_15 rfl ?_
      refine E_iadd (z := nI (a + 1)) at_X2_lettersAsIn_16 (nI_add _ _) ?_
      refine E_aload_n at_X2_lettersAsIn_17 rfl ?_
      refine E_iload_n at_X2_lettersAsIn_18 rfl ?_
      refine E_schr (z := nI 114) at_X2_lettersAsIn_19 (by decide) (Nat.le_of_ble_eq_true rfl) (by decide) (by decide) ?_
      refine E_callV (v := some (.int (nI 0))) (As := [.ref 34, .int (nI (a + 1)), .int (nI 114)]) (r0 := []) (cs2 := (ww im lf s d k ls (-1) (nI n) (nI a) rn rq lt m1 m2 m3 m4 bd fc hd sz el t g fm hm so si sh ce ca td wa kp la bf oo bo pw ow tr)) at_X2_lettersAsIn_22 rfl rfl (Nat.le_of_ble_eq_true rfl) rfl (ab_rvOf w34 rfl) (w_st0 (x := a + 1) (c := 114) (by omega) (by decide) hn l_lt hlt hb1) (by decide) rfl ?_
      refine E_if (t := 30) (b := false) at_X2_lettersAsIn_25 rfl (by decide) ?_
      refine E_iload_n at_X2_lettersAsIn_28 rfl ?_
      exact E_iret at_X2_lettersAsIn_29 rfl
    · rcases bo2 (chB e n (a + 1 + 1) 101) with hb2 | hb2
      · have q0 : mtc e n [103, 114, 101, 101, 100, 121] (a) = mtc e n [114, 101, 101, 100, 121] (a + 1) + 1 := mtc_t hb0
        have q1 : mtc e n [114, 101, 101, 100, 121] (a + 1) = mtc e n [101, 101, 100, 121] (a + 1 + 1) + 1 := mtc_t hb1
        have q2 : mtc e n [101, 101, 100, 121] (a + 1 + 1) = 0 := mtc_f hb2
        have hm0 : mj5 e n a = 2 := by unfold mj5; omega
        rw [hm0]
        refine Ef.in (md := mX2_lettersAsIn) (L := [some (.ref 34), some (.ref 2000005), none]) rfl (Nat.le_of_ble_eq_true rfl) rfl ?_
        refine E_iconst (x := nI 0) at_X2_lettersAsIn_0 (by decide) ?_
        refine E_istore_n (L2 := [some (.ref 34), some (.ref 2000005), some (.int (nI 0))]) at_X2_lettersAsIn_1 rfl ?_
        refine E_iload_n at_X2_lettersAsIn_2 rfl ?_
        refine E_aload_n at_X2_lettersAsIn_3 rfl ?_
        refine E_slen (z := nI 6) at_X2_lettersAsIn_4 (by decide) (Nat.le_of_ble_eq_true rfl) (by decide) ?_
        refine E_ic (t := 36) (b := false) at_X2_lettersAsIn_7 rfl (by decide) ?_
        refine E_aload_n at_X2_lettersAsIn_10 rfl ?_
        refine E_aload_n at_X2_lettersAsIn_11 rfl ?_
        refine E_getfield (v := .int (nI a)) at_X2_lettersAsIn_12 w34 rfl (by decide) rfl ?_
        refine E_iload_n at_X2_lettersAsIn_15 rfl ?_
        refine E_iadd (z := nI (a + 0)) at_X2_lettersAsIn_16 (nI_add _ _) ?_
        refine E_aload_n at_X2_lettersAsIn_17 rfl ?_
        refine E_iload_n at_X2_lettersAsIn_18 rfl ?_
        refine E_schr (z := nI 103) at_X2_lettersAsIn_19 (by decide) (Nat.le_of_ble_eq_true rfl) (by decide) (by decide) ?_
        refine E_callV (v := some (.int (nI 1))) (As := [.ref 34, .int (nI (a + 0)), .int (nI 103)]) (r0 := []) (cs2 := (ww im lf s d k ls (-1) (nI n) (nI a) rn rq lt m1 m2 m3 m4 bd fc hd sz el t g fm hm so si sh ce ca td wa kp la bf oo bo pw ow tr)) at_X2_lettersAsIn_22 rfl rfl (Nat.le_of_ble_eq_true rfl) rfl (ab_rvOf w34 rfl) (w_st1 (x := a + 0) (c := 103) (by omega) (by decide) hn l_lt hlt hb0) (by decide) rfl ?_
        refine E_if (t := 30) (b := true) at_X2_lettersAsIn_25 rfl (by decide) ?_
        refine E_iinc (y := nI 1) (L2 := [some (.ref 34), some (.ref 2000005), some (.int (nI 1))]) at_X2_lettersAsIn_30 rfl (by decide) rfl ?_
        refine E_goto (t := 2) at_X2_lettersAsIn_33 rfl ?_
        refine E_iload_n at_X2_lettersAsIn_2 rfl ?_
        refine E_aload_n at_X2_lettersAsIn_3 rfl ?_
        refine E_slen (z := nI 6) at_X2_lettersAsIn_4 (by decide) (Nat.le_of_ble_eq_true rfl) (by decide) ?_
        refine E_ic (t := 36) (b := false) at_X2_lettersAsIn_7 rfl (by decide) ?_
        refine E_aload_n at_X2_lettersAsIn_10 rfl ?_
        refine E_aload_n at_X2_lettersAsIn_11 rfl ?_
        refine E_getfield (v := .int (nI a)) at_X2_lettersAsIn_12 w34 rfl (by decide) rfl ?_
        refine E_iload_n at_X2_lettersAsIn_15 rfl ?_
        refine E_iadd (z := nI (a + 1)) at_X2_lettersAsIn_16 (nI_add _ _) ?_
        refine E_aload_n at_X2_lettersAsIn_17 rfl ?_
        refine E_iload_n at_X2_lettersAsIn_18 rfl ?_
        refine E_schr (z := nI 114) at_X2_lettersAsIn_19 (by decide) (Nat.le_of_ble_eq_true rfl) (by decide) (by decide) ?_
        refine E_callV (v := some (.int (nI 1))) (As := [.ref 34, .int (nI (a + 1)), .int (nI 114)]) (r0 := []) (cs2 := (ww im lf s d k ls (-1) (nI n) (nI a) rn rq lt m1 m2 m3 m4 bd fc hd sz el t g fm hm so si sh ce ca td wa kp la bf oo bo pw ow tr)) at_X2_lettersAsIn_22 rfl rfl (Nat.le_of_ble_eq_true rfl) rfl (ab_rvOf w34 rfl) (w_st1 (x := a + 1) (c := 114) (by omega) (by decide) hn l_lt hlt hb1) (by decide) rfl ?_
        refine E_if (t := 30) (b := true) at_X2_lettersAsIn_25 rfl (by decide) ?_
        refine E_iinc (y := nI 2) (L2 := [some (.ref 34), some (.ref 2000005), some (.int (nI 2))]) at_X2_lettersAsIn_30 rfl (by decide) rfl ?_
        refine E_goto (t := 2) at_X2_lettersAsIn_33 rfl ?_
        refine E_iload_n at_X2_lettersAsIn_2 rfl ?_
        refine E_aload_n at_X2_lettersAsIn_3 rfl ?_
        refine E_slen (z := nI 6) at_X2_lettersAsIn_4 (by decide) (Nat.le_of_ble_eq_true rfl) (by decide) ?_
        refine E_ic (t := 36) (b := false) at_X2_lettersAsIn_7 rfl (by decide) ?_
        refine E_aload_n at_X2_lettersAsIn_10 rfl ?_
        refine E_aload_n at_X2_lettersAsIn_11 rfl ?_
        refine E_getfield (v := .int (nI a)) at_X2_lettersAsIn_12 w34 rfl (by decide) rfl ?_
        refine E_iload_n at_X2_lettersAsIn_15 rfl ?_
        refine E_iadd (z := nI (a + 2)) at_X2_lettersAsIn_16 (nI_add _ _) ?_
        refine E_aload_n at_X2_lettersAsIn_17 rfl ?_
        refine E_iload_n at_X2_lettersAsIn_18 rfl ?_
        refine E_schr (z := nI 101) at_X2_lettersAsIn_19 (by decide) (Nat.le_of_ble_eq_true rfl) (by decide) (by decide) ?_
        refine E_callV (v := some (.int (nI 0))) (As := [.ref 34, .int (nI (a + 2)), .int (nI 101)]) (r0 := []) (cs2 := (ww im lf s d k ls (-1) (nI n) (nI a) rn rq lt m1 m2 m3 m4 bd fc hd sz el t g fm hm so si sh ce ca td wa kp la bf oo bo pw ow tr)) at_X2_lettersAsIn_22 rfl rfl (Nat.le_of_ble_eq_true rfl) rfl (ab_rvOf w34 rfl) (w_st0 (x := a + 2) (c := 101) (by omega) (by decide) hn l_lt hlt hb2) (by decide) rfl ?_
        refine E_if (t := 30) (b := false) at_X2_lettersAsIn_25 rfl (by decide) ?_
        refine E_iload_n at_X2_lettersAsIn_28 rfl ?_
        exact E_iret at_X2_lettersAsIn_29 rfl
      · rcases bo2 (chB e n (a + 1 + 1 + 1) 101) with hb3 | hb3
        · have q0 : mtc e n [103, 114, 101, 101, 100, 121] (a) = mtc e n [114, 101, 101, 100, 121] (a + 1) + 1 := mtc_t hb0
          have q1 : mtc e n [114, 101, 101, 100, 121] (a + 1) = mtc e n [101, 101, 100, 121] (a + 1 + 1) + 1 := mtc_t hb1
          have q2 : mtc e n [101, 101, 100, 121] (a + 1 + 1) = mtc e n [101, 100, 121] (a + 1 + 1 + 1) + 1 := mtc_t hb2
          have q3 : mtc e n [101, 100, 121] (a + 1 + 1 + 1) = 0 := mtc_f hb3
          have hm0 : mj5 e n a = 3 := by unfold mj5; omega
          rw [hm0]
          refine Ef.in (md := mX2_lettersAsIn) (L := [some (.ref 34), some (.ref 2000005), none]) rfl (Nat.le_of_ble_eq_true rfl) rfl ?_
          refine E_iconst (x := nI 0) at_X2_lettersAsIn_0 (by decide) ?_
          refine E_istore_n (L2 := [some (.ref 34), some (.ref 2000005), some (.int (nI 0))]) at_X2_lettersAsIn_1 rfl ?_
          refine E_iload_n at_X2_lettersAsIn_2 rfl ?_
          refine E_aload_n at_X2_lettersAsIn_3 rfl ?_
          refine E_slen (z := nI 6) at_X2_lettersAsIn_4 (by decide) (Nat.le_of_ble_eq_true rfl) (by decide) ?_
          refine E_ic (t := 36) (b := false) at_X2_lettersAsIn_7 rfl (by decide) ?_
          refine E_aload_n at_X2_lettersAsIn_10 rfl ?_
          refine E_aload_n at_X2_lettersAsIn_11 rfl ?_
          refine E_getfield (v := .int (nI a)) at_X2_lettersAsIn_12 w34 rfl (by decide) rfl ?_
          refine E_iload_n at_X2_lettersAsIn_15 rfl ?_
          refine E_iadd (z := nI (a + 0)) at_X2_lettersAsIn_16 (nI_add _ _) ?_
          refine E_aload_n at_X2_lettersAsIn_17 rfl ?_
          refine E_iload_n at_X2_lettersAsIn_18 rfl ?_
          refine E_schr (z := nI 103) at_X2_lettersAsIn_19 (by decide) (Nat.le_of_ble_eq_true rfl) (by decide) (by decide) ?_
          refine E_callV (v := some (.int (nI 1))) (As := [.ref 34, .int (nI (a + 0)), .int (nI 103)]) (r0 := []) (cs2 := (ww im lf s d k ls (-1) (nI n) (nI a) rn rq lt m1 m2 m3 m4 bd fc hd sz el t g fm hm so si sh ce ca td wa kp la bf oo bo pw ow tr)) at_X2_lettersAsIn_22 rfl rfl (Nat.le_of_ble_eq_true rfl) rfl (ab_rvOf w34 rfl) (w_st1 (x := a + 0) (c := 103) (by omega) (by decide) hn l_lt hlt hb0) (by decide) rfl ?_
          refine E_if (t := 30) (b := true) at_X2_lettersAsIn_25 rfl (by decide) ?_
          refine E_iinc (y := nI 1) (L2 := [some (.ref 34), some (.ref 2000005), some (.int (nI 1))]) at_X2_lettersAsIn_30 rfl (by decide) rfl ?_
          refine E_goto (t := 2) at_X2_lettersAsIn_33 rfl ?_
          refine E_iload_n at_X2_lettersAsIn_2 rfl ?_
          refine E_aload_n at_X2_lettersAsIn_3 rfl ?_
          refine E_slen (z := nI 6) at_X2_lettersAsIn_4 (by decide) (Nat.le_of_ble_eq_true rfl) (by decide) ?_
          refine E_ic (t := 36) (b := false) at_X2_lettersAsIn_7 rfl (by decide) ?_
          refine E_aload_n at_X2_lettersAsIn_10 rfl ?_
          refine E_aload_n at_X2_lettersAsIn_11 rfl ?_
          refine E_getfield (v := .int (nI a)) at_X2_lettersAsIn_12 w34 rfl (by decide) rfl ?_
          refine E_iload_n at_X2_lettersAsIn_15 rfl ?_
          refine E_iadd (z := nI (a + 1)) at_X2_lettersAsIn_16 (nI_add _ _) ?_
          refine E_aload_n at_X2_lettersAsIn_17 rfl ?_
          refine E_iload_n at_X2_lettersAsIn_18 rfl ?_
          refine E_schr (z := nI 114) at_X2_lettersAsIn_19 (by decide) (Nat.le_of_ble_eq_true rfl) (by decide) (by decide) ?_
          refine E_callV (v := some (.int (nI 1))) (As := [.ref 34, .int (nI (a + 1)), .int (nI 114)]) (r0 := []) (cs2 := (ww im lf s d k ls (-1) (nI n) (nI a) rn rq lt m1 m2 m3 m4 bd fc hd sz el t g fm hm so si sh ce ca td wa kp la bf oo bo pw ow tr)) at_X2_lettersAsIn_22 rfl rfl (Nat.le_of_ble_eq_true rfl) rfl (ab_rvOf w34 rfl) (w_st1 (x := a + 1) (c := 114) (by omega) (by decide) hn l_lt hlt hb1) (by decide) rfl ?_
          refine E_if (t := 30) (b := true) at_X2_lettersAsIn_25 rfl (by decide) ?_
          refine E_iinc (y := nI 2) (L2 := [some (.ref 34), some (.ref 2000005), some (.int (nI 2))]) at_X2_lettersAsIn_30 rfl (by decide) rfl ?_
          refine E_goto (t := 2) at_X2_lettersAsIn_33 rfl ?_
          refine E_iload_n at_X2_lettersAsIn_2 rfl ?_
          refine E_aload_n at_X2_lettersAsIn_3 rfl ?_
          refine E_slen (z := nI 6) at_X2_lettersAsIn_4 (by decide) (Nat.le_of_ble_eq_true rfl) (by decide) ?_
          refine E_ic (t := 36) (b := false) at_X2_lettersAsIn_7 rfl (by decide) ?_
          refine E_aload_n at_X2_lettersAsIn_10 rfl ?_
          refine E_aload_n at_X2_lettersAsIn_11 rfl ?_
          refine E_getfield (v := .int (nI a)) at_X2_lettersAsIn_12 w34 rfl (by decide) rfl ?_
          refine E_iload_n at_X2_lettersAsIn_15 rfl ?_
          refine E_iadd (z := nI (a + 2)) at_X2_lettersAsIn_16 (nI_add _ _) ?_
          refine E_aload_n at_X2_lettersAsIn_17 rfl ?_
          refine E_iload_n at_X2_lettersAsIn_18 rfl ?_
          refine E_schr (z := nI 101) at_X2_lettersAsIn_19 (by decide) (Nat.le_of_ble_eq_true rfl) (by decide) (by decide) ?_
          refine E_callV (v := some (.int (nI 1))) (As := [.ref 34, .int (nI (a + 2)), .int (nI 101)]) (r0 := []) (cs2 := (ww im lf s d k ls (-1) (nI n) (nI a) rn rq lt m1 m2 m3 m4 bd fc hd sz el t g fm hm so si sh ce ca td wa kp la bf oo bo pw ow tr)) at_X2_lettersAsIn_22 rfl rfl (Nat.le_of_ble_eq_true rfl) rfl (ab_rvOf w34 rfl) (w_st1 (x := a + 2) (c := 101) (by omega) (by decide) hn l_lt hlt hb2) (by decide) rfl ?_
          refine E_if (t := 30) (b := true) at_X2_lettersAsIn_25 rfl (by decide) ?_
          refine E_iinc (y := nI 3) (L2 := [some (.ref 34), some (.ref 2000005), some (.int (nI 3))]) at_X2_lettersAsIn_30 rfl (by decide) rfl ?_
          refine E_goto (t := 2) at_X2_lettersAsIn_33 rfl ?_
          refine E_iload_n at_X2_lettersAsIn_2 rfl ?_
          refine E_aload_n at_X2_lettersAsIn_3 rfl ?_
          refine E_slen (z := nI 6) at_X2_lettersAsIn_4 (by decide) (Nat.le_of_ble_eq_true rfl) (by decide) ?_
          refine E_ic (t := 36) (b := false) at_X2_lettersAsIn_7 rfl (by decide) ?_
          refine E_aload_n at_X2_lettersAsIn_10 rfl ?_
          refine E_aload_n at_X2_lettersAsIn_11 rfl ?_
          refine E_getfield (v := .int (nI a)) at_X2_lettersAsIn_12 w34 rfl (by decide) rfl ?_
          refine E_iload_n at_X2_lettersAsIn_15 rfl ?_
          refine E_iadd (z := nI (a + 3)) at_X2_lettersAsIn_16 (nI_add _ _) ?_
          refine E_aload_n at_X2_lettersAsIn_17 rfl ?_
          refine E_iload_n at_X2_lettersAsIn_18 rfl ?_
          refine E_schr (z := nI 101) at_X2_lettersAsIn_19 (by decide) (Nat.le_of_ble_eq_true rfl) (by decide) (by decide) ?_
          refine E_callV (v := some (.int (nI 0))) (As := [.ref 34, .int (nI (a + 3)), .int (nI 101)]) (r0 := []) (cs2 := (ww im lf s d k ls (-1) (nI n) (nI a) rn rq lt m1 m2 m3 m4 bd fc hd sz el t g fm hm so si sh ce ca td wa kp la bf oo bo pw ow tr)) at_X2_lettersAsIn_22 rfl rfl (Nat.le_of_ble_eq_true rfl) rfl (ab_rvOf w34 rfl) (w_st0 (x := a + 3) (c := 101) (by omega) (by decide) hn l_lt hlt hb3) (by decide) rfl ?_
          refine E_if (t := 30) (b := false) at_X2_lettersAsIn_25 rfl (by decide) ?_
          refine E_iload_n at_X2_lettersAsIn_28 rfl ?_
          exact E_iret at_X2_lettersAsIn_29 rfl
        · rcases bo2 (chB e n (a + 1 + 1 + 1 + 1) 100) with hb4 | hb4
          · have q0 : mtc e n [103, 114, 101, 101, 100, 121] (a) = mtc e n [114, 101, 101, 100, 121] (a + 1) + 1 := mtc_t hb0
            have q1 : mtc e n [114, 101, 101, 100, 121] (a + 1) = mtc e n [101, 101, 100, 121] (a + 1 + 1) + 1 := mtc_t hb1
            have q2 : mtc e n [101, 101, 100, 121] (a + 1 + 1) = mtc e n [101, 100, 121] (a + 1 + 1 + 1) + 1 := mtc_t hb2
            have q3 : mtc e n [101, 100, 121] (a + 1 + 1 + 1) = mtc e n [100, 121] (a + 1 + 1 + 1 + 1) + 1 := mtc_t hb3
            have q4 : mtc e n [100, 121] (a + 1 + 1 + 1 + 1) = 0 := mtc_f hb4
            have hm0 : mj5 e n a = 4 := by unfold mj5; omega
            rw [hm0]
            refine Ef.in (md := mX2_lettersAsIn) (L := [some (.ref 34), some (.ref 2000005), none]) rfl (Nat.le_of_ble_eq_true rfl) rfl ?_
            refine E_iconst (x := nI 0) at_X2_lettersAsIn_0 (by decide) ?_
            refine E_istore_n (L2 := [some (.ref 34), some (.ref 2000005), some (.int (nI 0))]) at_X2_lettersAsIn_1 rfl ?_
            refine E_iload_n at_X2_lettersAsIn_2 rfl ?_
            refine E_aload_n at_X2_lettersAsIn_3 rfl ?_
            refine E_slen (z := nI 6) at_X2_lettersAsIn_4 (by decide) (Nat.le_of_ble_eq_true rfl) (by decide) ?_
            refine E_ic (t := 36) (b := false) at_X2_lettersAsIn_7 rfl (by decide) ?_
            refine E_aload_n at_X2_lettersAsIn_10 rfl ?_
            refine E_aload_n at_X2_lettersAsIn_11 rfl ?_
            refine E_getfield (v := .int (nI a)) at_X2_lettersAsIn_12 w34 rfl (by decide) rfl ?_
            refine E_iload_n at_X2_lettersAsIn_15 rfl ?_
            refine E_iadd (z := nI (a + 0)) at_X2_lettersAsIn_16 (nI_add _ _) ?_
            refine E_aload_n at_X2_lettersAsIn_17 rfl ?_
            refine E_iload_n at_X2_lettersAsIn_18 rfl ?_
            refine E_schr (z := nI 103) at_X2_lettersAsIn_19 (by decide) (Nat.le_of_ble_eq_true rfl) (by decide) (by decide) ?_
            refine E_callV (v := some (.int (nI 1))) (As := [.ref 34, .int (nI (a + 0)), .int (nI 103)]) (r0 := []) (cs2 := (ww im lf s d k ls (-1) (nI n) (nI a) rn rq lt m1 m2 m3 m4 bd fc hd sz el t g fm hm so si sh ce ca td wa kp la bf oo bo pw ow tr)) at_X2_lettersAsIn_22 rfl rfl (Nat.le_of_ble_eq_true rfl) rfl (ab_rvOf w34 rfl) (w_st1 (x := a + 0) (c := 103) (by omega) (by decide) hn l_lt hlt hb0) (by decide) rfl ?_
            refine E_if (t := 30) (b := true) at_X2_lettersAsIn_25 rfl (by decide) ?_
            refine E_iinc (y := nI 1) (L2 := [some (.ref 34), some (.ref 2000005), some (.int (nI 1))]) at_X2_lettersAsIn_30 rfl (by decide) rfl ?_
            refine E_goto (t := 2) at_X2_lettersAsIn_33 rfl ?_
            refine E_iload_n at_X2_lettersAsIn_2 rfl ?_
            refine E_aload_n at_X2_lettersAsIn_3 rfl ?_
            refine E_slen (z := nI 6) at_X2_lettersAsIn_4 (by decide) (Nat.le_of_ble_eq_true rfl) (by decide) ?_
            refine E_ic (t := 36) (b := false) at_X2_lettersAsIn_7 rfl (by decide) ?_
            refine E_aload_n at_X2_lettersAsIn_10 rfl ?_
            refine E_aload_n at_X2_lettersAsIn_11 rfl ?_
            refine E_getfield (v := .int (nI a)) at_X2_lettersAsIn_12 w34 rfl (by decide) rfl ?_
            refine E_iload_n at_X2_lettersAsIn_15 rfl ?_
            refine E_iadd (z := nI (a + 1)) at_X2_lettersAsIn_16 (nI_add _ _) ?_
            refine E_aload_n at_X2_lettersAsIn_17 rfl ?_
            refine E_iload_n at_X2_lettersAsIn_18 rfl ?_
            refine E_schr (z := nI 114) at_X2_lettersAsIn_19 (by decide) (Nat.le_of_ble_eq_true rfl) (by decide) (by decide) ?_
            refine E_callV (v := some (.int (nI 1))) (As := [.ref 34, .int (nI (a + 1)), .int (nI 114)]) (r0 := []) (cs2 := (ww im lf s d k ls (-1) (nI n) (nI a) rn rq lt m1 m2 m3 m4 bd fc hd sz el t g fm hm so si sh ce ca td wa kp la bf oo bo pw ow tr)) at_X2_lettersAsIn_22 rfl rfl (Nat.le_of_ble_eq_true rfl) rfl (ab_rvOf w34 rfl) (w_st1 (x := a + 1) (c := 114) (by omega) (by decide) hn l_lt hlt hb1) (by decide) rfl ?_
            refine E_if (t := 30) (b := true) at_X2_lettersAsIn_25 rfl (by decide) ?_
            refine E_iinc (y := nI 2) (L2 := [some (.ref 34), some (.ref 2000005), some (.int (nI 2))]) at_X2_lettersAsIn_30 rfl (by decide) rfl ?_
            refine E_goto (t := 2) at_X2_lettersAsIn_33 rfl ?_
            refine E_iload_n at_X2_lettersAsIn_2 rfl ?_
            refine E_aload_n at_X2_lettersAsIn_3 rfl ?_
            refine E_slen (z := nI 6) at_X2_lettersAsIn_4 (by decide) (Nat.le_of_ble_eq_true rfl) (by decide) ?_
            refine E_ic (t := 36) (b := false) at_X2_lettersAsIn_7 rfl (by decide) ?_
            refine E_aload_n at_X2_lettersAsIn_10 rfl ?_
            refine E_aload_n at_X2_lettersAsIn_11 rfl ?_
            refine E_getfield (v := .int (nI a)) at_X2_lettersAsIn_12 w34 rfl (by decide) rfl ?_
            refine E_iload_n at_X2_lettersAsIn_15 rfl ?_
            refine E_iadd (z := nI (a + 2)) at_X2_lettersAsIn_16 (nI_add _ _) ?_
            refine E_aload_n at_X2_lettersAsIn_17 rfl ?_
            refine E_iload_n at_X2_lettersAsIn_18 rfl ?_
            refine E_schr (z := nI 101) at_X2_lettersAsIn_19 (by decide) (Nat.le_of_ble_eq_true rfl) (by decide) (by decide) ?_
            refine E_callV (v := some (.int (nI 1))) (As := [.ref 34, .int (nI (a + 2)), .int (nI 101)]) (r0 := []) (cs2 := (ww im lf s d k ls (-1) (nI n) (nI a) rn rq lt m1 m2 m3 m4 bd fc hd sz el t g fm hm so si sh ce ca td wa kp la bf oo bo pw ow tr)) at_X2_lettersAsIn_22 rfl rfl (Nat.le_of_ble_eq_true rfl) rfl (ab_rvOf w34 rfl) (w_st1 (x := a + 2) (c := 101) (by omega) (by decide) hn l_lt hlt hb2) (by decide) rfl ?_
            refine E_if (t := 30) (b := true) at_X2_lettersAsIn_25 rfl (by decide) ?_
            refine E_iinc (y := nI 3) (L2 := [some (.ref 34), some (.ref 2000005), some (.int (nI 3))]) at_X2_lettersAsIn_30 rfl (by decide) rfl ?_
            refine E_goto (t := 2) at_X2_lettersAsIn_33 rfl ?_
            refine E_iload_n at_X2_lettersAsIn_2 rfl ?_
            refine E_aload_n at_X2_lettersAsIn_3 rfl ?_
            refine E_slen (z := nI 6) at_X2_lettersAsIn_4 (by decide) (Nat.le_of_ble_eq_true rfl) (by decide) ?_
            refine E_ic (t := 36) (b := false) at_X2_lettersAsIn_7 rfl (by decide) ?_
            refine E_aload_n at_X2_lettersAsIn_10 rfl ?_
            refine E_aload_n at_X2_lettersAsIn_11 rfl ?_
            refine E_getfield (v := .int (nI a)) at_X2_lettersAsIn_12 w34 rfl (by decide) rfl ?_
            refine E_iload_n at_X2_lettersAsIn_15 rfl ?_
            refine E_iadd (z := nI (a + 3)) at_X2_lettersAsIn_16 (nI_add _ _) ?_
            refine E_aload_n at_X2_lettersAsIn_17 rfl ?_
            refine E_iload_n at_X2_lettersAsIn_18 rfl ?_
            refine E_schr (z := nI 101) at_X2_lettersAsIn_19 (by decide) (Nat.le_of_ble_eq_true rfl) (by decide) (by decide) ?_
            refine E_callV (v := some (.int (nI 1))) (As := [.ref 34, .int (nI (a + 3)), .int (nI 101)]) (r0 := []) (cs2 := (ww im lf s d k ls (-1) (nI n) (nI a) rn rq lt m1 m2 m3 m4 bd fc hd sz el t g fm hm so si sh ce ca td wa kp la bf oo bo pw ow tr)) at_X2_lettersAsIn_22 rfl rfl (Nat.le_of_ble_eq_true rfl) rfl (ab_rvOf w34 rfl) (w_st1 (x := a + 3) (c := 101) (by omega) (by decide) hn l_lt hlt hb3) (by decide) rfl ?_
            refine E_if (t := 30) (b := true) at_X2_lettersAsIn_25 rfl (by decide) ?_
            refine E_iinc (y := nI 4) (L2 := [some (.ref 34), some (.ref 2000005), some (.int (nI 4))]) at_X2_lettersAsIn_30 rfl (by decide) rfl ?_
            refine E_goto (t := 2) at_X2_lettersAsIn_33 rfl ?_
            refine E_iload_n at_X2_lettersAsIn_2 rfl ?_
            refine E_aload_n at_X2_lettersAsIn_3 rfl ?_
            refine E_slen (z := nI 6) at_X2_lettersAsIn_4 (by decide) (Nat.le_of_ble_eq_true rfl) (by decide) ?_
            refine E_ic (t := 36) (b := false) at_X2_lettersAsIn_7 rfl (by decide) ?_
            refine E_aload_n at_X2_lettersAsIn_10 rfl ?_
            refine E_aload_n at_X2_lettersAsIn_11 rfl ?_
            refine E_getfield (v := .int (nI a)) at_X2_lettersAsIn_12 w34 rfl (by decide) rfl ?_
            refine E_iload_n at_X2_lettersAsIn_15 rfl ?_
            refine E_iadd (z := nI (a + 4)) at_X2_lettersAsIn_16 (nI_add _ _) ?_
            refine E_aload_n at_X2_lettersAsIn_17 rfl ?_
            refine E_iload_n at_X2_lettersAsIn_18 rfl ?_
            refine E_schr (z := nI 100) at_X2_lettersAsIn_19 (by decide) (Nat.le_of_ble_eq_true rfl) (by decide) (by decide) ?_
            refine E_callV (v := some (.int (nI 0))) (As := [.ref 34, .int (nI (a + 4)), .int (nI 100)]) (r0 := []) (cs2 := (ww im lf s d k ls (-1) (nI n) (nI a) rn rq lt m1 m2 m3 m4 bd fc hd sz el t g fm hm so si sh ce ca td wa kp la bf oo bo pw ow tr)) at_X2_lettersAsIn_22 rfl rfl (Nat.le_of_ble_eq_true rfl) rfl (ab_rvOf w34 rfl) (w_st0 (x := a + 4) (c := 100) (by omega) (by decide) hn l_lt hlt hb4) (by decide) rfl ?_
            refine E_if (t := 30) (b := false) at_X2_lettersAsIn_25 rfl (by decide) ?_
            refine E_iload_n at_X2_lettersAsIn_28 rfl ?_
            exact E_iret at_X2_lettersAsIn_29 rfl
          · rcases bo2 (chB e n (a + 1 + 1 + 1 + 1 + 1) 121) with hb5 | hb5
            · have q0 : mtc e n [103, 114, 101, 101, 100, 121] (a) = mtc e n [114, 101, 101, 100, 121] (a + 1) + 1 := mtc_t hb0
              have q1 : mtc e n [114, 101, 101, 100, 121] (a + 1) = mtc e n [101, 101, 100, 121] (a + 1 + 1) + 1 := mtc_t hb1
              have q2 : mtc e n [101, 101, 100, 121] (a + 1 + 1) = mtc e n [101, 100, 121] (a + 1 + 1 + 1) + 1 := mtc_t hb2
              have q3 : mtc e n [101, 100, 121] (a + 1 + 1 + 1) = mtc e n [100, 121] (a + 1 + 1 + 1 + 1) + 1 := mtc_t hb3
              have q4 : mtc e n [100, 121] (a + 1 + 1 + 1 + 1) = mtc e n [121] (a + 1 + 1 + 1 + 1 + 1) + 1 := mtc_t hb4
              have q5 : mtc e n [121] (a + 1 + 1 + 1 + 1 + 1) = 0 := mtc_f hb5
              have hm0 : mj5 e n a = 5 := by unfold mj5; omega
              rw [hm0]
              refine Ef.in (md := mX2_lettersAsIn) (L := [some (.ref 34), some (.ref 2000005), none]) rfl (Nat.le_of_ble_eq_true rfl) rfl ?_
              refine E_iconst (x := nI 0) at_X2_lettersAsIn_0 (by decide) ?_
              refine E_istore_n (L2 := [some (.ref 34), some (.ref 2000005), some (.int (nI 0))]) at_X2_lettersAsIn_1 rfl ?_
              refine E_iload_n at_X2_lettersAsIn_2 rfl ?_
              refine E_aload_n at_X2_lettersAsIn_3 rfl ?_
              refine E_slen (z := nI 6) at_X2_lettersAsIn_4 (by decide) (Nat.le_of_ble_eq_true rfl) (by decide) ?_
              refine E_ic (t := 36) (b := false) at_X2_lettersAsIn_7 rfl (by decide) ?_
              refine E_aload_n at_X2_lettersAsIn_10 rfl ?_
              refine E_aload_n at_X2_lettersAsIn_11 rfl ?_
              refine E_getfield (v := .int (nI a)) at_X2_lettersAsIn_12 w34 rfl (by decide) rfl ?_
              refine E_iload_n at_X2_lettersAsIn_15 rfl ?_
              refine E_iadd (z := nI (a + 0)) at_X2_lettersAsIn_16 (nI_add _ _) ?_
              refine E_aload_n at_X2_lettersAsIn_17 rfl ?_
              refine E_iload_n at_X2_lettersAsIn_18 rfl ?_
              refine E_schr (z := nI 103) at_X2_lettersAsIn_19 (by decide) (Nat.le_of_ble_eq_true rfl) (by decide) (by decide) ?_
              refine E_callV (v := some (.int (nI 1))) (As := [.ref 34, .int (nI (a + 0)), .int (nI 103)]) (r0 := []) (cs2 := (ww im lf s d k ls (-1) (nI n) (nI a) rn rq lt m1 m2 m3 m4 bd fc hd sz el t g fm hm so si sh ce ca td wa kp la bf oo bo pw ow tr)) at_X2_lettersAsIn_22 rfl rfl (Nat.le_of_ble_eq_true rfl) rfl (ab_rvOf w34 rfl) (w_st1 (x := a + 0) (c := 103) (by omega) (by decide) hn l_lt hlt hb0) (by decide) rfl ?_
              refine E_if (t := 30) (b := true) at_X2_lettersAsIn_25 rfl (by decide) ?_
              refine E_iinc (y := nI 1) (L2 := [some (.ref 34), some (.ref 2000005), some (.int (nI 1))]) at_X2_lettersAsIn_30 rfl (by decide) rfl ?_
              refine E_goto (t := 2) at_X2_lettersAsIn_33 rfl ?_
              refine E_iload_n at_X2_lettersAsIn_2 rfl ?_
              refine E_aload_n at_X2_lettersAsIn_3 rfl ?_
              refine E_slen (z := nI 6) at_X2_lettersAsIn_4 (by decide) (Nat.le_of_ble_eq_true rfl) (by decide) ?_
              refine E_ic (t := 36) (b := false) at_X2_lettersAsIn_7 rfl (by decide) ?_
              refine E_aload_n at_X2_lettersAsIn_10 rfl ?_
              refine E_aload_n at_X2_lettersAsIn_11 rfl ?_
              refine E_getfield (v := .int (nI a)) at_X2_lettersAsIn_12 w34 rfl (by decide) rfl ?_
              refine E_iload_n at_X2_lettersAsIn_15 rfl ?_
              refine E_iadd (z := nI (a + 1)) at_X2_lettersAsIn_16 (nI_add _ _) ?_
              refine E_aload_n at_X2_lettersAsIn_17 rfl ?_
              refine E_iload_n at_X2_lettersAsIn_18 rfl ?_
              refine E_schr (z := nI 114) at_X2_lettersAsIn_19 (by decide) (Nat.le_of_ble_eq_true rfl) (by decide) (by decide) ?_
              refine E_callV (v := some (.int (nI 1))) (As := [.ref 34, .int (nI (a + 1)), .int (nI 114)]) (r0 := []) (cs2 := (ww im lf s d k ls (-1) (nI n) (nI a) rn rq lt m1 m2 m3 m4 bd fc hd sz el t g fm hm so si sh ce ca td wa kp la bf oo bo pw ow tr)) at_X2_lettersAsIn_22 rfl rfl (Nat.le_of_ble_eq_true rfl) rfl (ab_rvOf w34 rfl) (w_st1 (x := a + 1) (c := 114) (by omega) (by decide) hn l_lt hlt hb1) (by decide) rfl ?_
              refine E_if (t := 30) (b := true) at_X2_lettersAsIn_25 rfl (by decide) ?_
              refine E_iinc (y := nI 2) (L2 := [some (.ref 34), some (.ref 2000005), some (.int (nI 2))]) at_X2_lettersAsIn_30 rfl (by decide) rfl ?_
              refine E_goto (t := 2) at_X2_lettersAsIn_33 rfl ?_
              refine E_iload_n at_X2_lettersAsIn_2 rfl ?_
              refine E_aload_n at_X2_lettersAsIn_3 rfl ?_
              refine E_slen (z := nI 6) at_X2_lettersAsIn_4 (by decide) (Nat.le_of_ble_eq_true rfl) (by decide) ?_
              refine E_ic (t := 36) (b := false) at_X2_lettersAsIn_7 rfl (by decide) ?_
              refine E_aload_n at_X2_lettersAsIn_10 rfl ?_
              refine E_aload_n at_X2_lettersAsIn_11 rfl ?_
              refine E_getfield (v := .int (nI a)) at_X2_lettersAsIn_12 w34 rfl (by decide) rfl ?_
              refine E_iload_n at_X2_lettersAsIn_15 rfl ?_
              refine E_iadd (z := nI (a + 2)) at_X2_lettersAsIn_16 (nI_add _ _) ?_
              refine E_aload_n at_X2_lettersAsIn_17 rfl ?_
              refine E_iload_n at_X2_lettersAsIn_18 rfl ?_
              refine E_schr (z := nI 101) at_X2_lettersAsIn_19 (by decide) (Nat.le_of_ble_eq_true rfl) (by decide) (by decide) ?_
              refine E_callV (v := some (.int (nI 1))) (As := [.ref 34, .int (nI (a + 2)), .int (nI 101)]) (r0 := []) (cs2 := (ww im lf s d k ls (-1) (nI n) (nI a) rn rq lt m1 m2 m3 m4 bd fc hd sz el t g fm hm so si sh ce ca td wa kp la bf oo bo pw ow tr)) at_X2_lettersAsIn_22 rfl rfl (Nat.le_of_ble_eq_true rfl) rfl (ab_rvOf w34 rfl) (w_st1 (x := a + 2) (c := 101) (by omega) (by decide) hn l_lt hlt hb2) (by decide) rfl ?_
              refine E_if (t := 30) (b := true) at_X2_lettersAsIn_25 rfl (by decide) ?_
              refine E_iinc (y := nI 3) (L2 := [some (.ref 34), some (.ref 2000005), some (.int (nI 3))]) at_X2_lettersAsIn_30 rfl (by decide) rfl ?_
              refine E_goto (t := 2) at_X2_lettersAsIn_33 rfl ?_
              refine E_iload_n at_X2_lettersAsIn_2 rfl ?_
              refine E_aload_n at_X2_lettersAsIn_3 rfl ?_
              refine E_slen (z := nI 6) at_X2_lettersAsIn_4 (by decide) (Nat.le_of_ble_eq_true rfl) (by decide) ?_
              refine E_ic (t := 36) (b := false) at_X2_lettersAsIn_7 rfl (by decide) ?_
              refine E_aload_n at_X2_lettersAsIn_10 rfl ?_
              refine E_aload_n at_X2_lettersAsIn_11 rfl ?_
              refine E_getfield (v := .int (nI a)) at_X2_lettersAsIn_12 w34 rfl (by decide) rfl ?_
              refine E_iload_n at_X2_lettersAsIn_15 rfl ?_
              refine E_iadd (z := nI (a + 3)) at_X2_lettersAsIn_16 (nI_add _ _) ?_
              refine E_aload_n at_X2_lettersAsIn_17 rfl ?_
              refine E_iload_n at_X2_lettersAsIn_18 rfl ?_
              refine E_schr (z := nI 101) at_X2_lettersAsIn_19 (by decide) (Nat.le_of_ble_eq_true rfl) (by decide) (by decide) ?_
              refine E_callV (v := some (.int (nI 1))) (As := [.ref 34, .int (nI (a + 3)), .int (nI 101)]) (r0 := []) (cs2 := (ww im lf s d k ls (-1) (nI n) (nI a) rn rq lt m1 m2 m3 m4 bd fc hd sz el t g fm hm so si sh ce ca td wa kp la bf oo bo pw ow tr)) at_X2_lettersAsIn_22 rfl rfl (Nat.le_of_ble_eq_true rfl) rfl (ab_rvOf w34 rfl) (w_st1 (x := a + 3) (c := 101) (by omega) (by decide) hn l_lt hlt hb3) (by decide) rfl ?_
              refine E_if (t := 30) (b := true) at_X2_lettersAsIn_25 rfl (by decide) ?_
              refine E_iinc (y := nI 4) (L2 := [some (.ref 34), some (.ref 2000005), some (.int (nI 4))]) at_X2_lettersAsIn_30 rfl (by decide) rfl ?_
              refine E_goto (t := 2) at_X2_lettersAsIn_33 rfl ?_
              refine E_iload_n at_X2_lettersAsIn_2 rfl ?_
              refine E_aload_n at_X2_lettersAsIn_3 rfl ?_
              refine E_slen (z := nI 6) at_X2_lettersAsIn_4 (by decide) (Nat.le_of_ble_eq_true rfl) (by decide) ?_
              refine E_ic (t := 36) (b := false) at_X2_lettersAsIn_7 rfl (by decide) ?_
              refine E_aload_n at_X2_lettersAsIn_10 rfl ?_
              refine E_aload_n at_X2_lettersAsIn_11 rfl ?_
              refine E_getfield (v := .int (nI a)) at_X2_lettersAsIn_12 w34 rfl (by decide) rfl ?_
              refine E_iload_n at_X2_lettersAsIn_15 rfl ?_
              refine E_iadd (z := nI (a + 4)) at_X2_lettersAsIn_16 (nI_add _ _) ?_
              refine E_aload_n at_X2_lettersAsIn_17 rfl ?_
              refine E_iload_n at_X2_lettersAsIn_18 rfl ?_
              refine E_schr (z := nI 100) at_X2_lettersAsIn_19 (by decide) (Nat.le_of_ble_eq_true rfl) (by decide) (by decide) ?_
              refine E_callV (v := some (.int (nI 1))) (As := [.ref 34, .int (nI (a + 4)), .int (nI 100)]) (r0 := []) (cs2 := (ww im lf s d k ls (-1) (nI n) (nI a) rn rq lt m1 m2 m3 m4 bd fc hd sz el t g fm hm so si sh ce ca td wa kp la bf oo bo pw ow tr)) at_X2_lettersAsIn_22 rfl rfl (Nat.le_of_ble_eq_true rfl) rfl (ab_rvOf w34 rfl) (w_st1 (x := a + 4) (c := 100) (by omega) (by decide) hn l_lt hlt hb4) (by decide) rfl ?_
              refine E_if (t := 30) (b := true) at_X2_lettersAsIn_25 rfl (by decide) ?_
              refine E_iinc (y := nI 5) (L2 := [some (.ref 34), some (.ref 2000005), some (.int (nI 5))]) at_X2_lettersAsIn_30 rfl (by decide) rfl ?_
              refine E_goto (t := 2) at_X2_lettersAsIn_33 rfl ?_
              refine E_iload_n at_X2_lettersAsIn_2 rfl ?_
              refine E_aload_n at_X2_lettersAsIn_3 rfl ?_
              refine E_slen (z := nI 6) at_X2_lettersAsIn_4 (by decide) (Nat.le_of_ble_eq_true rfl) (by decide) ?_
              refine E_ic (t := 36) (b := false) at_X2_lettersAsIn_7 rfl (by decide) ?_
              refine E_aload_n at_X2_lettersAsIn_10 rfl ?_
              refine E_aload_n at_X2_lettersAsIn_11 rfl ?_
              refine E_getfield (v := .int (nI a)) at_X2_lettersAsIn_12 w34 rfl (by decide) rfl ?_
              refine E_iload_n at_X2_lettersAsIn_15 rfl ?_
              refine E_iadd (z := nI (a + 5)) at_X2_lettersAsIn_16 (nI_add _ _) ?_
              refine E_aload_n at_X2_lettersAsIn_17 rfl ?_
              refine E_iload_n at_X2_lettersAsIn_18 rfl ?_
              refine E_schr (z := nI 121) at_X2_lettersAsIn_19 (by decide) (Nat.le_of_ble_eq_true rfl) (by decide) (by decide) ?_
              refine E_callV (v := some (.int (nI 0))) (As := [.ref 34, .int (nI (a + 5)), .int (nI 121)]) (r0 := []) (cs2 := (ww im lf s d k ls (-1) (nI n) (nI a) rn rq lt m1 m2 m3 m4 bd fc hd sz el t g fm hm so si sh ce ca td wa kp la bf oo bo pw ow tr)) at_X2_lettersAsIn_22 rfl rfl (Nat.le_of_ble_eq_true rfl) rfl (ab_rvOf w34 rfl) (w_st0 (x := a + 5) (c := 121) (by omega) (by decide) hn l_lt hlt hb5) (by decide) rfl ?_
              refine E_if (t := 30) (b := false) at_X2_lettersAsIn_25 rfl (by decide) ?_
              refine E_iload_n at_X2_lettersAsIn_28 rfl ?_
              exact E_iret at_X2_lettersAsIn_29 rfl
            · have q0 : mtc e n [103, 114, 101, 101, 100, 121] (a) = mtc e n [114, 101, 101, 100, 121] (a + 1) + 1 := mtc_t hb0
              have q1 : mtc e n [114, 101, 101, 100, 121] (a + 1) = mtc e n [101, 101, 100, 121] (a + 1 + 1) + 1 := mtc_t hb1
              have q2 : mtc e n [101, 101, 100, 121] (a + 1 + 1) = mtc e n [101, 100, 121] (a + 1 + 1 + 1) + 1 := mtc_t hb2
              have q3 : mtc e n [101, 100, 121] (a + 1 + 1 + 1) = mtc e n [100, 121] (a + 1 + 1 + 1 + 1) + 1 := mtc_t hb3
              have q4 : mtc e n [100, 121] (a + 1 + 1 + 1 + 1) = mtc e n [121] (a + 1 + 1 + 1 + 1 + 1) + 1 := mtc_t hb4
              have q5 : mtc e n [121] (a + 1 + 1 + 1 + 1 + 1) = mtc e n [] (a + 1 + 1 + 1 + 1 + 1 + 1) + 1 := mtc_t hb5
              have q6 : mtc e n [] (a + 1 + 1 + 1 + 1 + 1 + 1) = 0 := rfl
              have hm0 : mj5 e n a = 6 := by unfold mj5; omega
              rw [hm0]
              refine Ef.in (md := mX2_lettersAsIn) (L := [some (.ref 34), some (.ref 2000005), none]) rfl (Nat.le_of_ble_eq_true rfl) rfl ?_
              refine E_iconst (x := nI 0) at_X2_lettersAsIn_0 (by decide) ?_
              refine E_istore_n (L2 := [some (.ref 34), some (.ref 2000005), some (.int (nI 0))]) at_X2_lettersAsIn_1 rfl ?_
              refine E_iload_n at_X2_lettersAsIn_2 rfl ?_
              refine E_aload_n at_X2_lettersAsIn_3 rfl ?_
              refine E_slen (z := nI 6) at_X2_lettersAsIn_4 (by decide) (Nat.le_of_ble_eq_true rfl) (by decide) ?_
              refine E_ic (t := 36) (b := false) at_X2_lettersAsIn_7 rfl (by decide) ?_
              refine E_aload_n at_X2_lettersAsIn_10 rfl ?_
              refine E_aload_n at_X2_lettersAsIn_11 rfl ?_
              refine E_getfield (v := .int (nI a)) at_X2_lettersAsIn_12 w34 rfl (by decide) rfl ?_
              refine E_iload_n at_X2_lettersAsIn_15 rfl ?_
              refine E_iadd (z := nI (a + 0)) at_X2_lettersAsIn_16 (nI_add _ _) ?_
              refine E_aload_n at_X2_lettersAsIn_17 rfl ?_
              refine E_iload_n at_X2_lettersAsIn_18 rfl ?_
              refine E_schr (z := nI 103) at_X2_lettersAsIn_19 (by decide) (Nat.le_of_ble_eq_true rfl) (by decide) (by decide) ?_
              refine E_callV (v := some (.int (nI 1))) (As := [.ref 34, .int (nI (a + 0)), .int (nI 103)]) (r0 := []) (cs2 := (ww im lf s d k ls (-1) (nI n) (nI a) rn rq lt m1 m2 m3 m4 bd fc hd sz el t g fm hm so si sh ce ca td wa kp la bf oo bo pw ow tr)) at_X2_lettersAsIn_22 rfl rfl (Nat.le_of_ble_eq_true rfl) rfl (ab_rvOf w34 rfl) (w_st1 (x := a + 0) (c := 103) (by omega) (by decide) hn l_lt hlt hb0) (by decide) rfl ?_
              refine E_if (t := 30) (b := true) at_X2_lettersAsIn_25 rfl (by decide) ?_
              refine E_iinc (y := nI 1) (L2 := [some (.ref 34), some (.ref 2000005), some (.int (nI 1))]) at_X2_lettersAsIn_30 rfl (by decide) rfl ?_
              refine E_goto (t := 2) at_X2_lettersAsIn_33 rfl ?_
              refine E_iload_n at_X2_lettersAsIn_2 rfl ?_
              refine E_aload_n at_X2_lettersAsIn_3 rfl ?_
              refine E_slen (z := nI 6) at_X2_lettersAsIn_4 (by decide) (Nat.le_of_ble_eq_true rfl) (by decide) ?_
              refine E_ic (t := 36) (b := false) at_X2_lettersAsIn_7 rfl (by decide) ?_
              refine E_aload_n at_X2_lettersAsIn_10 rfl ?_
              refine E_aload_n at_X2_lettersAsIn_11 rfl ?_
              refine E_getfield (v := .int (nI a)) at_X2_lettersAsIn_12 w34 rfl (by decide) rfl ?_
              refine E_iload_n at_X2_lettersAsIn_15 rfl ?_
              refine E_iadd (z := nI (a + 1)) at_X2_lettersAsIn_16 (nI_add _ _) ?_
              refine E_aload_n at_X2_lettersAsIn_17 rfl ?_
              refine E_iload_n at_X2_lettersAsIn_18 rfl ?_
              refine E_schr (z := nI 114) at_X2_lettersAsIn_19 (by decide) (Nat.le_of_ble_eq_true rfl) (by decide) (by decide) ?_
              refine E_callV (v := some (.int (nI 1))) (As := [.ref 34, .int (nI (a + 1)), .int (nI 114)]) (r0 := []) (cs2 := (ww im lf s d k ls (-1) (nI n) (nI a) rn rq lt m1 m2 m3 m4 bd fc hd sz el t g fm hm so si sh ce ca td wa kp la bf oo bo pw ow tr)) at_X2_lettersAsIn_22 rfl rfl (Nat.le_of_ble_eq_true rfl) rfl (ab_rvOf w34 rfl) (w_st1 (x := a + 1) (c := 114) (by omega) (by decide) hn l_lt hlt hb1) (by decide) rfl ?_
              refine E_if (t := 30) (b := true) at_X2_lettersAsIn_25 rfl (by decide) ?_
              refine E_iinc (y := nI 2) (L2 := [some (.ref 34), some (.ref 2000005), some (.int (nI 2))]) at_X2_lettersAsIn_30 rfl (by decide) rfl ?_
              refine E_goto (t := 2) at_X2_lettersAsIn_33 rfl ?_
              refine E_iload_n at_X2_lettersAsIn_2 rfl ?_
              refine E_aload_n at_X2_lettersAsIn_3 rfl ?_
              refine E_slen (z := nI 6) at_X2_lettersAsIn_4 (by decide) (Nat.le_of_ble_eq_true rfl) (by decide) ?_
              refine E_ic (t := 36) (b := false) at_X2_lettersAsIn_7 rfl (by decide) ?_
              refine E_aload_n at_X2_lettersAsIn_10 rfl ?_
              refine E_aload_n at_X2_lettersAsIn_11 rfl ?_
              refine E_getfield (v := .int (nI a)) at_X2_lettersAsIn_12 w34 rfl (by decide) rfl ?_
              refine E_iload_n at_X2_lettersAsIn_15 rfl ?_
              refine E_iadd (z := nI (a + 2)) at_X2_lettersAsIn_16 (nI_add _ _) ?_
              refine E_aload_n at_X2_lettersAsIn_17 rfl ?_
              refine E_iload_n at_X2_lettersAsIn_18 rfl ?_
              refine E_schr (z := nI 101) at_X2_lettersAsIn_19 (by decide) (Nat.le_of_ble_eq_true rfl) (by decide) (by decide) ?_
              refine E_callV (v := some (.int (nI 1))) (As := [.ref 34, .int (nI (a + 2)), .int (nI 101)]) (r0 := []) (cs2 := (ww im lf s d k ls (-1) (nI n) (nI a) rn rq lt m1 m2 m3 m4 bd fc hd sz el t g fm hm so si sh ce ca td wa kp la bf oo bo pw ow tr)) at_X2_lettersAsIn_22 rfl rfl (Nat.le_of_ble_eq_true rfl) rfl (ab_rvOf w34 rfl) (w_st1 (x := a + 2) (c := 101) (by omega) (by decide) hn l_lt hlt hb2) (by decide) rfl ?_
              refine E_if (t := 30) (b := true) at_X2_lettersAsIn_25 rfl (by decide) ?_
              refine E_iinc (y := nI 3) (L2 := [some (.ref 34), some (.ref 2000005), some (.int (nI 3))]) at_X2_lettersAsIn_30 rfl (by decide) rfl ?_
              refine E_goto (t := 2) at_X2_lettersAsIn_33 rfl ?_
              refine E_iload_n at_X2_lettersAsIn_2 rfl ?_
              refine E_aload_n at_X2_lettersAsIn_3 rfl ?_
              refine E_slen (z := nI 6) at_X2_lettersAsIn_4 (by decide) (Nat.le_of_ble_eq_true rfl) (by decide) ?_
              refine E_ic (t := 36) (b := false) at_X2_lettersAsIn_7 rfl (by decide) ?_
              refine E_aload_n at_X2_lettersAsIn_10 rfl ?_
              refine E_aload_n at_X2_lettersAsIn_11 rfl ?_
              refine E_getfield (v := .int (nI a)) at_X2_lettersAsIn_12 w34 rfl (by decide) rfl ?_
              refine E_iload_n at_X2_lettersAsIn_15 rfl ?_
              refine E_iadd (z := nI (a + 3)) at_X2_lettersAsIn_16 (nI_add _ _) ?_
              refine E_aload_n at_X2_lettersAsIn_17 rfl ?_
              refine E_iload_n at_X2_lettersAsIn_18 rfl ?_
              refine E_schr (z := nI 101) at_X2_lettersAsIn_19 (by decide) (Nat.le_of_ble_eq_true rfl) (by decide) (by decide) ?_
              refine E_callV (v := some (.int (nI 1))) (As := [.ref 34, .int (nI (a + 3)), .int (nI 101)]) (r0 := []) (cs2 := (ww im lf s d k ls (-1) (nI n) (nI a) rn rq lt m1 m2 m3 m4 bd fc hd sz el t g fm hm so si sh ce ca td wa kp la bf oo bo pw ow tr)) at_X2_lettersAsIn_22 rfl rfl (Nat.le_of_ble_eq_true rfl) rfl (ab_rvOf w34 rfl) (w_st1 (x := a + 3) (c := 101) (by omega) (by decide) hn l_lt hlt hb3) (by decide) rfl ?_
              refine E_if (t := 30) (b := true) at_X2_lettersAsIn_25 rfl (by decide) ?_
              refine E_iinc (y := nI 4) (L2 := [some (.ref 34), some (.ref 2000005), some (.int (nI 4))]) at_X2_lettersAsIn_30 rfl (by decide) rfl ?_
              refine E_goto (t := 2) at_X2_lettersAsIn_33 rfl ?_
              refine E_iload_n at_X2_lettersAsIn_2 rfl ?_
              refine E_aload_n at_X2_lettersAsIn_3 rfl ?_
              refine E_slen (z := nI 6) at_X2_lettersAsIn_4 (by decide) (Nat.le_of_ble_eq_true rfl) (by decide) ?_
              refine E_ic (t := 36) (b := false) at_X2_lettersAsIn_7 rfl (by decide) ?_
              refine E_aload_n at_X2_lettersAsIn_10 rfl ?_
              refine E_aload_n at_X2_lettersAsIn_11 rfl ?_
              refine E_getfield (v := .int (nI a)) at_X2_lettersAsIn_12 w34 rfl (by decide) rfl ?_
              refine E_iload_n at_X2_lettersAsIn_15 rfl ?_
              refine E_iadd (z := nI (a + 4)) at_X2_lettersAsIn_16 (nI_add _ _) ?_
              refine E_aload_n at_X2_lettersAsIn_17 rfl ?_
              refine E_iload_n at_X2_lettersAsIn_18 rfl ?_
              refine E_schr (z := nI 100) at_X2_lettersAsIn_19 (by decide) (Nat.le_of_ble_eq_true rfl) (by decide) (by decide) ?_
              refine E_callV (v := some (.int (nI 1))) (As := [.ref 34, .int (nI (a + 4)), .int (nI 100)]) (r0 := []) (cs2 := (ww im lf s d k ls (-1) (nI n) (nI a) rn rq lt m1 m2 m3 m4 bd fc hd sz el t g fm hm so si sh ce ca td wa kp la bf oo bo pw ow tr)) at_X2_lettersAsIn_22 rfl rfl (Nat.le_of_ble_eq_true rfl) rfl (ab_rvOf w34 rfl) (w_st1 (x := a + 4) (c := 100) (by omega) (by decide) hn l_lt hlt hb4) (by decide) rfl ?_
              refine E_if (t := 30) (b := true) at_X2_lettersAsIn_25 rfl (by decide) ?_
              refine E_iinc (y := nI 5) (L2 := [some (.ref 34), some (.ref 2000005), some (.int (nI 5))]) at_X2_lettersAsIn_30 rfl (by decide) rfl ?_
              refine E_goto (t := 2) at_X2_lettersAsIn_33 rfl ?_
              refine E_iload_n at_X2_lettersAsIn_2 rfl ?_
              refine E_aload_n at_X2_lettersAsIn_3 rfl ?_
              refine E_slen (z := nI 6) at_X2_lettersAsIn_4 (by decide) (Nat.le_of_ble_eq_true rfl) (by decide) ?_
              refine E_ic (t := 36) (b := false) at_X2_lettersAsIn_7 rfl (by decide) ?_
              refine E_aload_n at_X2_lettersAsIn_10 rfl ?_
              refine E_aload_n at_X2_lettersAsIn_11 rfl ?_
              refine E_getfield (v := .int (nI a)) at_X2_lettersAsIn_12 w34 rfl (by decide) rfl ?_
              refine E_iload_n at_X2_lettersAsIn_15 rfl ?_
              refine E_iadd (z := nI (a + 5)) at_X2_lettersAsIn_16 (nI_add _ _) ?_
              refine E_aload_n at_X2_lettersAsIn_17 rfl ?_
              refine E_iload_n at_X2_lettersAsIn_18 rfl ?_
              refine E_schr (z := nI 121) at_X2_lettersAsIn_19 (by decide) (Nat.le_of_ble_eq_true rfl) (by decide) (by decide) ?_
              refine E_callV (v := some (.int (nI 1))) (As := [.ref 34, .int (nI (a + 5)), .int (nI 121)]) (r0 := []) (cs2 := (ww im lf s d k ls (-1) (nI n) (nI a) rn rq lt m1 m2 m3 m4 bd fc hd sz el t g fm hm so si sh ce ca td wa kp la bf oo bo pw ow tr)) at_X2_lettersAsIn_22 rfl rfl (Nat.le_of_ble_eq_true rfl) rfl (ab_rvOf w34 rfl) (w_st1 (x := a + 5) (c := 121) (by omega) (by decide) hn l_lt hlt hb5) (by decide) rfl ?_
              refine E_if (t := 30) (b := true) at_X2_lettersAsIn_25 rfl (by decide) ?_
              refine E_iinc (y := nI 6) (L2 := [some (.ref 34), some (.ref 2000005), some (.int (nI 6))]) at_X2_lettersAsIn_30 rfl (by decide) rfl ?_
              refine E_goto (t := 2) at_X2_lettersAsIn_33 rfl ?_
              refine E_iload_n at_X2_lettersAsIn_2 rfl ?_
              refine E_aload_n at_X2_lettersAsIn_3 rfl ?_
              refine E_slen (z := nI 6) at_X2_lettersAsIn_4 (by decide) (Nat.le_of_ble_eq_true rfl) (by decide) ?_
              refine E_ic (t := 36) (b := true) at_X2_lettersAsIn_7 rfl (by decide) ?_
              refine E_aload_n at_X2_lettersAsIn_36 rfl ?_
              refine E_slen (z := nI 6) at_X2_lettersAsIn_37 (by decide) (Nat.le_of_ble_eq_true rfl) (by decide) ?_
              exact E_iret at_X2_lettersAsIn_40 rfl
set_option maxHeartbeats 400000 in
theorem w_li6 {e : List Int64} {n a : Nat} (hn : n ≤ 160) (ha : a ≤ n) (l_lt : lt.length = 160) (hlt : ∀ i, i < n → lt.getD i 0 = tw e i) : Ev ab_Z0 2 23 [.ref 34, .ref 2000006] (ww im lf s d k ls (-1) (nI n) (nI a) rn rq lt m1 m2 m3 m4 bd fc hd sz el t g fm hm so si sh ce ca td wa kp la bf oo bo pw ow tr) (some (.int (nI (mj6 e n a))), (ww im lf s d k ls (-1) (nI n) (nI a) rn rq lt m1 m2 m3 m4 bd fc hd sz el t g fm hm so si sh ce ca td wa kp la bf oo bo pw ow tr)) := by
  rcases bo2 (chB e n (a) 98) with hb0 | hb0
  · have q0 : mtc e n [98, 101, 115, 116] (a) = 0 := mtc_f hb0
    have hm0 : mj6 e n a = 0 := by unfold mj6; omega
    rw [hm0]
    refine Ef.in (md := mX2_lettersAsIn) (L := [some (.ref 34), some (.ref 2000006), none]) rfl (Nat.le_of_ble_eq_true rfl) rfl ?_
    refine E_iconst (x := nI 0) at_X2_lettersAsIn_0 (by decide) ?_
    refine E_istore_n (L2 := [some (.ref 34), some (.ref 2000006), some (.int (nI 0))]) at_X2_lettersAsIn_1 rfl ?_
    refine E_iload_n at_X2_lettersAsIn_2 rfl ?_
    refine E_aload_n at_X2_lettersAsIn_3 rfl ?_
    refine E_slen (z := nI 4) at_X2_lettersAsIn_4 (by decide) (Nat.le_of_ble_eq_true rfl) (by decide) ?_
    refine E_ic (t := 36) (b := false) at_X2_lettersAsIn_7 rfl (by decide) ?_
    refine E_aload_n at_X2_lettersAsIn_10 rfl ?_
    refine E_aload_n at_X2_lettersAsIn_11 rfl ?_
    refine E_getfield (v := .int (nI a)) at_X2_lettersAsIn_12 w34 rfl (by decide) rfl ?_
    refine E_iload_n at_X2_lettersAsIn_15 rfl ?_
    refine E_iadd (z := nI (a + 0)) at_X2_lettersAsIn_16 (nI_add _ _) ?_
    refine E_aload_n at_X2_lettersAsIn_17 rfl ?_
    refine E_iload_n at_X2_lettersAsIn_18 rfl ?_
    refine E_schr (z := nI 98) at_X2_lettersAsIn_19 (by decide) (Nat.le_of_ble_eq_true rfl) (by decide) (by decide) ?_
    refine E_callV (v := some (.int (nI 0))) (As := [.ref 34, .int (nI (a + 0)), .int (nI 98)]) (r0 := []) (cs2 := (ww im lf s d k ls (-1) (nI n) (nI a) rn rq lt m1 m2 m3 m4 bd fc hd sz el t g fm hm so si sh ce ca td wa kp la bf oo bo pw ow tr)) at_X2_lettersAsIn_22 rfl rfl (Nat.le_of_ble_eq_true rfl) rfl (ab_rvOf w34 rfl) (w_st0 (x := a + 0) (c := 98) (by omega) (by decide) hn l_lt hlt hb0) (by decide) rfl ?_
    refine E_if (t := 30) (b := false) at_X2_lettersAsIn_25 rfl (by decide) ?_
    refine E_iload_n at_X2_lettersAsIn_28 rfl ?_
    exact E_iret at_X2_lettersAsIn_29 rfl
  · rcases bo2 (chB e n (a + 1) 101) with hb1 | hb1
    · have q0 : mtc e n [98, 101, 115, 116] (a) = mtc e n [101, 115, 116] (a + 1) + 1 := mtc_t hb0
      have q1 : mtc e n [101, 115, 116] (a + 1) = 0 := mtc_f hb1
      have hm0 : mj6 e n a = 1 := by unfold mj6; omega
      rw [hm0]
      refine Ef.in (md := mX2_lettersAsIn) (L := [some (.ref 34), some (.ref 2000006), none]) rfl (Nat.le_of_ble_eq_true rfl) rfl ?_
      refine E_iconst (x := nI 0) at_X2_lettersAsIn_0 (by decide) ?_
      refine E_istore_n (L2 := [some (.ref 34), some (.ref 2000006), some (.int (nI 0))]) at_X2_lettersAsIn_1 rfl ?_
      refine E_iload_n at_X2_lettersAsIn_2 rfl ?_
      refine E_aload_n at_X2_lettersAsIn_3 rfl ?_
      refine E_slen (z := nI 4) at_X2_lettersAsIn_4 (by decide) (Nat.le_of_ble_eq_true rfl) (by decide) ?_
      refine E_ic (t := 36) (b := false) at_X2_lettersAsIn_7 rfl (by decide) ?_
      refine E_aload_n at_X2_lettersAsIn_10 rfl ?_
      refine E_aload_n at_X2_lettersAsIn_11 rfl ?_
      refine E_getfield (v := .int (nI a)) at_X2_lettersAsIn_12 w34 rfl (by decide) rfl ?_
      refine E_iload_n at_X2_lettersAsIn_15 rfl ?_
      refine E_iadd (z := nI (a + 0)) at_X2_lettersAsIn_16 (nI_add _ _) ?_
      refine E_aload_n at_X2_lettersAsIn_17 rfl ?_
      refine E_iload_n at_X2_lettersAsIn_18 rfl ?_
      refine E_schr (z := nI 98) at_X2_lettersAsIn_19 (by decide) (Nat.le_of_ble_eq_true rfl) (by decide) (by decide) ?_
      refine E_callV (v := some (.int (nI 1))) (As := [.ref 34, .int (nI (a + 0)), .int (nI 98)]) (r0 := []) (cs2 := (ww im lf s d k ls (-1) (nI n) (nI a) rn rq lt m1 m2 m3 m4 bd fc hd sz el t g fm hm so si sh ce ca td wa kp la bf oo bo pw ow tr)) at_X2_lettersAsIn_22 rfl rfl (Nat.le_of_ble_eq_true rfl) rfl (ab_rvOf w34 rfl) (w_st1 (x := a + 0) (c := 98) (by omega) (by decide) hn l_lt hlt hb0) (by decide) rfl ?_
      refine E_if (t := 30) (b := true) at_X2_lettersAsIn_25 rfl (by decide) ?_
      refine E_iinc (y := nI 1) (L2 := [some (.ref 34), some (.ref 2000006), some (.int (nI 1))]) at_X2_lettersAsIn_30 rfl (by decide) rfl ?_
      refine E_goto (t := 2) at_X2_lettersAsIn_33 rfl ?_
      refine E_iload_n at_X2_lettersAsIn_2 rfl ?_
      refine E_aload_n at_X2_lettersAsIn_3 rfl ?_
      refine E_slen (z := nI 4) at_X2_lettersAsIn_4 (by decide) (Nat.le_of_ble_eq_true rfl) (by decide) ?_
      refine E_ic (t := 36) (b := false) at_X2_lettersAsIn_7 rfl (by decide) ?_
      refine E_aload_n at_X2_lettersAsIn_10 rfl ?_
      refine E_aload_n at_X2_lettersAsIn_11 rfl ?_
      refine E_getfield (v := .int (nI a)) at_X2_lettersAsIn_12 w34 rfl (by decide) rfl ?_
      refine E_iload_n at_X2_lettersAsIn_15 rfl ?_
      refine E_iadd (z := nI (a + 1)) at_X2_lettersAsIn_16 (nI_add _ _) ?_
      refine E_aload_n at_X2_lettersAsIn_17 rfl ?_
      refine E_iload_n at_X2_lettersAsIn_18 rfl ?_
      refine E_schr (z := nI 101) at_X2_lettersAsIn_19 (by decide) (Nat.le_of_ble_eq_true rfl) (by decide) (by decide) ?_
      refine E_callV (v := some (.int (nI 0))) (As := [.ref 34, .int (nI (a + 1)), .int (nI 101)]) (r0 := []) (cs2 := (ww im lf s d k ls (-1) (nI n) (nI a) rn rq lt m1 m2 m3 m4 bd fc hd sz el t g fm hm so si sh ce ca td wa kp la bf oo bo pw ow tr)) at_X2_lettersAsIn_22 rfl rfl (Nat.le_of_ble_eq_true rfl) rfl (ab_rvOf w34 rfl) (w_st0 (x := a + 1) (c := 101) (by omega) (by decide) hn l_lt hlt hb1) (by decide) rfl ?_
      refine E_if (t := 30) (b := false) at_X2_lettersAsIn_25 rfl (by decide) ?_
      refine E_iload_n at_X2_lettersAsIn_28 rfl ?_
      exact E_iret at_X2_lettersAsIn_29 rfl
    · rcases bo2 (chB e n (a + 1 + 1) 115) with hb2 | hb2
      · have q0 : mtc e n [98, 101, 115, 116] (a) = mtc e n [101, 115, 116] (a + 1) + 1 := mtc_t hb0
        have q1 : mtc e n [101, 115, 116] (a + 1) = mtc e n [115, 116] (a + 1 + 1) + 1 := mtc_t hb1
        have q2 : mtc e n [115, 116] (a + 1 + 1) = 0 := mtc_f hb2
        have hm0 : mj6 e n a = 2 := by unfold mj6; omega
        rw [hm0]
        refine Ef.in (md := mX2_lettersAsIn) (L := [some (.ref 34), some (.ref 2000006), none]) rfl (Nat.le_of_ble_eq_true rfl) rfl ?_
        refine E_iconst (x := nI 0) at_X2_lettersAsIn_0 (by decide) ?_
        refine E_istore_n (L2 := [some (.ref 34), some (.ref 2000006), some (.int (nI 0))]) at_X2_lettersAsIn_1 rfl ?_
        refine E_iload_n at_X2_lettersAsIn_2 rfl ?_
        refine E_aload_n at_X2_lettersAsIn_3 rfl ?_
        refine E_slen (z := nI 4) at_X2_lettersAsIn_4 (by decide) (Nat.le_of_ble_eq_true rfl) (by decide) ?_
        refine E_ic (t := 36) (b := false) at_X2_lettersAsIn_7 rfl (by decide) ?_
        refine E_aload_n at_X2_lettersAsIn_10 rfl ?_
        refine E_aload_n at_X2_lettersAsIn_11 rfl ?_
        refine E_getfield (v := .int (nI a)) at_X2_lettersAsIn_12 w34 rfl (by decide) rfl ?_
        refine E_iload_n at_X2_lettersAsIn_15 rfl ?_
        refine E_iadd (z := nI (a + 0)) at_X2_lettersAsIn_16 (nI_add _ _) ?_
        refine E_aload_n at_X2_lettersAsIn_17 rfl ?_
        refine E_iload_n at_X2_lettersAsIn_18 rfl ?_
        refine E_schr (z := nI 98) at_X2_lettersAsIn_19 (by decide) (Nat.le_of_ble_eq_true rfl) (by decide) (by decide) ?_
        refine E_callV (v := some (.int (nI 1))) (As := [.ref 34, .int (nI (a + 0)), .int (nI 98)]) (r0 := []) (cs2 := (ww im lf s d k ls (-1) (nI n) (nI a) rn rq lt m1 m2 m3 m4 bd fc hd sz el t g fm hm so si sh ce ca td wa kp la bf oo bo pw ow tr)) at_X2_lettersAsIn_22 rfl rfl (Nat.le_of_ble_eq_true rfl) rfl (ab_rvOf w34 rfl) (w_st1 (x := a + 0) (c := 98) (by omega) (by decide) hn l_lt hlt hb0) (by decide) rfl ?_
        refine E_if (t := 30) (b := true) at_X2_lettersAsIn_25 rfl (by decide) ?_
        refine E_iinc (y := nI 1) (L2 := [some (.ref 34), some (.ref 2000006), some (.int (nI 1))]) at_X2_lettersAsIn_30 rfl (by decide) rfl ?_
        refine E_goto (t := 2) at_X2_lettersAsIn_33 rfl ?_
        refine E_iload_n at_X2_lettersAsIn_2 rfl ?_
        refine E_aload_n at_X2_lettersAsIn_3 rfl ?_
        refine E_slen (z := nI 4) at_X2_lettersAsIn_4 (by decide) (Nat.le_of_ble_eq_true rfl) (by decide) ?_
        refine E_ic (t := 36) (b := false) at_X2_lettersAsIn_7 rfl (by decide) ?_
        refine E_aload_n at_X2_lettersAsIn_10 rfl ?_
        refine E_aload_n at_X2_lettersAsIn_11 rfl ?_
        refine E_getfield (v := .int (nI a)) at_X2_lettersAsIn_12 w34 rfl (by decide) rfl ?_
        refine E_iload_n at_X2_lettersAsIn_15 rfl ?_
        refine E_iadd (z := nI (a + 1)) at_X2_lettersAsIn_16 (nI_add _ _) ?_
        refine E_aload_n at_X2_lettersAsIn_17 rfl ?_
        refine E_iload_n at_X2_lettersAsIn_18 rfl ?_
        refine E_schr (z := nI 101) at_X2_lettersAsIn_19 (by decide) (Nat.le_of_ble_eq_true rfl) (by decide) (by decide) ?_
        refine E_callV (v := some (.int (nI 1))) (As := [.ref 34, .int (nI (a + 1)), .int (nI 101)]) (r0 := []) (cs2 := (ww im lf s d k ls (-1) (nI n) (nI a) rn rq lt m1 m2 m3 m4 bd fc hd sz el t g fm hm so si sh ce ca td wa kp la bf oo bo pw ow tr)) at_X2_lettersAsIn_22 rfl rfl (Nat.le_of_ble_eq_true rfl) rfl (ab_rvOf w34 rfl) (w_st1 (x := a + 1) (c := 101) (by omega) (by decide) hn l_lt hlt hb1) (by decide) rfl ?_
        refine E_if (t := 30) (b := true) at_X2_lettersAsIn_25 rfl (by decide) ?_
        refine E_iinc (y := nI 2) (L2 := [some (.ref 34), some (.ref 2000006), some (.int (nI 2))]) at_X2_lettersAsIn_30 rfl (by decide) rfl ?_
        refine E_goto (t := 2) at_X2_lettersAsIn_33 rfl ?_
        refine E_iload_n at_X2_lettersAsIn_2 rfl ?_
        refine E_aload_n at_X2_lettersAsIn_3 rfl ?_
        refine E_slen (z := nI 4) at_X2_lettersAsIn_4 (by decide) (Nat.le_of_ble_eq_true rfl) (by decide) ?_
        refine E_ic (t := 36) (b := false) at_X2_lettersAsIn_7 rfl (by decide) ?_
        refine E_aload_n at_X2_lettersAsIn_10 rfl ?_
        refine E_aload_n at_X2_lettersAsIn_11 rfl ?_
        refine E_getfield (v := .int (nI a)) at_X2_lettersAsIn_12 w34 rfl (by decide) rfl ?_
        refine E_iload_n at_X2_lettersAsIn_15 rfl ?_
        refine E_iadd (z := nI (a + 2)) at_X2_lettersAsIn_16 (nI_add _ _) ?_
        refine E_aload_n at_X2_lettersAsIn_17 rfl ?_
        refine E_iload_n at_X2_lettersAsIn_18 rfl ?_
        refine E_schr (z := nI 115) at_X2_lettersAsIn_19 (by decide) (Nat.le_of_ble_eq_true rfl) (by decide) (by decide) ?_
        refine E_callV (v := some (.int (nI 0))) (As := [.ref 34, .int (nI (a + 2)), .int (nI 115)]) (r0 := []) (cs2 := (ww im lf s d k ls (-1) (nI n) (nI a) rn rq lt m1 m2 m3 m4 bd fc hd sz el t g fm hm so si sh ce ca td wa kp la bf oo bo pw ow tr)) at_X2_lettersAsIn_22 rfl rfl (Nat.le_of_ble_eq_true rfl) rfl (ab_rvOf w34 rfl) (w_st0 (x := a + 2) (c := 115) (by omega) (by decide) hn l_lt hlt hb2) (by decide) rfl ?_
        refine E_if (t := 30) (b := false) at_X2_lettersAsIn_25 rfl (by decide) ?_
        refine E_iload_n at_X2_lettersAsIn_28 rfl ?_
        exact E_iret at_X2_lettersAsIn_29 rfl
      · rcases bo2 (chB e n (a + 1 + 1 + 1) 116) with hb3 | hb3
        · have q0 : mtc e n [98, 101, 115, 116] (a) = mtc e n [101, 115, 116] (a + 1) + 1 := mtc_t hb0
          have q1 : mtc e n [101, 115, 116] (a + 1) = mtc e n [115, 116] (a + 1 + 1) + 1 := mtc_t hb1
          have q2 : mtc e n [115, 116] (a + 1 + 1) = mtc e n [116] (a + 1 + 1 + 1) + 1 := mtc_t hb2
          have q3 : mtc e n [116] (a + 1 + 1 + 1) = 0 := mtc_f hb3
          have hm0 : mj6 e n a = 3 := by unfold mj6; omega
          rw [hm0]
          refine Ef.in (md := mX2_lettersAsIn) (L := [some (.ref 34), some (.ref 2000006), none]) rfl (Nat.le_of_ble_eq_true rfl) rfl ?_
          refine E_iconst (x := nI 0) at_X2_lettersAsIn_0 (by decide) ?_
          refine E_istore_n (L2 := [some (.ref 34), some (.ref 2000006), some (.int (nI 0))]) at_X2_lettersAsIn_1 rfl ?_
          refine E_iload_n at_X2_lettersAsIn_2 rfl ?_
          refine E_aload_n at_X2_lettersAsIn_3 rfl ?_
          refine E_slen (z := nI 4) at_X2_lettersAsIn_4 (by decide) (Nat.le_of_ble_eq_true rfl) (by decide) ?_
          refine E_ic (t := 36) (b := false) at_X2_lettersAsIn_7 rfl (by decide) ?_
          refine E_aload_n at_X2_lettersAsIn_10 rfl ?_
          refine E_aload_n at_X2_lettersAsIn_11 rfl ?_
          refine E_getfield (v := .int (nI a)) at_X2_lettersAsIn_12 w34 rfl (by decide) rfl ?_
          refine E_iload_n at_X2_lettersAsIn_15 rfl ?_
          refine E_iadd (z := nI (a + 0)) at_X2_lettersAsIn_16 (nI_add _ _) ?_
          refine E_aload_n at_X2_lettersAsIn_17 rfl ?_
          refine E_iload_n at_X2_lettersAsIn_18 rfl ?_
          refine E_schr (z := nI 98) at_X2_lettersAsIn_19 (by decide) (Nat.le_of_ble_eq_true rfl) (by decide) (by decide) ?_
          refine E_callV (v := some (.int (nI 1))) (As := [.ref 34, .int (nI (a + 0)), .int (nI 98)]) (r0 := []) (cs2 := (ww im lf s d k ls (-1) (nI n) (nI a) rn rq lt m1 m2 m3 m4 bd fc hd sz el t g fm hm so si sh ce ca td wa kp la bf oo bo pw ow tr)) at_X2_lettersAsIn_22 rfl rfl (Nat.le_of_ble_eq_true rfl) rfl (ab_rvOf w34 rfl) (w_st1 (x := a + 0) (c := 98) (by omega) (by decide) hn l_lt hlt hb0) (by decide) rfl ?_
          refine E_if (t := 30) (b := true) at_X2_lettersAsIn_25 rfl (by decide) ?_
          refine E_iinc (y := nI 1) (L2 := [some (.ref 34), some (.ref 2000006), some (.int (nI 1))]) at_X2_lettersAsIn_30 rfl (by decide) rfl ?_
          refine E_goto (t := 2) at_X2_lettersAsIn_33 rfl ?_
          refine E_iload_n at_X2_lettersAsIn_2 rfl ?_
          refine E_aload_n at_X2_lettersAsIn_3 rfl ?_
          refine E_slen (z := nI 4) at_X2_lettersAsIn_4 (by decide) (Nat.le_of_ble_eq_true rfl) (by decide) ?_
          refine E_ic (t := 36) (b := false) at_X2_lettersAsIn_7 rfl (by decide) ?_
          refine E_aload_n at_X2_lettersAsIn_10 rfl ?_
          refine E_aload_n at_X2_lettersAsIn_11 rfl ?_
          refine E_getfield (v := .int (nI a)) at_X2_lettersAsIn_12 w34 rfl (by decide) rfl ?_
          refine E_iload_n at_X2_lettersAsIn_15 rfl ?_
          refine E_iadd (z := nI (a + 1)) at_X2_lettersAsIn_16 (nI_add _ _) ?_
          refine E_aload_n at_X2_lettersAsIn_17 rfl ?_
          refine E_iload_n at_X2_lettersAsIn_18 rfl ?_
          refine E_schr (z := nI 101) at_X2_lettersAsIn_19 (by decide) (Nat.le_of_ble_eq_true rfl) (by decide) (by decide) ?_
          refine E_callV (v := some (.int (nI 1))) (As := [.ref 34, .int (nI (a + 1)), .int (nI 101)]) (r0 := []) (cs2 := (ww im lf s d k ls (-1) (nI n) (nI a) rn rq lt m1 m2 m3 m4 bd fc hd sz el t g fm hm so si sh ce ca td wa kp la bf oo bo pw ow tr)) at_X2_lettersAsIn_22 rfl rfl (Nat.le_of_ble_eq_true rfl) rfl (ab_rvOf w34 rfl) (w_st1 (x := a + 1) (c := 101) (by omega) (by decide) hn l_lt hlt hb1) (by decide) rfl ?_
          refine E_if (t := 30) (b := true) at_X2_lettersAsIn_25 rfl (by decide) ?_
          refine E_iinc (y := nI 2) (L2 := [some (.ref 34), some (.ref 2000006), some (.int (nI 2))]) at_X2_lettersAsIn_30 rfl (by decide) rfl ?_
          refine E_goto (t := 2) at_X2_lettersAsIn_33 rfl ?_
          refine E_iload_n at_X2_lettersAsIn_2 rfl ?_
          refine E_aload_n at_X2_lettersAsIn_3 rfl ?_
          refine E_slen (z := nI 4) at_X2_lettersAsIn_4 (by decide) (Nat.le_of_ble_eq_true rfl) (by decide) ?_
          refine E_ic (t := 36) (b := false) at_X2_lettersAsIn_7 rfl (by decide) ?_
          refine E_aload_n at_X2_lettersAsIn_10 rfl ?_
          refine E_aload_n at_X2_lettersAsIn_11 rfl ?_
          refine E_getfield (v := .int (nI a)) at_X2_lettersAsIn_12 w34 rfl (by decide) rfl ?_
          refine E_iload_n at_X2_lettersAsIn_15 rfl ?_
          refine E_iadd (z := nI (a + 2)) at_X2_lettersAsIn_16 (nI_add _ _) ?_
          refine E_aload_n at_X2_lettersAsIn_17 rfl ?_
          refine E_iload_n at_X2_lettersAsIn_18 rfl ?_
          refine E_schr (z := nI 115) at_X2_lettersAsIn_19 (by decide) (Nat.le_of_ble_eq_true rfl) (by decide) (by decide) ?_
          refine E_callV (v := some (.int (nI 1))) (As := [.ref 34, .int (nI (a + 2)), .int (nI 115)]) (r0 := []) (cs2 := (ww im lf s d k ls (-1) (nI n) (nI a) rn rq lt m1 m2 m3 m4 bd fc hd sz el t g fm hm so si sh ce ca td wa kp la bf oo bo pw ow tr)) at_X2_lettersAsIn_22 rfl rfl (Nat.le_of_ble_eq_true rfl) rfl (ab_rvOf w34 rfl) (w_st1 (x := a + 2) (c := 115) (by omega) (by decide) hn l_lt hlt hb2) (by decide) rfl ?_
          refine E_if (t := 30) (b := true) at_X2_lettersAsIn_25 rfl (by decide) ?_
          refine E_iinc (y := nI 3) (L2 := [some (.ref 34), some (.ref 2000006), some (.int (nI 3))]) at_X2_lettersAsIn_30 rfl (by decide) rfl ?_
          refine E_goto (t := 2) at_X2_lettersAsIn_33 rfl ?_
          refine E_iload_n at_X2_lettersAsIn_2 rfl ?_
          refine E_aload_n at_X2_lettersAsIn_3 rfl ?_
          refine E_slen (z := nI 4) at_X2_lettersAsIn_4 (by decide) (Nat.le_of_ble_eq_true rfl) (by decide) ?_
          refine E_ic (t := 36) (b := false) at_X2_lettersAsIn_7 rfl (by decide) ?_
          refine E_aload_n at_X2_lettersAsIn_10 rfl ?_
          refine E_aload_n at_X2_lettersAsIn_11 rfl ?_
          refine E_getfield (v := .int (nI a)) at_X2_lettersAsIn_12 w34 rfl (by decide) rfl ?_
          refine E_iload_n at_X2_lettersAsIn_15 rfl ?_
          refine E_iadd (z := nI (a + 3)) at_X2_lettersAsIn_16 (nI_add _ _) ?_
          refine E_aload_n at_X2_lettersAsIn_17 rfl ?_
          refine E_iload_n at_X2_lettersAsIn_18 rfl ?_
          refine E_schr (z := nI 116) at_X2_lettersAsIn_19 (by decide) (Nat.le_of_ble_eq_true rfl) (by decide) (by decide) ?_
          refine E_callV (v := some (.int (nI 0))) (As := [.ref 34, .int (nI (a + 3)), .int (nI 116)]) (r0 := []) (cs2 := (ww im lf s d k ls (-1) (nI n) (nI a) rn rq lt m1 m2 m3 m4 bd fc hd sz el t g fm hm so si sh ce ca td wa kp la bf oo bo pw ow tr)) at_X2_lettersAsIn_22 rfl rfl (Nat.le_of_ble_eq_true rfl) rfl (ab_rvOf w34 rfl) (w_st0 (x := a + 3) (c := 116) (by omega) (by decide) hn l_lt hlt hb3) (by decide) rfl ?_
          refine E_if (t := 30) (b := false) at_X2_lettersAsIn_25 rfl (by decide) ?_
          refine E_iload_n at_X2_lettersAsIn_28 rfl ?_
          exact E_iret at_X2_lettersAsIn_29 rfl
        · have q0 : mtc e n [98, 101, 115, 116] (a) = mtc e n [101, 115, 116] (a + 1) + 1 := mtc_t hb0
          have q1 : mtc e n [101, 115, 116] (a + 1) = mtc e n [115, 116] (a + 1 + 1) + 1 := mtc_t hb1
          have q2 : mtc e n [115, 116] (a + 1 + 1) = mtc e n [116] (a + 1 + 1 + 1) + 1 := mtc_t hb2
          have q3 : mtc e n [116] (a + 1 + 1 + 1) = mtc e n [] (a + 1 + 1 + 1 + 1) + 1 := mtc_t hb3
          have q4 : mtc e n [] (a + 1 + 1 + 1 + 1) = 0 := rfl
          have hm0 : mj6 e n a = 4 := by unfold mj6; omega
          rw [hm0]
          refine Ef.in (md := mX2_lettersAsIn) (L := [some (.ref 34), some (.ref 2000006), none]) rfl (Nat.le_of_ble_eq_true rfl) rfl ?_
          refine E_iconst (x := nI 0) at_X2_lettersAsIn_0 (by decide) ?_
          refine E_istore_n (L2 := [some (.ref 34), some (.ref 2000006), some (.int (nI 0))]) at_X2_lettersAsIn_1 rfl ?_
          refine E_iload_n at_X2_lettersAsIn_2 rfl ?_
          refine E_aload_n at_X2_lettersAsIn_3 rfl ?_
          refine E_slen (z := nI 4) at_X2_lettersAsIn_4 (by decide) (Nat.le_of_ble_eq_true rfl) (by decide) ?_
          refine E_ic (t := 36) (b := false) at_X2_lettersAsIn_7 rfl (by decide) ?_
          refine E_aload_n at_X2_lettersAsIn_10 rfl ?_
          refine E_aload_n at_X2_lettersAsIn_11 rfl ?_
          refine E_getfield (v := .int (nI a)) at_X2_lettersAsIn_12 w34 rfl (by decide) rfl ?_
          refine E_iload_n at_X2_lettersAsIn_15 rfl ?_
          refine E_iadd (z := nI (a + 0)) at_X2_lettersAsIn_16 (nI_add _ _) ?_
          refine E_aload_n at_X2_lettersAsIn_17 rfl ?_
          refine E_iload_n at_X2_lettersAsIn_18 rfl ?_
          refine E_schr (z := nI 98) at_X2_lettersAsIn_19 (by decide) (Nat.le_of_ble_eq_true rfl) (by decide) (by decide) ?_
          refine E_callV (v := some (.int (nI 1))) (As := [.ref 34, .int (nI (a + 0)), .int (nI 98)]) (r0 := []) (cs2 := (ww im lf s d k ls (-1) (nI n) (nI a) rn rq lt m1 m2 m3 m4 bd fc hd sz el t g fm hm so si sh ce ca td wa kp la bf oo bo pw ow tr)) at_X2_lettersAsIn_22 rfl rfl (Nat.le_of_ble_eq_true rfl) rfl (ab_rvOf w34 rfl) (w_st1 (x := a + 0) (c := 98) (by omega) (by decide) hn l_lt hlt hb0) (by decide) rfl ?_
          refine E_if (t := 30) (b := true) at_X2_lettersAsIn_25 rfl (by decide) ?_
          refine E_iinc (y := nI 1) (L2 := [some (.ref 34), some (.ref 2000006), some (.int (nI 1))]) at_X2_lettersAsIn_30 rfl (by decide) rfl ?_
          refine E_goto (t := 2) at_X2_lettersAsIn_33 rfl ?_
          refine E_iload_n at_X2_lettersAsIn_2 rfl ?_
          refine E_aload_n at_X2_lettersAsIn_3 rfl ?_
          refine E_slen (z := nI 4) at_X2_lettersAsIn_4 (by decide) (Nat.le_of_ble_eq_true rfl) (by decide) ?_
          refine E_ic (t := 36) (b := false) at_X2_lettersAsIn_7 rfl (by decide) ?_
          refine E_aload_n at_X2_lettersAsIn_10 rfl ?_
          refine E_aload_n at_X2_lettersAsIn_11 rfl ?_
          refine E_getfield (v := .int (nI a)) at_X2_lettersAsIn_12 w34 rfl (by decide) rfl ?_
          refine E_iload_n at_X2_lettersAsIn_15 rfl ?_
          refine E_iadd (z := nI (a + 1)) at_X2_lettersAsIn_16 (nI_add _ _) ?_
          refine E_aload_n at_X2_lettersAsIn_17 rfl ?_
          refine E_iload_n at_X2_lettersAsIn_18 rfl ?_
          refine E_schr (z := nI 101) at_X2_lettersAsIn_19 (by decide) (Nat.le_of_ble_eq_true rfl) (by decide) (by decide) ?_
          refine E_callV (v := some (.int (nI 1))) (As := [.ref 34, .int (nI (a + 1)), .int (nI 101)]) (r0 := []) (cs2 := (ww im lf s d k ls (-1) (nI n) (nI a) rn rq lt m1 m2 m3 m4 bd fc hd sz el t g fm hm so si sh ce ca td wa kp la bf oo bo pw ow tr)) at_X2_lettersAsIn_22 rfl rfl (Nat.le_of_ble_eq_true rfl) rfl (ab_rvOf w34 rfl) (w_st1 (x := a + 1) (c := 101) (by omega) (by decide) hn l_lt hlt hb1) (by decide) rfl ?_
          refine E_if (t := 30) (b := true) at_X2_lettersAsIn_25 rfl (by decide) ?_
          refine E_iinc (y := nI 2) (L2 := [some (.ref 34), some (.ref 2000006), some (.int (nI 2))]) at_X2_lettersAsIn_30 rfl (by decide) rfl ?_
          refine E_goto (t := 2) at_X2_lettersAsIn_33 rfl ?_
          refine E_iload_n at_X2_lettersAsIn_2 rfl ?_
          refine E_aload_n at_X2_lettersAsIn_3 rfl ?_
          refine E_slen (z := nI 4) at_X2_lettersAsIn_4 (by decide) (Nat.le_of_ble_eq_true rfl) (by decide) ?_
          refine E_ic (t := 36) (b := false) at_X2_lettersAsIn_7 rfl (by decide) ?_
          refine E_aload_n at_X2_lettersAsIn_10 rfl ?_
          refine E_aload_n at_X2_lettersAsIn_11 rfl ?_
          refine E_getfield (v := .int (nI a)) at_X2_lettersAsIn_12 w34 rfl (by decide) rfl ?_
          refine E_iload_n at_X2_lettersAsIn_15 rfl ?_
          refine E_iadd (z := nI (a + 2)) at_X2_lettersAsIn_16 (nI_add _ _) ?_
          refine E_aload_n at_X2_lettersAsIn_17 rfl ?_
          refine E_iload_n at_X2_lettersAsIn_18 rfl ?_
          refine E_schr (z := nI 115) at_X2_lettersAsIn_19 (by decide) (Nat.le_of_ble_eq_true rfl) (by decide) (by decide) ?_
          refine E_callV (v := some (.int (nI 1))) (As := [.ref 34, .int (nI (a + 2)), .int (nI 115)]) (r0 := []) (cs2 := (ww im lf s d k ls (-1) (nI n) (nI a) rn rq lt m1 m2 m3 m4 bd fc hd sz el t g fm hm so si sh ce ca td wa kp la bf oo bo pw ow tr)) at_X2_lettersAsIn_22 rfl rfl (Nat.le_of_ble_eq_true rfl) rfl (ab_rvOf w34 rfl) (w_st1 (x := a + 2) (c := 115) (by omega) (by decide) hn l_lt hlt hb2) (by decide) rfl ?_
          refine E_if (t := 30) (b := true) at_X2_lettersAsIn_25 rfl (by decide) ?_
          refine E_iinc (y := nI 3) (L2 := [some (.ref 34), some (.ref 2000006), some (.int (nI 3))]) at_X2_lettersAsIn_30 rfl (by decide) rfl ?_
          refine E_goto (t := 2) at_X2_lettersAsIn_33 rfl ?_
          refine E_iload_n at_X2_lettersAsIn_2 rfl ?_
          refine E_aload_n at_X2_lettersAsIn_3 rfl ?_
          refine E_slen (z := nI 4) at_X2_lettersAsIn_4 (by decide) (Nat.le_of_ble_eq_true rfl) (by decide) ?_
          refine E_ic (t := 36) (b := false) at_X2_lettersAsIn_7 rfl (by decide) ?_
          refine E_aload_n at_X2_lettersAsIn_10 rfl ?_
          refine E_aload_n at_X2_lettersAsIn_11 rfl ?_
          refine E_getfield (v := .int (nI a)) at_X2_lettersAsIn_12 w34 rfl (by decide) rfl ?_
          refine E_iload_n at_X2_lettersAsIn_15 rfl ?_
          refine E_iadd (z := nI (a + 3)) at_X2_lettersAsIn_16 (nI_add _ _) ?_
          refine E_aload_n at_X2_lettersAsIn_17 rfl ?_
          refine E_iload_n at_X2_lettersAsIn_18 rfl ?_
          refine E_schr (z := nI 116) at_X2_lettersAsIn_19 (by decide) (Nat.le_of_ble_eq_true rfl) (by decide) (by decide) ?_
          refine E_callV (v := some (.int (nI 1))) (As := [.ref 34, .int (nI (a + 3)), .int (nI 116)]) (r0 := []) (cs2 := (ww im lf s d k ls (-1) (nI n) (nI a) rn rq lt m1 m2 m3 m4 bd fc hd sz el t g fm hm so si sh ce ca td wa kp la bf oo bo pw ow tr)) at_X2_lettersAsIn_22 rfl rfl (Nat.le_of_ble_eq_true rfl) rfl (ab_rvOf w34 rfl) (w_st1 (x := a + 3) (c := 116) (by omega) (by decide) hn l_lt hlt hb3) (by decide) rfl ?_
          refine E_if (t := 30) (b := true) at_X2_lettersAsIn_25 rfl (by decide) ?_
          refine E_iinc (y := nI 4) (L2 := [some (.ref 34), some (.ref 2000006), some (.int (nI 4))]) at_X2_lettersAsIn_30 rfl (by decide) rfl ?_
          refine E_goto (t := 2) at_X2_lettersAsIn_33 rfl ?_
          refine E_iload_n at_X2_lettersAsIn_2 rfl ?_
          refine E_aload_n at_X2_lettersAsIn_3 rfl ?_
          refine E_slen (z := nI 4) at_X2_lettersAsIn_4 (by decide) (Nat.le_of_ble_eq_true rfl) (by decide) ?_
          refine E_ic (t := 36) (b := true) at_X2_lettersAsIn_7 rfl (by decide) ?_
          refine E_aload_n at_X2_lettersAsIn_36 rfl ?_
          refine E_slen (z := nI 4) at_X2_lettersAsIn_37 (by decide) (Nat.le_of_ble_eq_true rfl) (by decide) ?_
          exact E_iret at_X2_lettersAsIn_40 rfl
theorem ab_maxN {x y : Nat} (hx : x < 2147483648) (hy : y < 2147483648) : (if nI x < nI y then nI y else nI x) = nI (max x y) := by
  by_cases c : x < y
  · rw [if_pos (Int32.lt_iff_toInt_lt.mpr (by rw [nI_toInt hx, nI_toInt hy]; omega))]
    exact congrArg nI (by omega)
  · rw [if_neg (fun z => by
      have := Int32.lt_iff_toInt_lt.mp z
      rw [nI_toInt hx, nI_toInt hy] at this
      omega)]
    exact congrArg nI (by omega)
set_option maxHeartbeats 1000000 in
theorem w_rw0 {e : List Int64} {n a : Nat} (hn : n ≤ 160) (ha : a ≤ n) (l_lt : lt.length = 160) (hlt : ∀ i, i < n → lt.getD i 0 = tw e i) (hw : wd e n a = 0) : Ev ab_Z0 3 21 [.ref 34] (ww im lf s d k ls (-1) (nI n) (nI a) rn rq lt m1 m2 m3 m4 bd fc hd sz el t g fm hm so si sh ce ca td wa kp la bf oo bo pw ow tr) (some (.int (nI 0)), (ww im lf s d k ls (-1) (nI n) (nI (a + 5)) rn rq lt m1 m2 m3 m4 bd fc hd sz el t g fm hm so si sh ce ca td wa kp la bf oo bo pw ow tr)) := by
  have hwc := wd_c e n a
  have hl0 := mj0_le e n a
  refine Ef.in (md := mX2_readWord) (L := [some (.ref 34), none, none, none, none]) rfl (Nat.le_of_ble_eq_true rfl) rfl ?_
  refine E_iconst (x := nI 0) at_X2_readWord_0 (by decide) ?_
  refine E_istore_n (L2 := [some (.ref 34), some (.int (nI 0)), none, none, none]) at_X2_readWord_1 rfl ?_
  refine E_iconst (x := nI 0) at_X2_readWord_2 (by decide) ?_
  refine E_istore_n (L2 := [some (.ref 34), some (.int (nI 0)), some (.int (nI 0)), none, none]) at_X2_readWord_3 rfl ?_
  refine E_iload_n at_X2_readWord_4 rfl ?_
  refine E_bipush (x := nI 7) at_X2_readWord_5 (by decide) ?_
  refine E_ic (t := 57) (b := false) at_X2_readWord_7 rfl (by decide) ?_
  refine E_iload_n at_X2_readWord_10 rfl ?_
  have e1 : Ev ab_Z0 1 22 [.int (nI 0)] (ww im lf s d k ls (-1) (nI n) (nI a) rn rq lt m1 m2 m3 m4 bd fc hd sz el t g fm hm so si sh ce ca td wa kp la bf oo bo pw ow tr) (some (.ref 2000000), (ww im lf s d k ls (-1) (nI n) (nI a) rn rq lt m1 m2 m3 m4 bd fc hd sz el t g fm hm so si sh ce ca td wa kp la bf oo bo pw ow tr)) := by
    refine Ef.in (md := mX2_spelt) (L := [some (.int (nI 0))]) rfl (Nat.le_of_ble_eq_true rfl) rfl ?_
    refine E_iload_n at_X2_spelt_0 rfl ?_
    refine E_tsIn (off := 39) (t := 40) at_X2_spelt_1 (by decide) rfl rfl ?_
    refine E_ldcS (t := 2000000) at_X2_spelt_40 (by decide) rfl ?_
    exact E_aret at_X2_spelt_42 rfl
  refine E_callS (v := some (.ref 2000000)) (As := [.int (nI 0)]) (r0 := []) (cs2 := (ww im lf s d k ls (-1) (nI n) (nI a) rn rq lt m1 m2 m3 m4 bd fc hd sz el t g fm hm so si sh ce ca td wa kp la bf oo bo pw ow tr)) at_X2_readWord_11 rfl rfl (Nat.le_of_ble_eq_true rfl) rfl e1 (by decide) rfl ?_
  refine E_astore_n (L2 := [some (.ref 34), some (.int (nI 0)), some (.int (nI 0)), some (.ref 2000000), none]) at_X2_readWord_14 rfl ?_
  refine E_aload_n at_X2_readWord_15 rfl ?_
  refine E_aload_n at_X2_readWord_16 rfl ?_
  refine E_callV (v := some (.int (nI (mj0 e n a)))) (As := [.ref 34, .ref 2000000]) (r0 := []) (cs2 := (ww im lf s d k ls (-1) (nI n) (nI a) rn rq lt m1 m2 m3 m4 bd fc hd sz el t g fm hm so si sh ce ca td wa kp la bf oo bo pw ow tr)) at_X2_readWord_17 rfl rfl (Nat.le_of_ble_eq_true rfl) rfl (ab_rvOf w34 rfl) (w_li0 hn ha l_lt hlt) (by decide) rfl ?_
  refine E_istore (L2 := [some (.ref 34), some (.int (nI 0)), some (.int (nI 0)), some (.ref 2000000), some (.int (nI (mj0 e n a)))]) at_X2_readWord_20 rfl ?_
  refine E_iload at_X2_readWord_22 rfl ?_
  refine E_aload_n at_X2_readWord_24 rfl ?_
  refine E_slen (z := nI 5) at_X2_readWord_25 (by decide) (Nat.le_of_ble_eq_true rfl) (by decide) ?_
  refine E_ic (t := 44) (b := false) at_X2_readWord_28 rfl ((cn_ne (nI_toInt (by omega)) (nI_toInt (by omega))).trans (decide_eq_false (by omega))) ?_
  refine E_aload_n at_X2_readWord_31 rfl ?_
  refine E_dup at_X2_readWord_32 rfl ?_
  refine E_getfield (v := .int (nI a)) at_X2_readWord_33 w34 rfl (by decide) rfl ?_
  refine E_iload at_X2_readWord_36 rfl ?_
  refine E_iadd (z := nI (a + 5)) at_X2_readWord_38 ((nI_add _ _).trans (congrArg nI (by omega))) ?_
  refine E_putfield (cs2 := (ww im lf s d k ls (-1) (nI n) (nI (a + 5)) rn rq lt m1 m2 m3 m4 bd fc hd sz el t g fm hm so si sh ce ca td wa kp la bf oo bo pw ow tr)) at_X2_readWord_39 w34 rfl (by decide) (Nat.le_of_ble_eq_true rfl) rfl rfl rfl rfl ?_
  refine E_iload_n at_X2_readWord_42 rfl ?_
  exact E_iret at_X2_readWord_43 rfl
set_option maxHeartbeats 1000000 in
theorem w_rw1 {e : List Int64} {n a : Nat} (hn : n ≤ 160) (ha : a ≤ n) (l_lt : lt.length = 160) (hlt : ∀ i, i < n → lt.getD i 0 = tw e i) (hw : wd e n a = 1) : Ev ab_Z0 3 21 [.ref 34] (ww im lf s d k ls (-1) (nI n) (nI a) rn rq lt m1 m2 m3 m4 bd fc hd sz el t g fm hm so si sh ce ca td wa kp la bf oo bo pw ow tr) (some (.int (nI 1)), (ww im lf s d k ls (-1) (nI n) (nI (a + 6)) rn rq lt m1 m2 m3 m4 bd fc hd sz el t g fm hm so si sh ce ca td wa kp la bf oo bo pw ow tr)) := by
  have hwc := wd_c e n a
  have hl0 := mj0_le e n a
  have hl1 := mj1_le e n a
  refine Ef.in (md := mX2_readWord) (L := [some (.ref 34), none, none, none, none]) rfl (Nat.le_of_ble_eq_true rfl) rfl ?_
  refine E_iconst (x := nI 0) at_X2_readWord_0 (by decide) ?_
  refine E_istore_n (L2 := [some (.ref 34), some (.int (nI 0)), none, none, none]) at_X2_readWord_1 rfl ?_
  refine E_iconst (x := nI 0) at_X2_readWord_2 (by decide) ?_
  refine E_istore_n (L2 := [some (.ref 34), some (.int (nI 0)), some (.int (nI 0)), none, none]) at_X2_readWord_3 rfl ?_
  refine E_iload_n at_X2_readWord_4 rfl ?_
  refine E_bipush (x := nI 7) at_X2_readWord_5 (by decide) ?_
  refine E_ic (t := 57) (b := false) at_X2_readWord_7 rfl (by decide) ?_
  refine E_iload_n at_X2_readWord_10 rfl ?_
  have e1 : Ev ab_Z0 1 22 [.int (nI 0)] (ww im lf s d k ls (-1) (nI n) (nI a) rn rq lt m1 m2 m3 m4 bd fc hd sz el t g fm hm so si sh ce ca td wa kp la bf oo bo pw ow tr) (some (.ref 2000000), (ww im lf s d k ls (-1) (nI n) (nI a) rn rq lt m1 m2 m3 m4 bd fc hd sz el t g fm hm so si sh ce ca td wa kp la bf oo bo pw ow tr)) := by
    refine Ef.in (md := mX2_spelt) (L := [some (.int (nI 0))]) rfl (Nat.le_of_ble_eq_true rfl) rfl ?_
    refine E_iload_n at_X2_spelt_0 rfl ?_
    refine E_tsIn (off := 39) (t := 40) at_X2_spelt_1 (by decide) rfl rfl ?_
    refine E_ldcS (t := 2000000) at_X2_spelt_40 (by decide) rfl ?_
    exact E_aret at_X2_spelt_42 rfl
  refine E_callS (v := some (.ref 2000000)) (As := [.int (nI 0)]) (r0 := []) (cs2 := (ww im lf s d k ls (-1) (nI n) (nI a) rn rq lt m1 m2 m3 m4 bd fc hd sz el t g fm hm so si sh ce ca td wa kp la bf oo bo pw ow tr)) at_X2_readWord_11 rfl rfl (Nat.le_of_ble_eq_true rfl) rfl e1 (by decide) rfl ?_
  refine E_astore_n (L2 := [some (.ref 34), some (.int (nI 0)), some (.int (nI 0)), some (.ref 2000000), none]) at_X2_readWord_14 rfl ?_
  refine E_aload_n at_X2_readWord_15 rfl ?_
  refine E_aload_n at_X2_readWord_16 rfl ?_
  refine E_callV (v := some (.int (nI (mj0 e n a)))) (As := [.ref 34, .ref 2000000]) (r0 := []) (cs2 := (ww im lf s d k ls (-1) (nI n) (nI a) rn rq lt m1 m2 m3 m4 bd fc hd sz el t g fm hm so si sh ce ca td wa kp la bf oo bo pw ow tr)) at_X2_readWord_17 rfl rfl (Nat.le_of_ble_eq_true rfl) rfl (ab_rvOf w34 rfl) (w_li0 hn ha l_lt hlt) (by decide) rfl ?_
  refine E_istore (L2 := [some (.ref 34), some (.int (nI 0)), some (.int (nI 0)), some (.ref 2000000), some (.int (nI (mj0 e n a)))]) at_X2_readWord_20 rfl ?_
  refine E_iload at_X2_readWord_22 rfl ?_
  refine E_aload_n at_X2_readWord_24 rfl ?_
  refine E_slen (z := nI 5) at_X2_readWord_25 (by decide) (Nat.le_of_ble_eq_true rfl) (by decide) ?_
  refine E_ic (t := 44) (b := true) at_X2_readWord_28 rfl ((cn_ne (nI_toInt (by omega)) (nI_toInt (by omega))).trans (decide_eq_true (by omega))) ?_
  refine E_iload_n at_X2_readWord_44 rfl ?_
  refine E_iload at_X2_readWord_45 rfl ?_
  refine E_max (z := nI (max (0) (mj0 e n a))) at_X2_readWord_47 (Nat.le_of_ble_eq_true rfl) (ab_maxN (by omega) (by omega)) ?_
  refine E_istore_n (L2 := [some (.ref 34), some (.int (nI (max (0) (mj0 e n a)))), some (.int (nI 0)), some (.ref 2000000), some (.int (nI (mj0 e n a)))]) at_X2_readWord_50 rfl ?_
  refine E_iinc (y := nI 1) (L2 := [some (.ref 34), some (.int (nI (max (0) (mj0 e n a)))), some (.int (nI 1)), some (.ref 2000000), some (.int (nI (mj0 e n a)))]) at_X2_readWord_51 rfl (by decide) rfl ?_
  refine E_goto (t := 4) at_X2_readWord_54 rfl ?_
  refine E_iload_n at_X2_readWord_4 rfl ?_
  refine E_bipush (x := nI 7) at_X2_readWord_5 (by decide) ?_
  refine E_ic (t := 57) (b := false) at_X2_readWord_7 rfl (by decide) ?_
  refine E_iload_n at_X2_readWord_10 rfl ?_
  have e2 : Ev ab_Z0 1 22 [.int (nI 1)] (ww im lf s d k ls (-1) (nI n) (nI a) rn rq lt m1 m2 m3 m4 bd fc hd sz el t g fm hm so si sh ce ca td wa kp la bf oo bo pw ow tr) (some (.ref 2000001), (ww im lf s d k ls (-1) (nI n) (nI a) rn rq lt m1 m2 m3 m4 bd fc hd sz el t g fm hm so si sh ce ca td wa kp la bf oo bo pw ow tr)) := by
    refine Ef.in (md := mX2_spelt) (L := [some (.int (nI 1))]) rfl (Nat.le_of_ble_eq_true rfl) rfl ?_
    refine E_iload_n at_X2_spelt_0 rfl ?_
    refine E_tsIn (off := 42) (t := 43) at_X2_spelt_1 (by decide) rfl rfl ?_
    refine E_ldcS (t := 2000001) at_X2_spelt_43 (by decide) rfl ?_
    exact E_aret at_X2_spelt_45 rfl
  refine E_callS (v := some (.ref 2000001)) (As := [.int (nI 1)]) (r0 := []) (cs2 := (ww im lf s d k ls (-1) (nI n) (nI a) rn rq lt m1 m2 m3 m4 bd fc hd sz el t g fm hm so si sh ce ca td wa kp la bf oo bo pw ow tr)) at_X2_readWord_11 rfl rfl (Nat.le_of_ble_eq_true rfl) rfl e2 (by decide) rfl ?_
  refine E_astore_n (L2 := [some (.ref 34), some (.int (nI (max (0) (mj0 e n a)))), some (.int (nI 1)), some (.ref 2000001), some (.int (nI (mj0 e n a)))]) at_X2_readWord_14 rfl ?_
  refine E_aload_n at_X2_readWord_15 rfl ?_
  refine E_aload_n at_X2_readWord_16 rfl ?_
  refine E_callV (v := some (.int (nI (mj1 e n a)))) (As := [.ref 34, .ref 2000001]) (r0 := []) (cs2 := (ww im lf s d k ls (-1) (nI n) (nI a) rn rq lt m1 m2 m3 m4 bd fc hd sz el t g fm hm so si sh ce ca td wa kp la bf oo bo pw ow tr)) at_X2_readWord_17 rfl rfl (Nat.le_of_ble_eq_true rfl) rfl (ab_rvOf w34 rfl) (w_li1 hn ha l_lt hlt) (by decide) rfl ?_
  refine E_istore (L2 := [some (.ref 34), some (.int (nI (max (0) (mj0 e n a)))), some (.int (nI 1)), some (.ref 2000001), some (.int (nI (mj1 e n a)))]) at_X2_readWord_20 rfl ?_
  refine E_iload at_X2_readWord_22 rfl ?_
  refine E_aload_n at_X2_readWord_24 rfl ?_
  refine E_slen (z := nI 6) at_X2_readWord_25 (by decide) (Nat.le_of_ble_eq_true rfl) (by decide) ?_
  refine E_ic (t := 44) (b := false) at_X2_readWord_28 rfl ((cn_ne (nI_toInt (by omega)) (nI_toInt (by omega))).trans (decide_eq_false (by omega))) ?_
  refine E_aload_n at_X2_readWord_31 rfl ?_
  refine E_dup at_X2_readWord_32 rfl ?_
  refine E_getfield (v := .int (nI a)) at_X2_readWord_33 w34 rfl (by decide) rfl ?_
  refine E_iload at_X2_readWord_36 rfl ?_
  refine E_iadd (z := nI (a + 6)) at_X2_readWord_38 ((nI_add _ _).trans (congrArg nI (by omega))) ?_
  refine E_putfield (cs2 := (ww im lf s d k ls (-1) (nI n) (nI (a + 6)) rn rq lt m1 m2 m3 m4 bd fc hd sz el t g fm hm so si sh ce ca td wa kp la bf oo bo pw ow tr)) at_X2_readWord_39 w34 rfl (by decide) (Nat.le_of_ble_eq_true rfl) rfl rfl rfl rfl ?_
  refine E_iload_n at_X2_readWord_42 rfl ?_
  exact E_iret at_X2_readWord_43 rfl
set_option maxHeartbeats 1000000 in
theorem w_rw2 {e : List Int64} {n a : Nat} (hn : n ≤ 160) (ha : a ≤ n) (l_lt : lt.length = 160) (hlt : ∀ i, i < n → lt.getD i 0 = tw e i) (hw : wd e n a = 2) : Ev ab_Z0 3 21 [.ref 34] (ww im lf s d k ls (-1) (nI n) (nI a) rn rq lt m1 m2 m3 m4 bd fc hd sz el t g fm hm so si sh ce ca td wa kp la bf oo bo pw ow tr) (some (.int (nI 2)), (ww im lf s d k ls (-1) (nI n) (nI (a + 4)) rn rq lt m1 m2 m3 m4 bd fc hd sz el t g fm hm so si sh ce ca td wa kp la bf oo bo pw ow tr)) := by
  have hwc := wd_c e n a
  have hl0 := mj0_le e n a
  have hl1 := mj1_le e n a
  have hl2 := mj2_le e n a
  refine Ef.in (md := mX2_readWord) (L := [some (.ref 34), none, none, none, none]) rfl (Nat.le_of_ble_eq_true rfl) rfl ?_
  refine E_iconst (x := nI 0) at_X2_readWord_0 (by decide) ?_
  refine E_istore_n (L2 := [some (.ref 34), some (.int (nI 0)), none, none, none]) at_X2_readWord_1 rfl ?_
  refine E_iconst (x := nI 0) at_X2_readWord_2 (by decide) ?_
  refine E_istore_n (L2 := [some (.ref 34), some (.int (nI 0)), some (.int (nI 0)), none, none]) at_X2_readWord_3 rfl ?_
  refine E_iload_n at_X2_readWord_4 rfl ?_
  refine E_bipush (x := nI 7) at_X2_readWord_5 (by decide) ?_
  refine E_ic (t := 57) (b := false) at_X2_readWord_7 rfl (by decide) ?_
  refine E_iload_n at_X2_readWord_10 rfl ?_
  have e1 : Ev ab_Z0 1 22 [.int (nI 0)] (ww im lf s d k ls (-1) (nI n) (nI a) rn rq lt m1 m2 m3 m4 bd fc hd sz el t g fm hm so si sh ce ca td wa kp la bf oo bo pw ow tr) (some (.ref 2000000), (ww im lf s d k ls (-1) (nI n) (nI a) rn rq lt m1 m2 m3 m4 bd fc hd sz el t g fm hm so si sh ce ca td wa kp la bf oo bo pw ow tr)) := by
    refine Ef.in (md := mX2_spelt) (L := [some (.int (nI 0))]) rfl (Nat.le_of_ble_eq_true rfl) rfl ?_
    refine E_iload_n at_X2_spelt_0 rfl ?_
    refine E_tsIn (off := 39) (t := 40) at_X2_spelt_1 (by decide) rfl rfl ?_
    refine E_ldcS (t := 2000000) at_X2_spelt_40 (by decide) rfl ?_
    exact E_aret at_X2_spelt_42 rfl
  refine E_callS (v := some (.ref 2000000)) (As := [.int (nI 0)]) (r0 := []) (cs2 := (ww im lf s d k ls (-1) (nI n) (nI a) rn rq lt m1 m2 m3 m4 bd fc hd sz el t g fm hm so si sh ce ca td wa kp la bf oo bo pw ow tr)) at_X2_readWord_11 rfl rfl (Nat.le_of_ble_eq_true rfl) rfl e1 (by decide) rfl ?_
  refine E_astore_n (L2 := [some (.ref 34), some (.int (nI 0)), some (.int (nI 0)), some (.ref 2000000), none]) at_X2_readWord_14 rfl ?_
  refine E_aload_n at_X2_readWord_15 rfl ?_
  refine E_aload_n at_X2_readWord_16 rfl ?_
  refine E_callV (v := some (.int (nI (mj0 e n a)))) (As := [.ref 34, .ref 2000000]) (r0 := []) (cs2 := (ww im lf s d k ls (-1) (nI n) (nI a) rn rq lt m1 m2 m3 m4 bd fc hd sz el t g fm hm so si sh ce ca td wa kp la bf oo bo pw ow tr)) at_X2_readWord_17 rfl rfl (Nat.le_of_ble_eq_true rfl) rfl (ab_rvOf w34 rfl) (w_li0 hn ha l_lt hlt) (by decide) rfl ?_
  refine E_istore (L2 := [some (.ref 34), some (.int (nI 0)), some (.int (nI 0)), some (.ref 2000000), some (.int (nI (mj0 e n a)))]) at_X2_readWord_20 rfl ?_
  refine E_iload at_X2_readWord_22 rfl ?_
  refine E_aload_n at_X2_readWord_24 rfl ?_
  refine E_slen (z := nI 5) at_X2_readWord_25 (by decide) (Nat.le_of_ble_eq_true rfl) (by decide) ?_
  refine E_ic (t := 44) (b := true) at_X2_readWord_28 rfl ((cn_ne (nI_toInt (by omega)) (nI_toInt (by omega))).trans (decide_eq_true (by omega))) ?_
  refine E_iload_n at_X2_readWord_44 rfl ?_
  refine E_iload at_X2_readWord_45 rfl ?_
  refine E_max (z := nI (max (0) (mj0 e n a))) at_X2_readWord_47 (Nat.le_of_ble_eq_true rfl) (ab_maxN (by omega) (by omega)) ?_
  refine E_istore_n (L2 := [some (.ref 34), some (.int (nI (max (0) (mj0 e n a)))), some (.int (nI 0)), some (.ref 2000000), some (.int (nI (mj0 e n a)))]) at_X2_readWord_50 rfl ?_
  refine E_iinc (y := nI 1) (L2 := [some (.ref 34), some (.int (nI (max (0) (mj0 e n a)))), some (.int (nI 1)), some (.ref 2000000), some (.int (nI (mj0 e n a)))]) at_X2_readWord_51 rfl (by decide) rfl ?_
  refine E_goto (t := 4) at_X2_readWord_54 rfl ?_
  refine E_iload_n at_X2_readWord_4 rfl ?_
  refine E_bipush (x := nI 7) at_X2_readWord_5 (by decide) ?_
  refine E_ic (t := 57) (b := false) at_X2_readWord_7 rfl (by decide) ?_
  refine E_iload_n at_X2_readWord_10 rfl ?_
  have e2 : Ev ab_Z0 1 22 [.int (nI 1)] (ww im lf s d k ls (-1) (nI n) (nI a) rn rq lt m1 m2 m3 m4 bd fc hd sz el t g fm hm so si sh ce ca td wa kp la bf oo bo pw ow tr) (some (.ref 2000001), (ww im lf s d k ls (-1) (nI n) (nI a) rn rq lt m1 m2 m3 m4 bd fc hd sz el t g fm hm so si sh ce ca td wa kp la bf oo bo pw ow tr)) := by
    refine Ef.in (md := mX2_spelt) (L := [some (.int (nI 1))]) rfl (Nat.le_of_ble_eq_true rfl) rfl ?_
    refine E_iload_n at_X2_spelt_0 rfl ?_
    refine E_tsIn (off := 42) (t := 43) at_X2_spelt_1 (by decide) rfl rfl ?_
    refine E_ldcS (t := 2000001) at_X2_spelt_43 (by decide) rfl ?_
    exact E_aret at_X2_spelt_45 rfl
  refine E_callS (v := some (.ref 2000001)) (As := [.int (nI 1)]) (r0 := []) (cs2 := (ww im lf s d k ls (-1) (nI n) (nI a) rn rq lt m1 m2 m3 m4 bd fc hd sz el t g fm hm so si sh ce ca td wa kp la bf oo bo pw ow tr)) at_X2_readWord_11 rfl rfl (Nat.le_of_ble_eq_true rfl) rfl e2 (by decide) rfl ?_
  refine E_astore_n (L2 := [some (.ref 34), some (.int (nI (max (0) (mj0 e n a)))), some (.int (nI 1)), some (.ref 2000001), some (.int (nI (mj0 e n a)))]) at_X2_readWord_14 rfl ?_
  refine E_aload_n at_X2_readWord_15 rfl ?_
  refine E_aload_n at_X2_readWord_16 rfl ?_
  refine E_callV (v := some (.int (nI (mj1 e n a)))) (As := [.ref 34, .ref 2000001]) (r0 := []) (cs2 := (ww im lf s d k ls (-1) (nI n) (nI a) rn rq lt m1 m2 m3 m4 bd fc hd sz el t g fm hm so si sh ce ca td wa kp la bf oo bo pw ow tr)) at_X2_readWord_17 rfl rfl (Nat.le_of_ble_eq_true rfl) rfl (ab_rvOf w34 rfl) (w_li1 hn ha l_lt hlt) (by decide) rfl ?_
  refine E_istore (L2 := [some (.ref 34), some (.int (nI (max (0) (mj0 e n a)))), some (.int (nI 1)), some (.ref 2000001), some (.int (nI (mj1 e n a)))]) at_X2_readWord_20 rfl ?_
  refine E_iload at_X2_readWord_22 rfl ?_
  refine E_aload_n at_X2_readWord_24 rfl ?_
  refine E_slen (z := nI 6) at_X2_readWord_25 (by decide) (Nat.le_of_ble_eq_true rfl) (by decide) ?_
  refine E_ic (t := 44) (b := true) at_X2_readWord_28 rfl ((cn_ne (nI_toInt (by omega)) (nI_toInt (by omega))).trans (decide_eq_true (by omega))) ?_
  refine E_iload_n at_X2_readWord_44 rfl ?_
  refine E_iload at_X2_readWord_45 rfl ?_
  refine E_max (z := nI (max (max (0) (mj0 e n a)) (mj1 e n a))) at_X2_readWord_47 (Nat.le_of_ble_eq_true rfl) (ab_maxN (by omega) (by omega)) ?_
  refine E_istore_n (L2 := [some (.ref 34), some (.int (nI (max (max (0) (mj0 e n a)) (mj1 e n a)))), some (.int (nI 1)), some (.ref 2000001), some (.int (nI (mj1 e n a)))]) at_X2_readWord_50 rfl ?_
  refine E_iinc (y := nI 2) (L2 := [some (.ref 34), some (.int (nI (max (max (0) (mj0 e n a)) (mj1 e n a)))), some (.int (nI 2)), some (.ref 2000001), some (.int (nI (mj1 e n a)))]) at_X2_readWord_51 rfl (by decide) rfl ?_
  refine E_goto (t := 4) at_X2_readWord_54 rfl ?_
  refine E_iload_n at_X2_readWord_4 rfl ?_
  refine E_bipush (x := nI 7) at_X2_readWord_5 (by decide) ?_
  refine E_ic (t := 57) (b := false) at_X2_readWord_7 rfl (by decide) ?_
  refine E_iload_n at_X2_readWord_10 rfl ?_
  have e3 : Ev ab_Z0 1 22 [.int (nI 2)] (ww im lf s d k ls (-1) (nI n) (nI a) rn rq lt m1 m2 m3 m4 bd fc hd sz el t g fm hm so si sh ce ca td wa kp la bf oo bo pw ow tr) (some (.ref 2000002), (ww im lf s d k ls (-1) (nI n) (nI a) rn rq lt m1 m2 m3 m4 bd fc hd sz el t g fm hm so si sh ce ca td wa kp la bf oo bo pw ow tr)) := by
    refine Ef.in (md := mX2_spelt) (L := [some (.int (nI 2))]) rfl (Nat.le_of_ble_eq_true rfl) rfl ?_
    refine E_iload_n at_X2_spelt_0 rfl ?_
    refine E_tsIn (off := 45) (t := 46) at_X2_spelt_1 (by decide) rfl rfl ?_
    refine E_ldcS (t := 2000002) at_X2_spelt_46 (by decide) rfl ?_
    exact E_aret at_X2_spelt_48 rfl
  refine E_callS (v := some (.ref 2000002)) (As := [.int (nI 2)]) (r0 := []) (cs2 := (ww im lf s d k ls (-1) (nI n) (nI a) rn rq lt m1 m2 m3 m4 bd fc hd sz el t g fm hm so si sh ce ca td wa kp la bf oo bo pw ow tr)) at_X2_readWord_11 rfl rfl (Nat.le_of_ble_eq_true rfl) rfl e3 (by decide) rfl ?_
  refine E_astore_n (L2 := [some (.ref 34), some (.int (nI (max (max (0) (mj0 e n a)) (mj1 e n a)))), some (.int (nI 2)), some (.ref 2000002), some (.int (nI (mj1 e n a)))]) at_X2_readWord_14 rfl ?_
  refine E_aload_n at_X2_readWord_15 rfl ?_
  refine E_aload_n at_X2_readWord_16 rfl ?_
  refine E_callV (v := some (.int (nI (mj2 e n a)))) (As := [.ref 34, .ref 2000002]) (r0 := []) (cs2 := (ww im lf s d k ls (-1) (nI n) (nI a) rn rq lt m1 m2 m3 m4 bd fc hd sz el t g fm hm so si sh ce ca td wa kp la bf oo bo pw ow tr)) at_X2_readWord_17 rfl rfl (Nat.le_of_ble_eq_true rfl) rfl (ab_rvOf w34 rfl) (w_li2 hn ha l_lt hlt) (by decide) rfl ?_
  refine E_istore (L2 := [some (.ref 34), some (.int (nI (max (max (0) (mj0 e n a)) (mj1 e n a)))), some (.int (nI 2)), some (.ref 2000002), some (.int (nI (mj2 e n a)))]) at_X2_readWord_20 rfl ?_
  refine E_iload at_X2_readWord_22 rfl ?_
  refine E_aload_n at_X2_readWord_24 rfl ?_
  refine E_slen (z := nI 4) at_X2_readWord_25 (by decide) (Nat.le_of_ble_eq_true rfl) (by decide) ?_
  refine E_ic (t := 44) (b := false) at_X2_readWord_28 rfl ((cn_ne (nI_toInt (by omega)) (nI_toInt (by omega))).trans (decide_eq_false (by omega))) ?_
  refine E_aload_n at_X2_readWord_31 rfl ?_
  refine E_dup at_X2_readWord_32 rfl ?_
  refine E_getfield (v := .int (nI a)) at_X2_readWord_33 w34 rfl (by decide) rfl ?_
  refine E_iload at_X2_readWord_36 rfl ?_
  refine E_iadd (z := nI (a + 4)) at_X2_readWord_38 ((nI_add _ _).trans (congrArg nI (by omega))) ?_
  refine E_putfield (cs2 := (ww im lf s d k ls (-1) (nI n) (nI (a + 4)) rn rq lt m1 m2 m3 m4 bd fc hd sz el t g fm hm so si sh ce ca td wa kp la bf oo bo pw ow tr)) at_X2_readWord_39 w34 rfl (by decide) (Nat.le_of_ble_eq_true rfl) rfl rfl rfl rfl ?_
  refine E_iload_n at_X2_readWord_42 rfl ?_
  exact E_iret at_X2_readWord_43 rfl
set_option maxHeartbeats 1000000 in
theorem w_rw3 {e : List Int64} {n a : Nat} (hn : n ≤ 160) (ha : a ≤ n) (l_lt : lt.length = 160) (hlt : ∀ i, i < n → lt.getD i 0 = tw e i) (hw : wd e n a = 3) : Ev ab_Z0 3 21 [.ref 34] (ww im lf s d k ls (-1) (nI n) (nI a) rn rq lt m1 m2 m3 m4 bd fc hd sz el t g fm hm so si sh ce ca td wa kp la bf oo bo pw ow tr) (some (.int (nI 3)), (ww im lf s d k ls (-1) (nI n) (nI (a + 3)) rn rq lt m1 m2 m3 m4 bd fc hd sz el t g fm hm so si sh ce ca td wa kp la bf oo bo pw ow tr)) := by
  have hwc := wd_c e n a
  have hl0 := mj0_le e n a
  have hl1 := mj1_le e n a
  have hl2 := mj2_le e n a
  have hl3 := mj3_le e n a
  refine Ef.in (md := mX2_readWord) (L := [some (.ref 34), none, none, none, none]) rfl (Nat.le_of_ble_eq_true rfl) rfl ?_
  refine E_iconst (x := nI 0) at_X2_readWord_0 (by decide) ?_
  refine E_istore_n (L2 := [some (.ref 34), some (.int (nI 0)), none, none, none]) at_X2_readWord_1 rfl ?_
  refine E_iconst (x := nI 0) at_X2_readWord_2 (by decide) ?_
  refine E_istore_n (L2 := [some (.ref 34), some (.int (nI 0)), some (.int (nI 0)), none, none]) at_X2_readWord_3 rfl ?_
  refine E_iload_n at_X2_readWord_4 rfl ?_
  refine E_bipush (x := nI 7) at_X2_readWord_5 (by decide) ?_
  refine E_ic (t := 57) (b := false) at_X2_readWord_7 rfl (by decide) ?_
  refine E_iload_n at_X2_readWord_10 rfl ?_
  have e1 : Ev ab_Z0 1 22 [.int (nI 0)] (ww im lf s d k ls (-1) (nI n) (nI a) rn rq lt m1 m2 m3 m4 bd fc hd sz el t g fm hm so si sh ce ca td wa kp la bf oo bo pw ow tr) (some (.ref 2000000), (ww im lf s d k ls (-1) (nI n) (nI a) rn rq lt m1 m2 m3 m4 bd fc hd sz el t g fm hm so si sh ce ca td wa kp la bf oo bo pw ow tr)) := by
    refine Ef.in (md := mX2_spelt) (L := [some (.int (nI 0))]) rfl (Nat.le_of_ble_eq_true rfl) rfl ?_
    refine E_iload_n at_X2_spelt_0 rfl ?_
    refine E_tsIn (off := 39) (t := 40) at_X2_spelt_1 (by decide) rfl rfl ?_
    refine E_ldcS (t := 2000000) at_X2_spelt_40 (by decide) rfl ?_
    exact E_aret at_X2_spelt_42 rfl
  refine E_callS (v := some (.ref 2000000)) (As := [.int (nI 0)]) (r0 := []) (cs2 := (ww im lf s d k ls (-1) (nI n) (nI a) rn rq lt m1 m2 m3 m4 bd fc hd sz el t g fm hm so si sh ce ca td wa kp la bf oo bo pw ow tr)) at_X2_readWord_11 rfl rfl (Nat.le_of_ble_eq_true rfl) rfl e1 (by decide) rfl ?_
  refine E_astore_n (L2 := [some (.ref 34), some (.int (nI 0)), some (.int (nI 0)), some (.ref 2000000), none]) at_X2_readWord_14 rfl ?_
  refine E_aload_n at_X2_readWord_15 rfl ?_
  refine E_aload_n at_X2_readWord_16 rfl ?_
  refine E_callV (v := some (.int (nI (mj0 e n a)))) (As := [.ref 34, .ref 2000000]) (r0 := []) (cs2 := (ww im lf s d k ls (-1) (nI n) (nI a) rn rq lt m1 m2 m3 m4 bd fc hd sz el t g fm hm so si sh ce ca td wa kp la bf oo bo pw ow tr)) at_X2_readWord_17 rfl rfl (Nat.le_of_ble_eq_true rfl) rfl (ab_rvOf w34 rfl) (w_li0 hn ha l_lt hlt) (by decide) rfl ?_
  refine E_istore (L2 := [some (.ref 34), some (.int (nI 0)), some (.int (nI 0)), some (.ref 2000000), some (.int (nI (mj0 e n a)))]) at_X2_readWord_20 rfl ?_
  refine E_iload at_X2_readWord_22 rfl ?_
  refine E_aload_n at_X2_readWord_24 rfl ?_
  refine E_slen (z := nI 5) at_X2_readWord_25 (by decide) (Nat.le_of_ble_eq_true rfl) (by decide) ?_
  refine E_ic (t := 44) (b := true) at_X2_readWord_28 rfl ((cn_ne (nI_toInt (by omega)) (nI_toInt (by omega))).trans (decide_eq_true (by omega))) ?_
  refine E_iload_n at_X2_readWord_44 rfl ?_
  refine E_iload at_X2_readWord_45 rfl ?_
  refine E_max (z := nI (max (0) (mj0 e n a))) at_X2_readWord_47 (Nat.le_of_ble_eq_true rfl) (ab_maxN (by omega) (by omega)) ?_
  refine E_istore_n (L2 := [some (.ref 34), some (.int (nI (max (0) (mj0 e n a)))), some (.int (nI 0)), some (.ref 2000000), some (.int (nI (mj0 e n a)))]) at_X2_readWord_50 rfl ?_
  refine E_iinc (y := nI 1) (L2 := [some (.ref 34), some (.int (nI (max (0) (mj0 e n a)))), some (.int (nI 1)), some (.ref 2000000), some (.int (nI (mj0 e n a)))]) at_X2_readWord_51 rfl (by decide) rfl ?_
  refine E_goto (t := 4) at_X2_readWord_54 rfl ?_
  refine E_iload_n at_X2_readWord_4 rfl ?_
  refine E_bipush (x := nI 7) at_X2_readWord_5 (by decide) ?_
  refine E_ic (t := 57) (b := false) at_X2_readWord_7 rfl (by decide) ?_
  refine E_iload_n at_X2_readWord_10 rfl ?_
  have e2 : Ev ab_Z0 1 22 [.int (nI 1)] (ww im lf s d k ls (-1) (nI n) (nI a) rn rq lt m1 m2 m3 m4 bd fc hd sz el t g fm hm so si sh ce ca td wa kp la bf oo bo pw ow tr) (some (.ref 2000001), (ww im lf s d k ls (-1) (nI n) (nI a) rn rq lt m1 m2 m3 m4 bd fc hd sz el t g fm hm so si sh ce ca td wa kp la bf oo bo pw ow tr)) := by
    refine Ef.in (md := mX2_spelt) (L := [some (.int (nI 1))]) rfl (Nat.le_of_ble_eq_true rfl) rfl ?_
    refine E_iload_n at_X2_spelt_0 rfl ?_
    refine E_tsIn (off := 42) (t := 43) at_X2_spelt_1 (by decide) rfl rfl ?_
    refine E_ldcS (t := 2000001) at_X2_spelt_43 (by decide) rfl ?_
    exact E_aret at_X2_spelt_45 rfl
  refine E_callS (v := some (.ref 2000001)) (As := [.int (nI 1)]) (r0 := []) (cs2 := (ww im lf s d k ls (-1) (nI n) (nI a) rn rq lt m1 m2 m3 m4 bd fc hd sz el t g fm hm so si sh ce ca td wa kp la bf oo bo pw ow tr)) at_X2_readWord_11 rfl rfl (Nat.le_of_ble_eq_true rfl) rfl e2 (by decide) rfl ?_
  refine E_astore_n (L2 := [some (.ref 34), some (.int (nI (max (0) (mj0 e n a)))), some (.int (nI 1)), some (.ref 2000001), some (.int (nI (mj0 e n a)))]) at_X2_readWord_14 rfl ?_
  refine E_aload_n at_X2_readWord_15 rfl ?_
  refine E_aload_n at_X2_readWord_16 rfl ?_
  refine E_callV (v := some (.int (nI (mj1 e n a)))) (As := [.ref 34, .ref 2000001]) (r0 := []) (cs2 := (ww im lf s d k ls (-1) (nI n) (nI a) rn rq lt m1 m2 m3 m4 bd fc hd sz el t g fm hm so si sh ce ca td wa kp la bf oo bo pw ow tr)) at_X2_readWord_17 rfl rfl (Nat.le_of_ble_eq_true rfl) rfl (ab_rvOf w34 rfl) (w_li1 hn ha l_lt hlt) (by decide) rfl ?_
  refine E_istore (L2 := [some (.ref 34), some (.int (nI (max (0) (mj0 e n a)))), some (.int (nI 1)), some (.ref 2000001), some (.int (nI (mj1 e n a)))]) at_X2_readWord_20 rfl ?_
  refine E_iload at_X2_readWord_22 rfl ?_
  refine E_aload_n at_X2_readWord_24 rfl ?_
  refine E_slen (z := nI 6) at_X2_readWord_25 (by decide) (Nat.le_of_ble_eq_true rfl) (by decide) ?_
  refine E_ic (t := 44) (b := true) at_X2_readWord_28 rfl ((cn_ne (nI_toInt (by omega)) (nI_toInt (by omega))).trans (decide_eq_true (by omega))) ?_
  refine E_iload_n at_X2_readWord_44 rfl ?_
  refine E_iload at_X2_readWord_45 rfl ?_
  refine E_max (z := nI (max (max (0) (mj0 e n a)) (mj1 e n a))) at_X2_readWord_47 (Nat.le_of_ble_eq_true rfl) (ab_maxN (by omega) (by omega)) ?_
  refine E_istore_n (L2 := [some (.ref 34), some (.int (nI (max (max (0) (mj0 e n a)) (mj1 e n a)))), some (.int (nI 1)), some (.ref 2000001), some (.int (nI (mj1 e n a)))]) at_X2_readWord_50 rfl ?_
  refine E_iinc (y := nI 2) (L2 := [some (.ref 34), some (.int (nI (max (max (0) (mj0 e n a)) (mj1 e n a)))), some (.int (nI 2)), some (.ref 2000001), some (.int (nI (mj1 e n a)))]) at_X2_readWord_51 rfl (by decide) rfl ?_
  refine E_goto (t := 4) at_X2_readWord_54 rfl ?_
  refine E_iload_n at_X2_readWord_4 rfl ?_
  refine E_bipush (x := nI 7) at_X2_readWord_5 (by decide) ?_
  refine E_ic (t := 57) (b := false) at_X2_readWord_7 rfl (by decide) ?_
  refine E_iload_n at_X2_readWord_10 rfl ?_
  have e3 : Ev ab_Z0 1 22 [.int (nI 2)] (ww im lf s d k ls (-1) (nI n) (nI a) rn rq lt m1 m2 m3 m4 bd fc hd sz el t g fm hm so si sh ce ca td wa kp la bf oo bo pw ow tr) (some (.ref 2000002), (ww im lf s d k ls (-1) (nI n) (nI a) rn rq lt m1 m2 m3 m4 bd fc hd sz el t g fm hm so si sh ce ca td wa kp la bf oo bo pw ow tr)) := by
    refine Ef.in (md := mX2_spelt) (L := [some (.int (nI 2))]) rfl (Nat.le_of_ble_eq_true rfl) rfl ?_
    refine E_iload_n at_X2_spelt_0 rfl ?_
    refine E_tsIn (off := 45) (t := 46) at_X2_spelt_1 (by decide) rfl rfl ?_
    refine E_ldcS (t := 2000002) at_X2_spelt_46 (by decide) rfl ?_
    exact E_aret at_X2_spelt_48 rfl
  refine E_callS (v := some (.ref 2000002)) (As := [.int (nI 2)]) (r0 := []) (cs2 := (ww im lf s d k ls (-1) (nI n) (nI a) rn rq lt m1 m2 m3 m4 bd fc hd sz el t g fm hm so si sh ce ca td wa kp la bf oo bo pw ow tr)) at_X2_readWord_11 rfl rfl (Nat.le_of_ble_eq_true rfl) rfl e3 (by decide) rfl ?_
  refine E_astore_n (L2 := [some (.ref 34), some (.int (nI (max (max (0) (mj0 e n a)) (mj1 e n a)))), some (.int (nI 2)), some (.ref 2000002), some (.int (nI (mj1 e n a)))]) at_X2_readWord_14 rfl ?_
  refine E_aload_n at_X2_readWord_15 rfl ?_
  refine E_aload_n at_X2_readWord_16 rfl ?_
  refine E_callV (v := some (.int (nI (mj2 e n a)))) (As := [.ref 34, .ref 2000002]) (r0 := []) (cs2 := (ww im lf s d k ls (-1) (nI n) (nI a) rn rq lt m1 m2 m3 m4 bd fc hd sz el t g fm hm so si sh ce ca td wa kp la bf oo bo pw ow tr)) at_X2_readWord_17 rfl rfl (Nat.le_of_ble_eq_true rfl) rfl (ab_rvOf w34 rfl) (w_li2 hn ha l_lt hlt) (by decide) rfl ?_
  refine E_istore (L2 := [some (.ref 34), some (.int (nI (max (max (0) (mj0 e n a)) (mj1 e n a)))), some (.int (nI 2)), some (.ref 2000002), some (.int (nI (mj2 e n a)))]) at_X2_readWord_20 rfl ?_
  refine E_iload at_X2_readWord_22 rfl ?_
  refine E_aload_n at_X2_readWord_24 rfl ?_
  refine E_slen (z := nI 4) at_X2_readWord_25 (by decide) (Nat.le_of_ble_eq_true rfl) (by decide) ?_
  refine E_ic (t := 44) (b := true) at_X2_readWord_28 rfl ((cn_ne (nI_toInt (by omega)) (nI_toInt (by omega))).trans (decide_eq_true (by omega))) ?_
  refine E_iload_n at_X2_readWord_44 rfl ?_
  refine E_iload at_X2_readWord_45 rfl ?_
  refine E_max (z := nI (max (max (max (0) (mj0 e n a)) (mj1 e n a)) (mj2 e n a))) at_X2_readWord_47 (Nat.le_of_ble_eq_true rfl) (ab_maxN (by omega) (by omega)) ?_
  refine E_istore_n (L2 := [some (.ref 34), some (.int (nI (max (max (max (0) (mj0 e n a)) (mj1 e n a)) (mj2 e n a)))), some (.int (nI 2)), some (.ref 2000002), some (.int (nI (mj2 e n a)))]) at_X2_readWord_50 rfl ?_
  refine E_iinc (y := nI 3) (L2 := [some (.ref 34), some (.int (nI (max (max (max (0) (mj0 e n a)) (mj1 e n a)) (mj2 e n a)))), some (.int (nI 3)), some (.ref 2000002), some (.int (nI (mj2 e n a)))]) at_X2_readWord_51 rfl (by decide) rfl ?_
  refine E_goto (t := 4) at_X2_readWord_54 rfl ?_
  refine E_iload_n at_X2_readWord_4 rfl ?_
  refine E_bipush (x := nI 7) at_X2_readWord_5 (by decide) ?_
  refine E_ic (t := 57) (b := false) at_X2_readWord_7 rfl (by decide) ?_
  refine E_iload_n at_X2_readWord_10 rfl ?_
  have e4 : Ev ab_Z0 1 22 [.int (nI 3)] (ww im lf s d k ls (-1) (nI n) (nI a) rn rq lt m1 m2 m3 m4 bd fc hd sz el t g fm hm so si sh ce ca td wa kp la bf oo bo pw ow tr) (some (.ref 2000003), (ww im lf s d k ls (-1) (nI n) (nI a) rn rq lt m1 m2 m3 m4 bd fc hd sz el t g fm hm so si sh ce ca td wa kp la bf oo bo pw ow tr)) := by
    refine Ef.in (md := mX2_spelt) (L := [some (.int (nI 3))]) rfl (Nat.le_of_ble_eq_true rfl) rfl ?_
    refine E_iload_n at_X2_spelt_0 rfl ?_
    refine E_tsIn (off := 48) (t := 49) at_X2_spelt_1 (by decide) rfl rfl ?_
    refine E_ldcS (t := 2000003) at_X2_spelt_49 (by decide) rfl ?_
    exact E_aret at_X2_spelt_51 rfl
  refine E_callS (v := some (.ref 2000003)) (As := [.int (nI 3)]) (r0 := []) (cs2 := (ww im lf s d k ls (-1) (nI n) (nI a) rn rq lt m1 m2 m3 m4 bd fc hd sz el t g fm hm so si sh ce ca td wa kp la bf oo bo pw ow tr)) at_X2_readWord_11 rfl rfl (Nat.le_of_ble_eq_true rfl) rfl e4 (by decide) rfl ?_
  refine E_astore_n (L2 := [some (.ref 34), some (.int (nI (max (max (max (0) (mj0 e n a)) (mj1 e n a)) (mj2 e n a)))), some (.int (nI 3)), some (.ref 2000003), some (.int (nI (mj2 e n a)))]) at_X2_readWord_14 rfl ?_
  refine E_aload_n at_X2_readWord_15 rfl ?_
  refine E_aload_n at_X2_readWord_16 rfl ?_
  refine E_callV (v := some (.int (nI (mj3 e n a)))) (As := [.ref 34, .ref 2000003]) (r0 := []) (cs2 := (ww im lf s d k ls (-1) (nI n) (nI a) rn rq lt m1 m2 m3 m4 bd fc hd sz el t g fm hm so si sh ce ca td wa kp la bf oo bo pw ow tr)) at_X2_readWord_17 rfl rfl (Nat.le_of_ble_eq_true rfl) rfl (ab_rvOf w34 rfl) (w_li3 hn ha l_lt hlt) (by decide) rfl ?_
  refine E_istore (L2 := [some (.ref 34), some (.int (nI (max (max (max (0) (mj0 e n a)) (mj1 e n a)) (mj2 e n a)))), some (.int (nI 3)), some (.ref 2000003), some (.int (nI (mj3 e n a)))]) at_X2_readWord_20 rfl ?_
  refine E_iload at_X2_readWord_22 rfl ?_
  refine E_aload_n at_X2_readWord_24 rfl ?_
  refine E_slen (z := nI 3) at_X2_readWord_25 (by decide) (Nat.le_of_ble_eq_true rfl) (by decide) ?_
  refine E_ic (t := 44) (b := false) at_X2_readWord_28 rfl ((cn_ne (nI_toInt (by omega)) (nI_toInt (by omega))).trans (decide_eq_false (by omega))) ?_
  refine E_aload_n at_X2_readWord_31 rfl ?_
  refine E_dup at_X2_readWord_32 rfl ?_
  refine E_getfield (v := .int (nI a)) at_X2_readWord_33 w34 rfl (by decide) rfl ?_
  refine E_iload at_X2_readWord_36 rfl ?_
  refine E_iadd (z := nI (a + 3)) at_X2_readWord_38 ((nI_add _ _).trans (congrArg nI (by omega))) ?_
  refine E_putfield (cs2 := (ww im lf s d k ls (-1) (nI n) (nI (a + 3)) rn rq lt m1 m2 m3 m4 bd fc hd sz el t g fm hm so si sh ce ca td wa kp la bf oo bo pw ow tr)) at_X2_readWord_39 w34 rfl (by decide) (Nat.le_of_ble_eq_true rfl) rfl rfl rfl rfl ?_
  refine E_iload_n at_X2_readWord_42 rfl ?_
  exact E_iret at_X2_readWord_43 rfl
set_option maxHeartbeats 1000000 in
theorem w_rw4 {e : List Int64} {n a : Nat} (hn : n ≤ 160) (ha : a ≤ n) (l_lt : lt.length = 160) (hlt : ∀ i, i < n → lt.getD i 0 = tw e i) (hw : wd e n a = 4) : Ev ab_Z0 3 21 [.ref 34] (ww im lf s d k ls (-1) (nI n) (nI a) rn rq lt m1 m2 m3 m4 bd fc hd sz el t g fm hm so si sh ce ca td wa kp la bf oo bo pw ow tr) (some (.int (nI 4)), (ww im lf s d k ls (-1) (nI n) (nI (a + 4)) rn rq lt m1 m2 m3 m4 bd fc hd sz el t g fm hm so si sh ce ca td wa kp la bf oo bo pw ow tr)) := by
  have hwc := wd_c e n a
  have hl0 := mj0_le e n a
  have hl1 := mj1_le e n a
  have hl2 := mj2_le e n a
  have hl3 := mj3_le e n a
  have hl4 := mj4_le e n a
  refine Ef.in (md := mX2_readWord) (L := [some (.ref 34), none, none, none, none]) rfl (Nat.le_of_ble_eq_true rfl) rfl ?_
  refine E_iconst (x := nI 0) at_X2_readWord_0 (by decide) ?_
  refine E_istore_n (L2 := [some (.ref 34), some (.int (nI 0)), none, none, none]) at_X2_readWord_1 rfl ?_
  refine E_iconst (x := nI 0) at_X2_readWord_2 (by decide) ?_
  refine E_istore_n (L2 := [some (.ref 34), some (.int (nI 0)), some (.int (nI 0)), none, none]) at_X2_readWord_3 rfl ?_
  refine E_iload_n at_X2_readWord_4 rfl ?_
  refine E_bipush (x := nI 7) at_X2_readWord_5 (by decide) ?_
  refine E_ic (t := 57) (b := false) at_X2_readWord_7 rfl (by decide) ?_
  refine E_iload_n at_X2_readWord_10 rfl ?_
  have e1 : Ev ab_Z0 1 22 [.int (nI 0)] (ww im lf s d k ls (-1) (nI n) (nI a) rn rq lt m1 m2 m3 m4 bd fc hd sz el t g fm hm so si sh ce ca td wa kp la bf oo bo pw ow tr) (some (.ref 2000000), (ww im lf s d k ls (-1) (nI n) (nI a) rn rq lt m1 m2 m3 m4 bd fc hd sz el t g fm hm so si sh ce ca td wa kp la bf oo bo pw ow tr)) := by
    refine Ef.in (md := mX2_spelt) (L := [some (.int (nI 0))]) rfl (Nat.le_of_ble_eq_true rfl) rfl ?_
    refine E_iload_n at_X2_spelt_0 rfl ?_
    refine E_tsIn (off := 39) (t := 40) at_X2_spelt_1 (by decide) rfl rfl ?_
    refine E_ldcS (t := 2000000) at_X2_spelt_40 (by decide) rfl ?_
    exact E_aret at_X2_spelt_42 rfl
  refine E_callS (v := some (.ref 2000000)) (As := [.int (nI 0)]) (r0 := []) (cs2 := (ww im lf s d k ls (-1) (nI n) (nI a) rn rq lt m1 m2 m3 m4 bd fc hd sz el t g fm hm so si sh ce ca td wa kp la bf oo bo pw ow tr)) at_X2_readWord_11 rfl rfl (Nat.le_of_ble_eq_true rfl) rfl e1 (by decide) rfl ?_
  refine E_astore_n (L2 := [some (.ref 34), some (.int (nI 0)), some (.int (nI 0)), some (.ref 2000000), none]) at_X2_readWord_14 rfl ?_
  refine E_aload_n at_X2_readWord_15 rfl ?_
  refine E_aload_n at_X2_readWord_16 rfl ?_
  refine E_callV (v := some (.int (nI (mj0 e n a)))) (As := [.ref 34, .ref 2000000]) (r0 := []) (cs2 := (ww im lf s d k ls (-1) (nI n) (nI a) rn rq lt m1 m2 m3 m4 bd fc hd sz el t g fm hm so si sh ce ca td wa kp la bf oo bo pw ow tr)) at_X2_readWord_17 rfl rfl (Nat.le_of_ble_eq_true rfl) rfl (ab_rvOf w34 rfl) (w_li0 hn ha l_lt hlt) (by decide) rfl ?_
  refine E_istore (L2 := [some (.ref 34), some (.int (nI 0)), some (.int (nI 0)), some (.ref 2000000), some (.int (nI (mj0 e n a)))]) at_X2_readWord_20 rfl ?_
  refine E_iload at_X2_readWord_22 rfl ?_
  refine E_aload_n at_X2_readWord_24 rfl ?_
  refine E_slen (z := nI 5) at_X2_readWord_25 (by decide) (Nat.le_of_ble_eq_true rfl) (by decide) ?_
  refine E_ic (t := 44) (b := true) at_X2_readWord_28 rfl ((cn_ne (nI_toInt (by omega)) (nI_toInt (by omega))).trans (decide_eq_true (by omega))) ?_
  refine E_iload_n at_X2_readWord_44 rfl ?_
  refine E_iload at_X2_readWord_45 rfl ?_
  refine E_max (z := nI (max (0) (mj0 e n a))) at_X2_readWord_47 (Nat.le_of_ble_eq_true rfl) (ab_maxN (by omega) (by omega)) ?_
  refine E_istore_n (L2 := [some (.ref 34), some (.int (nI (max (0) (mj0 e n a)))), some (.int (nI 0)), some (.ref 2000000), some (.int (nI (mj0 e n a)))]) at_X2_readWord_50 rfl ?_
  refine E_iinc (y := nI 1) (L2 := [some (.ref 34), some (.int (nI (max (0) (mj0 e n a)))), some (.int (nI 1)), some (.ref 2000000), some (.int (nI (mj0 e n a)))]) at_X2_readWord_51 rfl (by decide) rfl ?_
  refine E_goto (t := 4) at_X2_readWord_54 rfl ?_
  refine E_iload_n at_X2_readWord_4 rfl ?_
  refine E_bipush (x := nI 7) at_X2_readWord_5 (by decide) ?_
  refine E_ic (t := 57) (b := false) at_X2_readWord_7 rfl (by decide) ?_
  refine E_iload_n at_X2_readWord_10 rfl ?_
  have e2 : Ev ab_Z0 1 22 [.int (nI 1)] (ww im lf s d k ls (-1) (nI n) (nI a) rn rq lt m1 m2 m3 m4 bd fc hd sz el t g fm hm so si sh ce ca td wa kp la bf oo bo pw ow tr) (some (.ref 2000001), (ww im lf s d k ls (-1) (nI n) (nI a) rn rq lt m1 m2 m3 m4 bd fc hd sz el t g fm hm so si sh ce ca td wa kp la bf oo bo pw ow tr)) := by
    refine Ef.in (md := mX2_spelt) (L := [some (.int (nI 1))]) rfl (Nat.le_of_ble_eq_true rfl) rfl ?_
    refine E_iload_n at_X2_spelt_0 rfl ?_
    refine E_tsIn (off := 42) (t := 43) at_X2_spelt_1 (by decide) rfl rfl ?_
    refine E_ldcS (t := 2000001) at_X2_spelt_43 (by decide) rfl ?_
    exact E_aret at_X2_spelt_45 rfl
  refine E_callS (v := some (.ref 2000001)) (As := [.int (nI 1)]) (r0 := []) (cs2 := (ww im lf s d k ls (-1) (nI n) (nI a) rn rq lt m1 m2 m3 m4 bd fc hd sz el t g fm hm so si sh ce ca td wa kp la bf oo bo pw ow tr)) at_X2_readWord_11 rfl rfl (Nat.le_of_ble_eq_true rfl) rfl e2 (by decide) rfl ?_
  refine E_astore_n (L2 := [some (.ref 34), some (.int (nI (max (0) (mj0 e n a)))), some (.int (nI 1)), some (.ref 2000001), some (.int (nI (mj0 e n a)))]) at_X2_readWord_14 rfl ?_
  refine E_aload_n at_X2_readWord_15 rfl ?_
  refine E_aload_n at_X2_readWord_16 rfl ?_
  refine E_callV (v := some (.int (nI (mj1 e n a)))) (As := [.ref 34, .ref 2000001]) (r0 := []) (cs2 := (ww im lf s d k ls (-1) (nI n) (nI a) rn rq lt m1 m2 m3 m4 bd fc hd sz el t g fm hm so si sh ce ca td wa kp la bf oo bo pw ow tr)) at_X2_readWord_17 rfl rfl (Nat.le_of_ble_eq_true rfl) rfl (ab_rvOf w34 rfl) (w_li1 hn ha l_lt hlt) (by decide) rfl ?_
  refine E_istore (L2 := [some (.ref 34), some (.int (nI (max (0) (mj0 e n a)))), some (.int (nI 1)), some (.ref 2000001), some (.int (nI (mj1 e n a)))]) at_X2_readWord_20 rfl ?_
  refine E_iload at_X2_readWord_22 rfl ?_
  refine E_aload_n at_X2_readWord_24 rfl ?_
  refine E_slen (z := nI 6) at_X2_readWord_25 (by decide) (Nat.le_of_ble_eq_true rfl) (by decide) ?_
  refine E_ic (t := 44) (b := true) at_X2_readWord_28 rfl ((cn_ne (nI_toInt (by omega)) (nI_toInt (by omega))).trans (decide_eq_true (by omega))) ?_
  refine E_iload_n at_X2_readWord_44 rfl ?_
  refine E_iload at_X2_readWord_45 rfl ?_
  refine E_max (z := nI (max (max (0) (mj0 e n a)) (mj1 e n a))) at_X2_readWord_47 (Nat.le_of_ble_eq_true rfl) (ab_maxN (by omega) (by omega)) ?_
  refine E_istore_n (L2 := [some (.ref 34), some (.int (nI (max (max (0) (mj0 e n a)) (mj1 e n a)))), some (.int (nI 1)), some (.ref 2000001), some (.int (nI (mj1 e n a)))]) at_X2_readWord_50 rfl ?_
  refine E_iinc (y := nI 2) (L2 := [some (.ref 34), some (.int (nI (max (max (0) (mj0 e n a)) (mj1 e n a)))), some (.int (nI 2)), some (.ref 2000001), some (.int (nI (mj1 e n a)))]) at_X2_readWord_51 rfl (by decide) rfl ?_
  refine E_goto (t := 4) at_X2_readWord_54 rfl ?_
  refine E_iload_n at_X2_readWord_4 rfl ?_
  refine E_bipush (x := nI 7) at_X2_readWord_5 (by decide) ?_
  refine E_ic (t := 57) (b := false) at_X2_readWord_7 rfl (by decide) ?_
  refine E_iload_n at_X2_readWord_10 rfl ?_
  have e3 : Ev ab_Z0 1 22 [.int (nI 2)] (ww im lf s d k ls (-1) (nI n) (nI a) rn rq lt m1 m2 m3 m4 bd fc hd sz el t g fm hm so si sh ce ca td wa kp la bf oo bo pw ow tr) (some (.ref 2000002), (ww im lf s d k ls (-1) (nI n) (nI a) rn rq lt m1 m2 m3 m4 bd fc hd sz el t g fm hm so si sh ce ca td wa kp la bf oo bo pw ow tr)) := by
    refine Ef.in (md := mX2_spelt) (L := [some (.int (nI 2))]) rfl (Nat.le_of_ble_eq_true rfl) rfl ?_
    refine E_iload_n at_X2_spelt_0 rfl ?_
    refine E_tsIn (off := 45) (t := 46) at_X2_spelt_1 (by decide) rfl rfl ?_
    refine E_ldcS (t := 2000002) at_X2_spelt_46 (by decide) rfl ?_
    exact E_aret at_X2_spelt_48 rfl
  refine E_callS (v := some (.ref 2000002)) (As := [.int (nI 2)]) (r0 := []) (cs2 := (ww im lf s d k ls (-1) (nI n) (nI a) rn rq lt m1 m2 m3 m4 bd fc hd sz el t g fm hm so si sh ce ca td wa kp la bf oo bo pw ow tr)) at_X2_readWord_11 rfl rfl (Nat.le_of_ble_eq_true rfl) rfl e3 (by decide) rfl ?_
  refine E_astore_n (L2 := [some (.ref 34), some (.int (nI (max (max (0) (mj0 e n a)) (mj1 e n a)))), some (.int (nI 2)), some (.ref 2000002), some (.int (nI (mj1 e n a)))]) at_X2_readWord_14 rfl ?_
  refine E_aload_n at_X2_readWord_15 rfl ?_
  refine E_aload_n at_X2_readWord_16 rfl ?_
  refine E_callV (v := some (.int (nI (mj2 e n a)))) (As := [.ref 34, .ref 2000002]) (r0 := []) (cs2 := (ww im lf s d k ls (-1) (nI n) (nI a) rn rq lt m1 m2 m3 m4 bd fc hd sz el t g fm hm so si sh ce ca td wa kp la bf oo bo pw ow tr)) at_X2_readWord_17 rfl rfl (Nat.le_of_ble_eq_true rfl) rfl (ab_rvOf w34 rfl) (w_li2 hn ha l_lt hlt) (by decide) rfl ?_
  refine E_istore (L2 := [some (.ref 34), some (.int (nI (max (max (0) (mj0 e n a)) (mj1 e n a)))), some (.int (nI 2)), some (.ref 2000002), some (.int (nI (mj2 e n a)))]) at_X2_readWord_20 rfl ?_
  refine E_iload at_X2_readWord_22 rfl ?_
  refine E_aload_n at_X2_readWord_24 rfl ?_
  refine E_slen (z := nI 4) at_X2_readWord_25 (by decide) (Nat.le_of_ble_eq_true rfl) (by decide) ?_
  refine E_ic (t := 44) (b := true) at_X2_readWord_28 rfl ((cn_ne (nI_toInt (by omega)) (nI_toInt (by omega))).trans (decide_eq_true (by omega))) ?_
  refine E_iload_n at_X2_readWord_44 rfl ?_
  refine E_iload at_X2_readWord_45 rfl ?_
  refine E_max (z := nI (max (max (max (0) (mj0 e n a)) (mj1 e n a)) (mj2 e n a))) at_X2_readWord_47 (Nat.le_of_ble_eq_true rfl) (ab_maxN (by omega) (by omega)) ?_
  refine E_istore_n (L2 := [some (.ref 34), some (.int (nI (max (max (max (0) (mj0 e n a)) (mj1 e n a)) (mj2 e n a)))), some (.int (nI 2)), some (.ref 2000002), some (.int (nI (mj2 e n a)))]) at_X2_readWord_50 rfl ?_
  refine E_iinc (y := nI 3) (L2 := [some (.ref 34), some (.int (nI (max (max (max (0) (mj0 e n a)) (mj1 e n a)) (mj2 e n a)))), some (.int (nI 3)), some (.ref 2000002), some (.int (nI (mj2 e n a)))]) at_X2_readWord_51 rfl (by decide) rfl ?_
  refine E_goto (t := 4) at_X2_readWord_54 rfl ?_
  refine E_iload_n at_X2_readWord_4 rfl ?_
  refine E_bipush (x := nI 7) at_X2_readWord_5 (by decide) ?_
  refine E_ic (t := 57) (b := false) at_X2_readWord_7 rfl (by decide) ?_
  refine E_iload_n at_X2_readWord_10 rfl ?_
  have e4 : Ev ab_Z0 1 22 [.int (nI 3)] (ww im lf s d k ls (-1) (nI n) (nI a) rn rq lt m1 m2 m3 m4 bd fc hd sz el t g fm hm so si sh ce ca td wa kp la bf oo bo pw ow tr) (some (.ref 2000003), (ww im lf s d k ls (-1) (nI n) (nI a) rn rq lt m1 m2 m3 m4 bd fc hd sz el t g fm hm so si sh ce ca td wa kp la bf oo bo pw ow tr)) := by
    refine Ef.in (md := mX2_spelt) (L := [some (.int (nI 3))]) rfl (Nat.le_of_ble_eq_true rfl) rfl ?_
    refine E_iload_n at_X2_spelt_0 rfl ?_
    refine E_tsIn (off := 48) (t := 49) at_X2_spelt_1 (by decide) rfl rfl ?_
    refine E_ldcS (t := 2000003) at_X2_spelt_49 (by decide) rfl ?_
    exact E_aret at_X2_spelt_51 rfl
  refine E_callS (v := some (.ref 2000003)) (As := [.int (nI 3)]) (r0 := []) (cs2 := (ww im lf s d k ls (-1) (nI n) (nI a) rn rq lt m1 m2 m3 m4 bd fc hd sz el t g fm hm so si sh ce ca td wa kp la bf oo bo pw ow tr)) at_X2_readWord_11 rfl rfl (Nat.le_of_ble_eq_true rfl) rfl e4 (by decide) rfl ?_
  refine E_astore_n (L2 := [some (.ref 34), some (.int (nI (max (max (max (0) (mj0 e n a)) (mj1 e n a)) (mj2 e n a)))), some (.int (nI 3)), some (.ref 2000003), some (.int (nI (mj2 e n a)))]) at_X2_readWord_14 rfl ?_
  refine E_aload_n at_X2_readWord_15 rfl ?_
  refine E_aload_n at_X2_readWord_16 rfl ?_
  refine E_callV (v := some (.int (nI (mj3 e n a)))) (As := [.ref 34, .ref 2000003]) (r0 := []) (cs2 := (ww im lf s d k ls (-1) (nI n) (nI a) rn rq lt m1 m2 m3 m4 bd fc hd sz el t g fm hm so si sh ce ca td wa kp la bf oo bo pw ow tr)) at_X2_readWord_17 rfl rfl (Nat.le_of_ble_eq_true rfl) rfl (ab_rvOf w34 rfl) (w_li3 hn ha l_lt hlt) (by decide) rfl ?_
  refine E_istore (L2 := [some (.ref 34), some (.int (nI (max (max (max (0) (mj0 e n a)) (mj1 e n a)) (mj2 e n a)))), some (.int (nI 3)), some (.ref 2000003), some (.int (nI (mj3 e n a)))]) at_X2_readWord_20 rfl ?_
  refine E_iload at_X2_readWord_22 rfl ?_
  refine E_aload_n at_X2_readWord_24 rfl ?_
  refine E_slen (z := nI 3) at_X2_readWord_25 (by decide) (Nat.le_of_ble_eq_true rfl) (by decide) ?_
  refine E_ic (t := 44) (b := true) at_X2_readWord_28 rfl ((cn_ne (nI_toInt (by omega)) (nI_toInt (by omega))).trans (decide_eq_true (by omega))) ?_
  refine E_iload_n at_X2_readWord_44 rfl ?_
  refine E_iload at_X2_readWord_45 rfl ?_
  refine E_max (z := nI (max (max (max (max (0) (mj0 e n a)) (mj1 e n a)) (mj2 e n a)) (mj3 e n a))) at_X2_readWord_47 (Nat.le_of_ble_eq_true rfl) (ab_maxN (by omega) (by omega)) ?_
  refine E_istore_n (L2 := [some (.ref 34), some (.int (nI (max (max (max (max (0) (mj0 e n a)) (mj1 e n a)) (mj2 e n a)) (mj3 e n a)))), some (.int (nI 3)), some (.ref 2000003), some (.int (nI (mj3 e n a)))]) at_X2_readWord_50 rfl ?_
  refine E_iinc (y := nI 4) (L2 := [some (.ref 34), some (.int (nI (max (max (max (max (0) (mj0 e n a)) (mj1 e n a)) (mj2 e n a)) (mj3 e n a)))), some (.int (nI 4)), some (.ref 2000003), some (.int (nI (mj3 e n a)))]) at_X2_readWord_51 rfl (by decide) rfl ?_
  refine E_goto (t := 4) at_X2_readWord_54 rfl ?_
  refine E_iload_n at_X2_readWord_4 rfl ?_
  refine E_bipush (x := nI 7) at_X2_readWord_5 (by decide) ?_
  refine E_ic (t := 57) (b := false) at_X2_readWord_7 rfl (by decide) ?_
  refine E_iload_n at_X2_readWord_10 rfl ?_
  have e5 : Ev ab_Z0 1 22 [.int (nI 4)] (ww im lf s d k ls (-1) (nI n) (nI a) rn rq lt m1 m2 m3 m4 bd fc hd sz el t g fm hm so si sh ce ca td wa kp la bf oo bo pw ow tr) (some (.ref 2000004), (ww im lf s d k ls (-1) (nI n) (nI a) rn rq lt m1 m2 m3 m4 bd fc hd sz el t g fm hm so si sh ce ca td wa kp la bf oo bo pw ow tr)) := by
    refine Ef.in (md := mX2_spelt) (L := [some (.int (nI 4))]) rfl (Nat.le_of_ble_eq_true rfl) rfl ?_
    refine E_iload_n at_X2_spelt_0 rfl ?_
    refine E_tsIn (off := 51) (t := 52) at_X2_spelt_1 (by decide) rfl rfl ?_
    refine E_ldcS (t := 2000004) at_X2_spelt_52 (by decide) rfl ?_
    exact E_aret at_X2_spelt_54 rfl
  refine E_callS (v := some (.ref 2000004)) (As := [.int (nI 4)]) (r0 := []) (cs2 := (ww im lf s d k ls (-1) (nI n) (nI a) rn rq lt m1 m2 m3 m4 bd fc hd sz el t g fm hm so si sh ce ca td wa kp la bf oo bo pw ow tr)) at_X2_readWord_11 rfl rfl (Nat.le_of_ble_eq_true rfl) rfl e5 (by decide) rfl ?_
  refine E_astore_n (L2 := [some (.ref 34), some (.int (nI (max (max (max (max (0) (mj0 e n a)) (mj1 e n a)) (mj2 e n a)) (mj3 e n a)))), some (.int (nI 4)), some (.ref 2000004), some (.int (nI (mj3 e n a)))]) at_X2_readWord_14 rfl ?_
  refine E_aload_n at_X2_readWord_15 rfl ?_
  refine E_aload_n at_X2_readWord_16 rfl ?_
  refine E_callV (v := some (.int (nI (mj4 e n a)))) (As := [.ref 34, .ref 2000004]) (r0 := []) (cs2 := (ww im lf s d k ls (-1) (nI n) (nI a) rn rq lt m1 m2 m3 m4 bd fc hd sz el t g fm hm so si sh ce ca td wa kp la bf oo bo pw ow tr)) at_X2_readWord_17 rfl rfl (Nat.le_of_ble_eq_true rfl) rfl (ab_rvOf w34 rfl) (w_li4 hn ha l_lt hlt) (by decide) rfl ?_
  refine E_istore (L2 := [some (.ref 34), some (.int (nI (max (max (max (max (0) (mj0 e n a)) (mj1 e n a)) (mj2 e n a)) (mj3 e n a)))), some (.int (nI 4)), some (.ref 2000004), some (.int (nI (mj4 e n a)))]) at_X2_readWord_20 rfl ?_
  refine E_iload at_X2_readWord_22 rfl ?_
  refine E_aload_n at_X2_readWord_24 rfl ?_
  refine E_slen (z := nI 4) at_X2_readWord_25 (by decide) (Nat.le_of_ble_eq_true rfl) (by decide) ?_
  refine E_ic (t := 44) (b := false) at_X2_readWord_28 rfl ((cn_ne (nI_toInt (by omega)) (nI_toInt (by omega))).trans (decide_eq_false (by omega))) ?_
  refine E_aload_n at_X2_readWord_31 rfl ?_
  refine E_dup at_X2_readWord_32 rfl ?_
  refine E_getfield (v := .int (nI a)) at_X2_readWord_33 w34 rfl (by decide) rfl ?_
  refine E_iload at_X2_readWord_36 rfl ?_
  refine E_iadd (z := nI (a + 4)) at_X2_readWord_38 ((nI_add _ _).trans (congrArg nI (by omega))) ?_
  refine E_putfield (cs2 := (ww im lf s d k ls (-1) (nI n) (nI (a + 4)) rn rq lt m1 m2 m3 m4 bd fc hd sz el t g fm hm so si sh ce ca td wa kp la bf oo bo pw ow tr)) at_X2_readWord_39 w34 rfl (by decide) (Nat.le_of_ble_eq_true rfl) rfl rfl rfl rfl ?_
  refine E_iload_n at_X2_readWord_42 rfl ?_
  exact E_iret at_X2_readWord_43 rfl
set_option maxHeartbeats 1000000 in
theorem w_rw5 {e : List Int64} {n a : Nat} (hn : n ≤ 160) (ha : a ≤ n) (l_lt : lt.length = 160) (hlt : ∀ i, i < n → lt.getD i 0 = tw e i) (hw : wd e n a = 5) : Ev ab_Z0 3 21 [.ref 34] (ww im lf s d k ls (-1) (nI n) (nI a) rn rq lt m1 m2 m3 m4 bd fc hd sz el t g fm hm so si sh ce ca td wa kp la bf oo bo pw ow tr) (some (.int (nI 5)), (ww im lf s d k ls (-1) (nI n) (nI (a + 6)) rn rq lt m1 m2 m3 m4 bd fc hd sz el t g fm hm so si sh ce ca td wa kp la bf oo bo pw ow tr)) := by
  have hwc := wd_c e n a
  have hl0 := mj0_le e n a
  have hl1 := mj1_le e n a
  have hl2 := mj2_le e n a
  have hl3 := mj3_le e n a
  have hl4 := mj4_le e n a
  have hl5 := mj5_le e n a
  refine Ef.in (md := mX2_readWord) (L := [some (.ref 34), none, none, none, none]) rfl (Nat.le_of_ble_eq_true rfl) rfl ?_
  refine E_iconst (x := nI 0) at_X2_readWord_0 (by decide) ?_
  refine E_istore_n (L2 := [some (.ref 34), some (.int (nI 0)), none, none, none]) at_X2_readWord_1 rfl ?_
  refine E_iconst (x := nI 0) at_X2_readWord_2 (by decide) ?_
  refine E_istore_n (L2 := [some (.ref 34), some (.int (nI 0)), some (.int (nI 0)), none, none]) at_X2_readWord_3 rfl ?_
  refine E_iload_n at_X2_readWord_4 rfl ?_
  refine E_bipush (x := nI 7) at_X2_readWord_5 (by decide) ?_
  refine E_ic (t := 57) (b := false) at_X2_readWord_7 rfl (by decide) ?_
  refine E_iload_n at_X2_readWord_10 rfl ?_
  have e1 : Ev ab_Z0 1 22 [.int (nI 0)] (ww im lf s d k ls (-1) (nI n) (nI a) rn rq lt m1 m2 m3 m4 bd fc hd sz el t g fm hm so si sh ce ca td wa kp la bf oo bo pw ow tr) (some (.ref 2000000), (ww im lf s d k ls (-1) (nI n) (nI a) rn rq lt m1 m2 m3 m4 bd fc hd sz el t g fm hm so si sh ce ca td wa kp la bf oo bo pw ow tr)) := by
    refine Ef.in (md := mX2_spelt) (L := [some (.int (nI 0))]) rfl (Nat.le_of_ble_eq_true rfl) rfl ?_
    refine E_iload_n at_X2_spelt_0 rfl ?_
    refine E_tsIn (off := 39) (t := 40) at_X2_spelt_1 (by decide) rfl rfl ?_
    refine E_ldcS (t := 2000000) at_X2_spelt_40 (by decide) rfl ?_
    exact E_aret at_X2_spelt_42 rfl
  refine E_callS (v := some (.ref 2000000)) (As := [.int (nI 0)]) (r0 := []) (cs2 := (ww im lf s d k ls (-1) (nI n) (nI a) rn rq lt m1 m2 m3 m4 bd fc hd sz el t g fm hm so si sh ce ca td wa kp la bf oo bo pw ow tr)) at_X2_readWord_11 rfl rfl (Nat.le_of_ble_eq_true rfl) rfl e1 (by decide) rfl ?_
  refine E_astore_n (L2 := [some (.ref 34), some (.int (nI 0)), some (.int (nI 0)), some (.ref 2000000), none]) at_X2_readWord_14 rfl ?_
  refine E_aload_n at_X2_readWord_15 rfl ?_
  refine E_aload_n at_X2_readWord_16 rfl ?_
  refine E_callV (v := some (.int (nI (mj0 e n a)))) (As := [.ref 34, .ref 2000000]) (r0 := []) (cs2 := (ww im lf s d k ls (-1) (nI n) (nI a) rn rq lt m1 m2 m3 m4 bd fc hd sz el t g fm hm so si sh ce ca td wa kp la bf oo bo pw ow tr)) at_X2_readWord_17 rfl rfl (Nat.le_of_ble_eq_true rfl) rfl (ab_rvOf w34 rfl) (w_li0 hn ha l_lt hlt) (by decide) rfl ?_
  refine E_istore (L2 := [some (.ref 34), some (.int (nI 0)), some (.int (nI 0)), some (.ref 2000000), some (.int (nI (mj0 e n a)))]) at_X2_readWord_20 rfl ?_
  refine E_iload at_X2_readWord_22 rfl ?_
  refine E_aload_n at_X2_readWord_24 rfl ?_
  refine E_slen (z := nI 5) at_X2_readWord_25 (by decide) (Nat.le_of_ble_eq_true rfl) (by decide) ?_
  refine E_ic (t := 44) (b := true) at_X2_readWord_28 rfl ((cn_ne (nI_toInt (by omega)) (nI_toInt (by omega))).trans (decide_eq_true (by omega))) ?_
  refine E_iload_n at_X2_readWord_44 rfl ?_
  refine E_iload at_X2_readWord_45 rfl ?_
  refine E_max (z := nI (max (0) (mj0 e n a))) at_X2_readWord_47 (Nat.le_of_ble_eq_true rfl) (ab_maxN (by omega) (by omega)) ?_
  refine E_istore_n (L2 := [some (.ref 34), some (.int (nI (max (0) (mj0 e n a)))), some (.int (nI 0)), some (.ref 2000000), some (.int (nI (mj0 e n a)))]) at_X2_readWord_50 rfl ?_
  refine E_iinc (y := nI 1) (L2 := [some (.ref 34), some (.int (nI (max (0) (mj0 e n a)))), some (.int (nI 1)), some (.ref 2000000), some (.int (nI (mj0 e n a)))]) at_X2_readWord_51 rfl (by decide) rfl ?_
  refine E_goto (t := 4) at_X2_readWord_54 rfl ?_
  refine E_iload_n at_X2_readWord_4 rfl ?_
  refine E_bipush (x := nI 7) at_X2_readWord_5 (by decide) ?_
  refine E_ic (t := 57) (b := false) at_X2_readWord_7 rfl (by decide) ?_
  refine E_iload_n at_X2_readWord_10 rfl ?_
  have e2 : Ev ab_Z0 1 22 [.int (nI 1)] (ww im lf s d k ls (-1) (nI n) (nI a) rn rq lt m1 m2 m3 m4 bd fc hd sz el t g fm hm so si sh ce ca td wa kp la bf oo bo pw ow tr) (some (.ref 2000001), (ww im lf s d k ls (-1) (nI n) (nI a) rn rq lt m1 m2 m3 m4 bd fc hd sz el t g fm hm so si sh ce ca td wa kp la bf oo bo pw ow tr)) := by
    refine Ef.in (md := mX2_spelt) (L := [some (.int (nI 1))]) rfl (Nat.le_of_ble_eq_true rfl) rfl ?_
    refine E_iload_n at_X2_spelt_0 rfl ?_
    refine E_tsIn (off := 42) (t := 43) at_X2_spelt_1 (by decide) rfl rfl ?_
    refine E_ldcS (t := 2000001) at_X2_spelt_43 (by decide) rfl ?_
    exact E_aret at_X2_spelt_45 rfl
  refine E_callS (v := some (.ref 2000001)) (As := [.int (nI 1)]) (r0 := []) (cs2 := (ww im lf s d k ls (-1) (nI n) (nI a) rn rq lt m1 m2 m3 m4 bd fc hd sz el t g fm hm so si sh ce ca td wa kp la bf oo bo pw ow tr)) at_X2_readWord_11 rfl rfl (Nat.le_of_ble_eq_true rfl) rfl e2 (by decide) rfl ?_
  refine E_astore_n (L2 := [some (.ref 34), some (.int (nI (max (0) (mj0 e n a)))), some (.int (nI 1)), some (.ref 2000001), some (.int (nI (mj0 e n a)))]) at_X2_readWord_14 rfl ?_
  refine E_aload_n at_X2_readWord_15 rfl ?_
  refine E_aload_n at_X2_readWord_16 rfl ?_
  refine E_callV (v := some (.int (nI (mj1 e n a)))) (As := [.ref 34, .ref 2000001]) (r0 := []) (cs2 := (ww im lf s d k ls (-1) (nI n) (nI a) rn rq lt m1 m2 m3 m4 bd fc hd sz el t g fm hm so si sh ce ca td wa kp la bf oo bo pw ow tr)) at_X2_readWord_17 rfl rfl (Nat.le_of_ble_eq_true rfl) rfl (ab_rvOf w34 rfl) (w_li1 hn ha l_lt hlt) (by decide) rfl ?_
  refine E_istore (L2 := [some (.ref 34), some (.int (nI (max (0) (mj0 e n a)))), some (.int (nI 1)), some (.ref 2000001), some (.int (nI (mj1 e n a)))]) at_X2_readWord_20 rfl ?_
  refine E_iload at_X2_readWord_22 rfl ?_
  refine E_aload_n at_X2_readWord_24 rfl ?_
  refine E_slen (z := nI 6) at_X2_readWord_25 (by decide) (Nat.le_of_ble_eq_true rfl) (by decide) ?_
  refine E_ic (t := 44) (b := true) at_X2_readWord_28 rfl ((cn_ne (nI_toInt (by omega)) (nI_toInt (by omega))).trans (decide_eq_true (by omega))) ?_
  refine E_iload_n at_X2_readWord_44 rfl ?_
  refine E_iload at_X2_readWord_45 rfl ?_
  refine E_max (z := nI (max (max (0) (mj0 e n a)) (mj1 e n a))) at_X2_readWord_47 (Nat.le_of_ble_eq_true rfl) (ab_maxN (by omega) (by omega)) ?_
  refine E_istore_n (L2 := [some (.ref 34), some (.int (nI (max (max (0) (mj0 e n a)) (mj1 e n a)))), some (.int (nI 1)), some (.ref 2000001), some (.int (nI (mj1 e n a)))]) at_X2_readWord_50 rfl ?_
  refine E_iinc (y := nI 2) (L2 := [some (.ref 34), some (.int (nI (max (max (0) (mj0 e n a)) (mj1 e n a)))), some (.int (nI 2)), some (.ref 2000001), some (.int (nI (mj1 e n a)))]) at_X2_readWord_51 rfl (by decide) rfl ?_
  refine E_goto (t := 4) at_X2_readWord_54 rfl ?_
  refine E_iload_n at_X2_readWord_4 rfl ?_
  refine E_bipush (x := nI 7) at_X2_readWord_5 (by decide) ?_
  refine E_ic (t := 57) (b := false) at_X2_readWord_7 rfl (by decide) ?_
  refine E_iload_n at_X2_readWord_10 rfl ?_
  have e3 : Ev ab_Z0 1 22 [.int (nI 2)] (ww im lf s d k ls (-1) (nI n) (nI a) rn rq lt m1 m2 m3 m4 bd fc hd sz el t g fm hm so si sh ce ca td wa kp la bf oo bo pw ow tr) (some (.ref 2000002), (ww im lf s d k ls (-1) (nI n) (nI a) rn rq lt m1 m2 m3 m4 bd fc hd sz el t g fm hm so si sh ce ca td wa kp la bf oo bo pw ow tr)) := by
    refine Ef.in (md := mX2_spelt) (L := [some (.int (nI 2))]) rfl (Nat.le_of_ble_eq_true rfl) rfl ?_
    refine E_iload_n at_X2_spelt_0 rfl ?_
    refine E_tsIn (off := 45) (t := 46) at_X2_spelt_1 (by decide) rfl rfl ?_
    refine E_ldcS (t := 2000002) at_X2_spelt_46 (by decide) rfl ?_
    exact E_aret at_X2_spelt_48 rfl
  refine E_callS (v := some (.ref 2000002)) (As := [.int (nI 2)]) (r0 := []) (cs2 := (ww im lf s d k ls (-1) (nI n) (nI a) rn rq lt m1 m2 m3 m4 bd fc hd sz el t g fm hm so si sh ce ca td wa kp la bf oo bo pw ow tr)) at_X2_readWord_11 rfl rfl (Nat.le_of_ble_eq_true rfl) rfl e3 (by decide) rfl ?_
  refine E_astore_n (L2 := [some (.ref 34), some (.int (nI (max (max (0) (mj0 e n a)) (mj1 e n a)))), some (.int (nI 2)), some (.ref 2000002), some (.int (nI (mj1 e n a)))]) at_X2_readWord_14 rfl ?_
  refine E_aload_n at_X2_readWord_15 rfl ?_
  refine E_aload_n at_X2_readWord_16 rfl ?_
  refine E_callV (v := some (.int (nI (mj2 e n a)))) (As := [.ref 34, .ref 2000002]) (r0 := []) (cs2 := (ww im lf s d k ls (-1) (nI n) (nI a) rn rq lt m1 m2 m3 m4 bd fc hd sz el t g fm hm so si sh ce ca td wa kp la bf oo bo pw ow tr)) at_X2_readWord_17 rfl rfl (Nat.le_of_ble_eq_true rfl) rfl (ab_rvOf w34 rfl) (w_li2 hn ha l_lt hlt) (by decide) rfl ?_
  refine E_istore (L2 := [some (.ref 34), some (.int (nI (max (max (0) (mj0 e n a)) (mj1 e n a)))), some (.int (nI 2)), some (.ref 2000002), some (.int (nI (mj2 e n a)))]) at_X2_readWord_20 rfl ?_
  refine E_iload at_X2_readWord_22 rfl ?_
  refine E_aload_n at_X2_readWord_24 rfl ?_
  refine E_slen (z := nI 4) at_X2_readWord_25 (by decide) (Nat.le_of_ble_eq_true rfl) (by decide) ?_
  refine E_ic (t := 44) (b := true) at_X2_readWord_28 rfl ((cn_ne (nI_toInt (by omega)) (nI_toInt (by omega))).trans (decide_eq_true (by omega))) ?_
  refine E_iload_n at_X2_readWord_44 rfl ?_
  refine E_iload at_X2_readWord_45 rfl ?_
  refine E_max (z := nI (max (max (max (0) (mj0 e n a)) (mj1 e n a)) (mj2 e n a))) at_X2_readWord_47 (Nat.le_of_ble_eq_true rfl) (ab_maxN (by omega) (by omega)) ?_
  refine E_istore_n (L2 := [some (.ref 34), some (.int (nI (max (max (max (0) (mj0 e n a)) (mj1 e n a)) (mj2 e n a)))), some (.int (nI 2)), some (.ref 2000002), some (.int (nI (mj2 e n a)))]) at_X2_readWord_50 rfl ?_
  refine E_iinc (y := nI 3) (L2 := [some (.ref 34), some (.int (nI (max (max (max (0) (mj0 e n a)) (mj1 e n a)) (mj2 e n a)))), some (.int (nI 3)), some (.ref 2000002), some (.int (nI (mj2 e n a)))]) at_X2_readWord_51 rfl (by decide) rfl ?_
  refine E_goto (t := 4) at_X2_readWord_54 rfl ?_
  refine E_iload_n at_X2_readWord_4 rfl ?_
  refine E_bipush (x := nI 7) at_X2_readWord_5 (by decide) ?_
  refine E_ic (t := 57) (b := false) at_X2_readWord_7 rfl (by decide) ?_
  refine E_iload_n at_X2_readWord_10 rfl ?_
  have e4 : Ev ab_Z0 1 22 [.int (nI 3)] (ww im lf s d k ls (-1) (nI n) (nI a) rn rq lt m1 m2 m3 m4 bd fc hd sz el t g fm hm so si sh ce ca td wa kp la bf oo bo pw ow tr) (some (.ref 2000003), (ww im lf s d k ls (-1) (nI n) (nI a) rn rq lt m1 m2 m3 m4 bd fc hd sz el t g fm hm so si sh ce ca td wa kp la bf oo bo pw ow tr)) := by
    refine Ef.in (md := mX2_spelt) (L := [some (.int (nI 3))]) rfl (Nat.le_of_ble_eq_true rfl) rfl ?_
    refine E_iload_n at_X2_spelt_0 rfl ?_
    refine E_tsIn (off := 48) (t := 49) at_X2_spelt_1 (by decide) rfl rfl ?_
    refine E_ldcS (t := 2000003) at_X2_spelt_49 (by decide) rfl ?_
    exact E_aret at_X2_spelt_51 rfl
  refine E_callS (v := some (.ref 2000003)) (As := [.int (nI 3)]) (r0 := []) (cs2 := (ww im lf s d k ls (-1) (nI n) (nI a) rn rq lt m1 m2 m3 m4 bd fc hd sz el t g fm hm so si sh ce ca td wa kp la bf oo bo pw ow tr)) at_X2_readWord_11 rfl rfl (Nat.le_of_ble_eq_true rfl) rfl e4 (by decide) rfl ?_
  refine E_astore_n (L2 := [some (.ref 34), some (.int (nI (max (max (max (0) (mj0 e n a)) (mj1 e n a)) (mj2 e n a)))), some (.int (nI 3)), some (.ref 2000003), some (.int (nI (mj2 e n a)))]) at_X2_readWord_14 rfl ?_
  refine E_aload_n at_X2_readWord_15 rfl ?_
  refine E_aload_n at_X2_readWord_16 rfl ?_
  refine E_callV (v := some (.int (nI (mj3 e n a)))) (As := [.ref 34, .ref 2000003]) (r0 := []) (cs2 := (ww im lf s d k ls (-1) (nI n) (nI a) rn rq lt m1 m2 m3 m4 bd fc hd sz el t g fm hm so si sh ce ca td wa kp la bf oo bo pw ow tr)) at_X2_readWord_17 rfl rfl (Nat.le_of_ble_eq_true rfl) rfl (ab_rvOf w34 rfl) (w_li3 hn ha l_lt hlt) (by decide) rfl ?_
  refine E_istore (L2 := [some (.ref 34), some (.int (nI (max (max (max (0) (mj0 e n a)) (mj1 e n a)) (mj2 e n a)))), some (.int (nI 3)), some (.ref 2000003), some (.int (nI (mj3 e n a)))]) at_X2_readWord_20 rfl ?_
  refine E_iload at_X2_readWord_22 rfl ?_
  refine E_aload_n at_X2_readWord_24 rfl ?_
  refine E_slen (z := nI 3) at_X2_readWord_25 (by decide) (Nat.le_of_ble_eq_true rfl) (by decide) ?_
  refine E_ic (t := 44) (b := true) at_X2_readWord_28 rfl ((cn_ne (nI_toInt (by omega)) (nI_toInt (by omega))).trans (decide_eq_true (by omega))) ?_
  refine E_iload_n at_X2_readWord_44 rfl ?_
  refine E_iload at_X2_readWord_45 rfl ?_
  refine E_max (z := nI (max (max (max (max (0) (mj0 e n a)) (mj1 e n a)) (mj2 e n a)) (mj3 e n a))) at_X2_readWord_47 (Nat.le_of_ble_eq_true rfl) (ab_maxN (by omega) (by omega)) ?_
  refine E_istore_n (L2 := [some (.ref 34), some (.int (nI (max (max (max (max (0) (mj0 e n a)) (mj1 e n a)) (mj2 e n a)) (mj3 e n a)))), some (.int (nI 3)), some (.ref 2000003), some (.int (nI (mj3 e n a)))]) at_X2_readWord_50 rfl ?_
  refine E_iinc (y := nI 4) (L2 := [some (.ref 34), some (.int (nI (max (max (max (max (0) (mj0 e n a)) (mj1 e n a)) (mj2 e n a)) (mj3 e n a)))), some (.int (nI 4)), some (.ref 2000003), some (.int (nI (mj3 e n a)))]) at_X2_readWord_51 rfl (by decide) rfl ?_
  refine E_goto (t := 4) at_X2_readWord_54 rfl ?_
  refine E_iload_n at_X2_readWord_4 rfl ?_
  refine E_bipush (x := nI 7) at_X2_readWord_5 (by decide) ?_
  refine E_ic (t := 57) (b := false) at_X2_readWord_7 rfl (by decide) ?_
  refine E_iload_n at_X2_readWord_10 rfl ?_
  have e5 : Ev ab_Z0 1 22 [.int (nI 4)] (ww im lf s d k ls (-1) (nI n) (nI a) rn rq lt m1 m2 m3 m4 bd fc hd sz el t g fm hm so si sh ce ca td wa kp la bf oo bo pw ow tr) (some (.ref 2000004), (ww im lf s d k ls (-1) (nI n) (nI a) rn rq lt m1 m2 m3 m4 bd fc hd sz el t g fm hm so si sh ce ca td wa kp la bf oo bo pw ow tr)) := by
    refine Ef.in (md := mX2_spelt) (L := [some (.int (nI 4))]) rfl (Nat.le_of_ble_eq_true rfl) rfl ?_
    refine E_iload_n at_X2_spelt_0 rfl ?_
    refine E_tsIn (off := 51) (t := 52) at_X2_spelt_1 (by decide) rfl rfl ?_
    refine E_ldcS (t := 2000004) at_X2_spelt_52 (by decide) rfl ?_
    exact E_aret at_X2_spelt_54 rfl
  refine E_callS (v := some (.ref 2000004)) (As := [.int (nI 4)]) (r0 := []) (cs2 := (ww im lf s d k ls (-1) (nI n) (nI a) rn rq lt m1 m2 m3 m4 bd fc hd sz el t g fm hm so si sh ce ca td wa kp la bf oo bo pw ow tr)) at_X2_readWord_11 rfl rfl (Nat.le_of_ble_eq_true rfl) rfl e5 (by decide) rfl ?_
  refine E_astore_n (L2 := [some (.ref 34), some (.int (nI (max (max (max (max (0) (mj0 e n a)) (mj1 e n a)) (mj2 e n a)) (mj3 e n a)))), some (.int (nI 4)), some (.ref 2000004), some (.int (nI (mj3 e n a)))]) at_X2_readWord_14 rfl ?_
  refine E_aload_n at_X2_readWord_15 rfl ?_
  refine E_aload_n at_X2_readWord_16 rfl ?_
  refine E_callV (v := some (.int (nI (mj4 e n a)))) (As := [.ref 34, .ref 2000004]) (r0 := []) (cs2 := (ww im lf s d k ls (-1) (nI n) (nI a) rn rq lt m1 m2 m3 m4 bd fc hd sz el t g fm hm so si sh ce ca td wa kp la bf oo bo pw ow tr)) at_X2_readWord_17 rfl rfl (Nat.le_of_ble_eq_true rfl) rfl (ab_rvOf w34 rfl) (w_li4 hn ha l_lt hlt) (by decide) rfl ?_
  refine E_istore (L2 := [some (.ref 34), some (.int (nI (max (max (max (max (0) (mj0 e n a)) (mj1 e n a)) (mj2 e n a)) (mj3 e n a)))), some (.int (nI 4)), some (.ref 2000004), some (.int (nI (mj4 e n a)))]) at_X2_readWord_20 rfl ?_
  refine E_iload at_X2_readWord_22 rfl ?_
  refine E_aload_n at_X2_readWord_24 rfl ?_
  refine E_slen (z := nI 4) at_X2_readWord_25 (by decide) (Nat.le_of_ble_eq_true rfl) (by decide) ?_
  refine E_ic (t := 44) (b := true) at_X2_readWord_28 rfl ((cn_ne (nI_toInt (by omega)) (nI_toInt (by omega))).trans (decide_eq_true (by omega))) ?_
  refine E_iload_n at_X2_readWord_44 rfl ?_
  refine E_iload at_X2_readWord_45 rfl ?_
  refine E_max (z := nI (max (max (max (max (max (0) (mj0 e n a)) (mj1 e n a)) (mj2 e n a)) (mj3 e n a)) (mj4 e n a))) at_X2_readWord_47 (Nat.le_of_ble_eq_true rfl) (ab_maxN (by omega) (by omega)) ?_
  refine E_istore_n (L2 := [some (.ref 34), some (.int (nI (max (max (max (max (max (0) (mj0 e n a)) (mj1 e n a)) (mj2 e n a)) (mj3 e n a)) (mj4 e n a)))), some (.int (nI 4)), some (.ref 2000004), some (.int (nI (mj4 e n a)))]) at_X2_readWord_50 rfl ?_
  refine E_iinc (y := nI 5) (L2 := [some (.ref 34), some (.int (nI (max (max (max (max (max (0) (mj0 e n a)) (mj1 e n a)) (mj2 e n a)) (mj3 e n a)) (mj4 e n a)))), some (.int (nI 5)), some (.ref 2000004), some (.int (nI (mj4 e n a)))]) at_X2_readWord_51 rfl (by decide) rfl ?_
  refine E_goto (t := 4) at_X2_readWord_54 rfl ?_
  refine E_iload_n at_X2_readWord_4 rfl ?_
  refine E_bipush (x := nI 7) at_X2_readWord_5 (by decide) ?_
  refine E_ic (t := 57) (b := false) at_X2_readWord_7 rfl (by decide) ?_
  refine E_iload_n at_X2_readWord_10 rfl ?_
  have e6 : Ev ab_Z0 1 22 [.int (nI 5)] (ww im lf s d k ls (-1) (nI n) (nI a) rn rq lt m1 m2 m3 m4 bd fc hd sz el t g fm hm so si sh ce ca td wa kp la bf oo bo pw ow tr) (some (.ref 2000005), (ww im lf s d k ls (-1) (nI n) (nI a) rn rq lt m1 m2 m3 m4 bd fc hd sz el t g fm hm so si sh ce ca td wa kp la bf oo bo pw ow tr)) := by
    refine Ef.in (md := mX2_spelt) (L := [some (.int (nI 5))]) rfl (Nat.le_of_ble_eq_true rfl) rfl ?_
    refine E_iload_n at_X2_spelt_0 rfl ?_
    refine E_tsIn (off := 54) (t := 55) at_X2_spelt_1 (by decide) rfl rfl ?_
    refine E_ldcS (t := 2000005) rfl (by decide) rfl ?_
    exact E_aret rfl rfl
  refine E_callS (v := some (.ref 2000005)) (As := [.int (nI 5)]) (r0 := []) (cs2 := (ww im lf s d k ls (-1) (nI n) (nI a) rn rq lt m1 m2 m3 m4 bd fc hd sz el t g fm hm so si sh ce ca td wa kp la bf oo bo pw ow tr)) at_X2_readWord_11 rfl rfl (Nat.le_of_ble_eq_true rfl) rfl e6 (by decide) rfl ?_
  refine E_astore_n (L2 := [some (.ref 34), some (.int (nI (max (max (max (max (max (0) (mj0 e n a)) (mj1 e n a)) (mj2 e n a)) (mj3 e n a)) (mj4 e n a)))), some (.int (nI 5)), some (.ref 2000005), some (.int (nI (mj4 e n a)))]) at_X2_readWord_14 rfl ?_
  refine E_aload_n at_X2_readWord_15 rfl ?_
  refine E_aload_n at_X2_readWord_16 rfl ?_
  refine E_callV (v := some (.int (nI (mj5 e n a)))) (As := [.ref 34, .ref 2000005]) (r0 := []) (cs2 := (ww im lf s d k ls (-1) (nI n) (nI a) rn rq lt m1 m2 m3 m4 bd fc hd sz el t g fm hm so si sh ce ca td wa kp la bf oo bo pw ow tr)) at_X2_readWord_17 rfl rfl (Nat.le_of_ble_eq_true rfl) rfl (ab_rvOf w34 rfl) (w_li5 hn ha l_lt hlt) (by decide) rfl ?_
  refine E_istore (L2 := [some (.ref 34), some (.int (nI (max (max (max (max (max (0) (mj0 e n a)) (mj1 e n a)) (mj2 e n a)) (mj3 e n a)) (mj4 e n a)))), some (.int (nI 5)), some (.ref 2000005), some (.int (nI (mj5 e n a)))]) at_X2_readWord_20 rfl ?_
  refine E_iload at_X2_readWord_22 rfl ?_
  refine E_aload_n at_X2_readWord_24 rfl ?_
  refine E_slen (z := nI 6) at_X2_readWord_25 (by decide) (Nat.le_of_ble_eq_true rfl) (by decide) ?_
  refine E_ic (t := 44) (b := false) at_X2_readWord_28 rfl ((cn_ne (nI_toInt (by omega)) (nI_toInt (by omega))).trans (decide_eq_false (by omega))) ?_
  refine E_aload_n at_X2_readWord_31 rfl ?_
  refine E_dup at_X2_readWord_32 rfl ?_
  refine E_getfield (v := .int (nI a)) at_X2_readWord_33 w34 rfl (by decide) rfl ?_
  refine E_iload at_X2_readWord_36 rfl ?_
  refine E_iadd (z := nI (a + 6)) at_X2_readWord_38 ((nI_add _ _).trans (congrArg nI (by omega))) ?_
  refine E_putfield (cs2 := (ww im lf s d k ls (-1) (nI n) (nI (a + 6)) rn rq lt m1 m2 m3 m4 bd fc hd sz el t g fm hm so si sh ce ca td wa kp la bf oo bo pw ow tr)) at_X2_readWord_39 w34 rfl (by decide) (Nat.le_of_ble_eq_true rfl) rfl rfl rfl rfl ?_
  refine E_iload_n at_X2_readWord_42 rfl ?_
  exact E_iret at_X2_readWord_43 rfl
set_option maxHeartbeats 1000000 in
theorem w_rw6 {e : List Int64} {n a : Nat} (hn : n ≤ 160) (ha : a ≤ n) (l_lt : lt.length = 160) (hlt : ∀ i, i < n → lt.getD i 0 = tw e i) (hw : wd e n a = 6) : Ev ab_Z0 3 21 [.ref 34] (ww im lf s d k ls (-1) (nI n) (nI a) rn rq lt m1 m2 m3 m4 bd fc hd sz el t g fm hm so si sh ce ca td wa kp la bf oo bo pw ow tr) (some (.int (nI 6)), (ww im lf s d k ls (-1) (nI n) (nI (a + 4)) rn rq lt m1 m2 m3 m4 bd fc hd sz el t g fm hm so si sh ce ca td wa kp la bf oo bo pw ow tr)) := by
  have hwc := wd_c e n a
  have hl0 := mj0_le e n a
  have hl1 := mj1_le e n a
  have hl2 := mj2_le e n a
  have hl3 := mj3_le e n a
  have hl4 := mj4_le e n a
  have hl5 := mj5_le e n a
  have hl6 := mj6_le e n a
  refine Ef.in (md := mX2_readWord) (L := [some (.ref 34), none, none, none, none]) rfl (Nat.le_of_ble_eq_true rfl) rfl ?_
  refine E_iconst (x := nI 0) at_X2_readWord_0 (by decide) ?_
  refine E_istore_n (L2 := [some (.ref 34), some (.int (nI 0)), none, none, none]) at_X2_readWord_1 rfl ?_
  refine E_iconst (x := nI 0) at_X2_readWord_2 (by decide) ?_
  refine E_istore_n (L2 := [some (.ref 34), some (.int (nI 0)), some (.int (nI 0)), none, none]) at_X2_readWord_3 rfl ?_
  refine E_iload_n at_X2_readWord_4 rfl ?_
  refine E_bipush (x := nI 7) at_X2_readWord_5 (by decide) ?_
  refine E_ic (t := 57) (b := false) at_X2_readWord_7 rfl (by decide) ?_
  refine E_iload_n at_X2_readWord_10 rfl ?_
  have e1 : Ev ab_Z0 1 22 [.int (nI 0)] (ww im lf s d k ls (-1) (nI n) (nI a) rn rq lt m1 m2 m3 m4 bd fc hd sz el t g fm hm so si sh ce ca td wa kp la bf oo bo pw ow tr) (some (.ref 2000000), (ww im lf s d k ls (-1) (nI n) (nI a) rn rq lt m1 m2 m3 m4 bd fc hd sz el t g fm hm so si sh ce ca td wa kp la bf oo bo pw ow tr)) := by
    refine Ef.in (md := mX2_spelt) (L := [some (.int (nI 0))]) rfl (Nat.le_of_ble_eq_true rfl) rfl ?_
    refine E_iload_n at_X2_spelt_0 rfl ?_
    refine E_tsIn (off := 39) (t := 40) at_X2_spelt_1 (by decide) rfl rfl ?_
    refine E_ldcS (t := 2000000) at_X2_spelt_40 (by decide) rfl ?_
    exact E_aret at_X2_spelt_42 rfl
  refine E_callS (v := some (.ref 2000000)) (As := [.int (nI 0)]) (r0 := []) (cs2 := (ww im lf s d k ls (-1) (nI n) (nI a) rn rq lt m1 m2 m3 m4 bd fc hd sz el t g fm hm so si sh ce ca td wa kp la bf oo bo pw ow tr)) at_X2_readWord_11 rfl rfl (Nat.le_of_ble_eq_true rfl) rfl e1 (by decide) rfl ?_
  refine E_astore_n (L2 := [some (.ref 34), some (.int (nI 0)), some (.int (nI 0)), some (.ref 2000000), none]) at_X2_readWord_14 rfl ?_
  refine E_aload_n at_X2_readWord_15 rfl ?_
  refine E_aload_n at_X2_readWord_16 rfl ?_
  refine E_callV (v := some (.int (nI (mj0 e n a)))) (As := [.ref 34, .ref 2000000]) (r0 := []) (cs2 := (ww im lf s d k ls (-1) (nI n) (nI a) rn rq lt m1 m2 m3 m4 bd fc hd sz el t g fm hm so si sh ce ca td wa kp la bf oo bo pw ow tr)) at_X2_readWord_17 rfl rfl (Nat.le_of_ble_eq_true rfl) rfl (ab_rvOf w34 rfl) (w_li0 hn ha l_lt hlt) (by decide) rfl ?_
  refine E_istore (L2 := [some (.ref 34), some (.int (nI 0)), some (.int (nI 0)), some (.ref 2000000), some (.int (nI (mj0 e n a)))]) at_X2_readWord_20 rfl ?_
  refine E_iload at_X2_readWord_22 rfl ?_
  refine E_aload_n at_X2_readWord_24 rfl ?_
  refine E_slen (z := nI 5) at_X2_readWord_25 (by decide) (Nat.le_of_ble_eq_true rfl) (by decide) ?_
  refine E_ic (t := 44) (b := true) at_X2_readWord_28 rfl ((cn_ne (nI_toInt (by omega)) (nI_toInt (by omega))).trans (decide_eq_true (by omega))) ?_
  refine E_iload_n at_X2_readWord_44 rfl ?_
  refine E_iload at_X2_readWord_45 rfl ?_
  refine E_max (z := nI (max (0) (mj0 e n a))) at_X2_readWord_47 (Nat.le_of_ble_eq_true rfl) (ab_maxN (by omega) (by omega)) ?_
  refine E_istore_n (L2 := [some (.ref 34), some (.int (nI (max (0) (mj0 e n a)))), some (.int (nI 0)), some (.ref 2000000), some (.int (nI (mj0 e n a)))]) at_X2_readWord_50 rfl ?_
  refine E_iinc (y := nI 1) (L2 := [some (.ref 34), some (.int (nI (max (0) (mj0 e n a)))), some (.int (nI 1)), some (.ref 2000000), some (.int (nI (mj0 e n a)))]) at_X2_readWord_51 rfl (by decide) rfl ?_
  refine E_goto (t := 4) at_X2_readWord_54 rfl ?_
  refine E_iload_n at_X2_readWord_4 rfl ?_
  refine E_bipush (x := nI 7) at_X2_readWord_5 (by decide) ?_
  refine E_ic (t := 57) (b := false) at_X2_readWord_7 rfl (by decide) ?_
  refine E_iload_n at_X2_readWord_10 rfl ?_
  have e2 : Ev ab_Z0 1 22 [.int (nI 1)] (ww im lf s d k ls (-1) (nI n) (nI a) rn rq lt m1 m2 m3 m4 bd fc hd sz el t g fm hm so si sh ce ca td wa kp la bf oo bo pw ow tr) (some (.ref 2000001), (ww im lf s d k ls (-1) (nI n) (nI a) rn rq lt m1 m2 m3 m4 bd fc hd sz el t g fm hm so si sh ce ca td wa kp la bf oo bo pw ow tr)) := by
    refine Ef.in (md := mX2_spelt) (L := [some (.int (nI 1))]) rfl (Nat.le_of_ble_eq_true rfl) rfl ?_
    refine E_iload_n at_X2_spelt_0 rfl ?_
    refine E_tsIn (off := 42) (t := 43) at_X2_spelt_1 (by decide) rfl rfl ?_
    refine E_ldcS (t := 2000001) at_X2_spelt_43 (by decide) rfl ?_
    exact E_aret at_X2_spelt_45 rfl
  refine E_callS (v := some (.ref 2000001)) (As := [.int (nI 1)]) (r0 := []) (cs2 := (ww im lf s d k ls (-1) (nI n) (nI a) rn rq lt m1 m2 m3 m4 bd fc hd sz el t g fm hm so si sh ce ca td wa kp la bf oo bo pw ow tr)) at_X2_readWord_11 rfl rfl (Nat.le_of_ble_eq_true rfl) rfl e2 (by decide) rfl ?_
  refine E_astore_n (L2 := [some (.ref 34), some (.int (nI (max (0) (mj0 e n a)))), some (.int (nI 1)), some (.ref 2000001), some (.int (nI (mj0 e n a)))]) at_X2_readWord_14 rfl ?_
  refine E_aload_n at_X2_readWord_15 rfl ?_
  refine E_aload_n at_X2_readWord_16 rfl ?_
  refine E_callV (v := some (.int (nI (mj1 e n a)))) (As := [.ref 34, .ref 2000001]) (r0 := []) (cs2 := (ww im lf s d k ls (-1) (nI n) (nI a) rn rq lt m1 m2 m3 m4 bd fc hd sz el t g fm hm so si sh ce ca td wa kp la bf oo bo pw ow tr)) at_X2_readWord_17 rfl rfl (Nat.le_of_ble_eq_true rfl) rfl (ab_rvOf w34 rfl) (w_li1 hn ha l_lt hlt) (by decide) rfl ?_
  refine E_istore (L2 := [some (.ref 34), some (.int (nI (max (0) (mj0 e n a)))), some (.int (nI 1)), some (.ref 2000001), some (.int (nI (mj1 e n a)))]) at_X2_readWord_20 rfl ?_
  refine E_iload at_X2_readWord_22 rfl ?_
  refine E_aload_n at_X2_readWord_24 rfl ?_
  refine E_slen (z := nI 6) at_X2_readWord_25 (by decide) (Nat.le_of_ble_eq_true rfl) (by decide) ?_
  refine E_ic (t := 44) (b := true) at_X2_readWord_28 rfl ((cn_ne (nI_toInt (by omega)) (nI_toInt (by omega))).trans (decide_eq_true (by omega))) ?_
  refine E_iload_n at_X2_readWord_44 rfl ?_
  refine E_iload at_X2_readWord_45 rfl ?_
  refine E_max (z := nI (max (max (0) (mj0 e n a)) (mj1 e n a))) at_X2_readWord_47 (Nat.le_of_ble_eq_true rfl) (ab_maxN (by omega) (by omega)) ?_
  refine E_istore_n (L2 := [some (.ref 34), some (.int (nI (max (max (0) (mj0 e n a)) (mj1 e n a)))), some (.int (nI 1)), some (.ref 2000001), some (.int (nI (mj1 e n a)))]) at_X2_readWord_50 rfl ?_
  refine E_iinc (y := nI 2) (L2 := [some (.ref 34), some (.int (nI (max (max (0) (mj0 e n a)) (mj1 e n a)))), some (.int (nI 2)), some (.ref 2000001), some (.int (nI (mj1 e n a)))]) at_X2_readWord_51 rfl (by decide) rfl ?_
  refine E_goto (t := 4) at_X2_readWord_54 rfl ?_
  refine E_iload_n at_X2_readWord_4 rfl ?_
  refine E_bipush (x := nI 7) at_X2_readWord_5 (by decide) ?_
  refine E_ic (t := 57) (b := false) at_X2_readWord_7 rfl (by decide) ?_
  refine E_iload_n at_X2_readWord_10 rfl ?_
  have e3 : Ev ab_Z0 1 22 [.int (nI 2)] (ww im lf s d k ls (-1) (nI n) (nI a) rn rq lt m1 m2 m3 m4 bd fc hd sz el t g fm hm so si sh ce ca td wa kp la bf oo bo pw ow tr) (some (.ref 2000002), (ww im lf s d k ls (-1) (nI n) (nI a) rn rq lt m1 m2 m3 m4 bd fc hd sz el t g fm hm so si sh ce ca td wa kp la bf oo bo pw ow tr)) := by
    refine Ef.in (md := mX2_spelt) (L := [some (.int (nI 2))]) rfl (Nat.le_of_ble_eq_true rfl) rfl ?_
    refine E_iload_n at_X2_spelt_0 rfl ?_
    refine E_tsIn (off := 45) (t := 46) at_X2_spelt_1 (by decide) rfl rfl ?_
    refine E_ldcS (t := 2000002) at_X2_spelt_46 (by decide) rfl ?_
    exact E_aret at_X2_spelt_48 rfl
  refine E_callS (v := some (.ref 2000002)) (As := [.int (nI 2)]) (r0 := []) (cs2 := (ww im lf s d k ls (-1) (nI n) (nI a) rn rq lt m1 m2 m3 m4 bd fc hd sz el t g fm hm so si sh ce ca td wa kp la bf oo bo pw ow tr)) at_X2_readWord_11 rfl rfl (Nat.le_of_ble_eq_true rfl) rfl e3 (by decide) rfl ?_
  refine E_astore_n (L2 := [some (.ref 34), some (.int (nI (max (max (0) (mj0 e n a)) (mj1 e n a)))), some (.int (nI 2)), some (.ref 2000002), some (.int (nI (mj1 e n a)))]) at_X2_readWord_14 rfl ?_
  refine E_aload_n at_X2_readWord_15 rfl ?_
  refine E_aload_n at_X2_readWord_16 rfl ?_
  refine E_callV (v := some (.int (nI (mj2 e n a)))) (As := [.ref 34, .ref 2000002]) (r0 := []) (cs2 := (ww im lf s d k ls (-1) (nI n) (nI a) rn rq lt m1 m2 m3 m4 bd fc hd sz el t g fm hm so si sh ce ca td wa kp la bf oo bo pw ow tr)) at_X2_readWord_17 rfl rfl (Nat.le_of_ble_eq_true rfl) rfl (ab_rvOf w34 rfl) (w_li2 hn ha l_lt hlt) (by decide) rfl ?_
  refine E_istore (L2 := [some (.ref 34), some (.int (nI (max (max (0) (mj0 e n a)) (mj1 e n a)))), some (.int (nI 2)), some (.ref 2000002), some (.int (nI (mj2 e n a)))]) at_X2_readWord_20 rfl ?_
  refine E_iload at_X2_readWord_22 rfl ?_
  refine E_aload_n at_X2_readWord_24 rfl ?_
  refine E_slen (z := nI 4) at_X2_readWord_25 (by decide) (Nat.le_of_ble_eq_true rfl) (by decide) ?_
  refine E_ic (t := 44) (b := true) at_X2_readWord_28 rfl ((cn_ne (nI_toInt (by omega)) (nI_toInt (by omega))).trans (decide_eq_true (by omega))) ?_
  refine E_iload_n at_X2_readWord_44 rfl ?_
  refine E_iload at_X2_readWord_45 rfl ?_
  refine E_max (z := nI (max (max (max (0) (mj0 e n a)) (mj1 e n a)) (mj2 e n a))) at_X2_readWord_47 (Nat.le_of_ble_eq_true rfl) (ab_maxN (by omega) (by omega)) ?_
  refine E_istore_n (L2 := [some (.ref 34), some (.int (nI (max (max (max (0) (mj0 e n a)) (mj1 e n a)) (mj2 e n a)))), some (.int (nI 2)), some (.ref 2000002), some (.int (nI (mj2 e n a)))]) at_X2_readWord_50 rfl ?_
  refine E_iinc (y := nI 3) (L2 := [some (.ref 34), some (.int (nI (max (max (max (0) (mj0 e n a)) (mj1 e n a)) (mj2 e n a)))), some (.int (nI 3)), some (.ref 2000002), some (.int (nI (mj2 e n a)))]) at_X2_readWord_51 rfl (by decide) rfl ?_
  refine E_goto (t := 4) at_X2_readWord_54 rfl ?_
  refine E_iload_n at_X2_readWord_4 rfl ?_
  refine E_bipush (x := nI 7) at_X2_readWord_5 (by decide) ?_
  refine E_ic (t := 57) (b := false) at_X2_readWord_7 rfl (by decide) ?_
  refine E_iload_n at_X2_readWord_10 rfl ?_
  have e4 : Ev ab_Z0 1 22 [.int (nI 3)] (ww im lf s d k ls (-1) (nI n) (nI a) rn rq lt m1 m2 m3 m4 bd fc hd sz el t g fm hm so si sh ce ca td wa kp la bf oo bo pw ow tr) (some (.ref 2000003), (ww im lf s d k ls (-1) (nI n) (nI a) rn rq lt m1 m2 m3 m4 bd fc hd sz el t g fm hm so si sh ce ca td wa kp la bf oo bo pw ow tr)) := by
    refine Ef.in (md := mX2_spelt) (L := [some (.int (nI 3))]) rfl (Nat.le_of_ble_eq_true rfl) rfl ?_
    refine E_iload_n at_X2_spelt_0 rfl ?_
    refine E_tsIn (off := 48) (t := 49) at_X2_spelt_1 (by decide) rfl rfl ?_
    refine E_ldcS (t := 2000003) at_X2_spelt_49 (by decide) rfl ?_
    exact E_aret at_X2_spelt_51 rfl
  refine E_callS (v := some (.ref 2000003)) (As := [.int (nI 3)]) (r0 := []) (cs2 := (ww im lf s d k ls (-1) (nI n) (nI a) rn rq lt m1 m2 m3 m4 bd fc hd sz el t g fm hm so si sh ce ca td wa kp la bf oo bo pw ow tr)) at_X2_readWord_11 rfl rfl (Nat.le_of_ble_eq_true rfl) rfl e4 (by decide) rfl ?_
  refine E_astore_n (L2 := [some (.ref 34), some (.int (nI (max (max (max (0) (mj0 e n a)) (mj1 e n a)) (mj2 e n a)))), some (.int (nI 3)), some (.ref 2000003), some (.int (nI (mj2 e n a)))]) at_X2_readWord_14 rfl ?_
  refine E_aload_n at_X2_readWord_15 rfl ?_
  refine E_aload_n at_X2_readWord_16 rfl ?_
  refine E_callV (v := some (.int (nI (mj3 e n a)))) (As := [.ref 34, .ref 2000003]) (r0 := []) (cs2 := (ww im lf s d k ls (-1) (nI n) (nI a) rn rq lt m1 m2 m3 m4 bd fc hd sz el t g fm hm so si sh ce ca td wa kp la bf oo bo pw ow tr)) at_X2_readWord_17 rfl rfl (Nat.le_of_ble_eq_true rfl) rfl (ab_rvOf w34 rfl) (w_li3 hn ha l_lt hlt) (by decide) rfl ?_
  refine E_istore (L2 := [some (.ref 34), some (.int (nI (max (max (max (0) (mj0 e n a)) (mj1 e n a)) (mj2 e n a)))), some (.int (nI 3)), some (.ref 2000003), some (.int (nI (mj3 e n a)))]) at_X2_readWord_20 rfl ?_
  refine E_iload at_X2_readWord_22 rfl ?_
  refine E_aload_n at_X2_readWord_24 rfl ?_
  refine E_slen (z := nI 3) at_X2_readWord_25 (by decide) (Nat.le_of_ble_eq_true rfl) (by decide) ?_
  refine E_ic (t := 44) (b := true) at_X2_readWord_28 rfl ((cn_ne (nI_toInt (by omega)) (nI_toInt (by omega))).trans (decide_eq_true (by omega))) ?_
  refine E_iload_n at_X2_readWord_44 rfl ?_
  refine E_iload at_X2_readWord_45 rfl ?_
  refine E_max (z := nI (max (max (max (max (0) (mj0 e n a)) (mj1 e n a)) (mj2 e n a)) (mj3 e n a))) at_X2_readWord_47 (Nat.le_of_ble_eq_true rfl) (ab_maxN (by omega) (by omega)) ?_
  refine E_istore_n (L2 := [some (.ref 34), some (.int (nI (max (max (max (max (0) (mj0 e n a)) (mj1 e n a)) (mj2 e n a)) (mj3 e n a)))), some (.int (nI 3)), some (.ref 2000003), some (.int (nI (mj3 e n a)))]) at_X2_readWord_50 rfl ?_
  refine E_iinc (y := nI 4) (L2 := [some (.ref 34), some (.int (nI (max (max (max (max (0) (mj0 e n a)) (mj1 e n a)) (mj2 e n a)) (mj3 e n a)))), some (.int (nI 4)), some (.ref 2000003), some (.int (nI (mj3 e n a)))]) at_X2_readWord_51 rfl (by decide) rfl ?_
  refine E_goto (t := 4) at_X2_readWord_54 rfl ?_
  refine E_iload_n at_X2_readWord_4 rfl ?_
  refine E_bipush (x := nI 7) at_X2_readWord_5 (by decide) ?_
  refine E_ic (t := 57) (b := false) at_X2_readWord_7 rfl (by decide) ?_
  refine E_iload_n at_X2_readWord_10 rfl ?_
  have e5 : Ev ab_Z0 1 22 [.int (nI 4)] (ww im lf s d k ls (-1) (nI n) (nI a) rn rq lt m1 m2 m3 m4 bd fc hd sz el t g fm hm so si sh ce ca td wa kp la bf oo bo pw ow tr) (some (.ref 2000004), (ww im lf s d k ls (-1) (nI n) (nI a) rn rq lt m1 m2 m3 m4 bd fc hd sz el t g fm hm so si sh ce ca td wa kp la bf oo bo pw ow tr)) := by
    refine Ef.in (md := mX2_spelt) (L := [some (.int (nI 4))]) rfl (Nat.le_of_ble_eq_true rfl) rfl ?_
    refine E_iload_n at_X2_spelt_0 rfl ?_
    refine E_tsIn (off := 51) (t := 52) at_X2_spelt_1 (by decide) rfl rfl ?_
    refine E_ldcS (t := 2000004) at_X2_spelt_52 (by decide) rfl ?_
    exact E_aret at_X2_spelt_54 rfl
  refine E_callS (v := some (.ref 2000004)) (As := [.int (nI 4)]) (r0 := []) (cs2 := (ww im lf s d k ls (-1) (nI n) (nI a) rn rq lt m1 m2 m3 m4 bd fc hd sz el t g fm hm so si sh ce ca td wa kp la bf oo bo pw ow tr)) at_X2_readWord_11 rfl rfl (Nat.le_of_ble_eq_true rfl) rfl e5 (by decide) rfl ?_
  refine E_astore_n (L2 := [some (.ref 34), some (.int (nI (max (max (max (max (0) (mj0 e n a)) (mj1 e n a)) (mj2 e n a)) (mj3 e n a)))), some (.int (nI 4)), some (.ref 2000004), some (.int (nI (mj3 e n a)))]) at_X2_readWord_14 rfl ?_
  refine E_aload_n at_X2_readWord_15 rfl ?_
  refine E_aload_n at_X2_readWord_16 rfl ?_
  refine E_callV (v := some (.int (nI (mj4 e n a)))) (As := [.ref 34, .ref 2000004]) (r0 := []) (cs2 := (ww im lf s d k ls (-1) (nI n) (nI a) rn rq lt m1 m2 m3 m4 bd fc hd sz el t g fm hm so si sh ce ca td wa kp la bf oo bo pw ow tr)) at_X2_readWord_17 rfl rfl (Nat.le_of_ble_eq_true rfl) rfl (ab_rvOf w34 rfl) (w_li4 hn ha l_lt hlt) (by decide) rfl ?_
  refine E_istore (L2 := [some (.ref 34), some (.int (nI (max (max (max (max (0) (mj0 e n a)) (mj1 e n a)) (mj2 e n a)) (mj3 e n a)))), some (.int (nI 4)), some (.ref 2000004), some (.int (nI (mj4 e n a)))]) at_X2_readWord_20 rfl ?_
  refine E_iload at_X2_readWord_22 rfl ?_
  refine E_aload_n at_X2_readWord_24 rfl ?_
  refine E_slen (z := nI 4) at_X2_readWord_25 (by decide) (Nat.le_of_ble_eq_true rfl) (by decide) ?_
  refine E_ic (t := 44) (b := true) at_X2_readWord_28 rfl ((cn_ne (nI_toInt (by omega)) (nI_toInt (by omega))).trans (decide_eq_true (by omega))) ?_
  refine E_iload_n at_X2_readWord_44 rfl ?_
  refine E_iload at_X2_readWord_45 rfl ?_
  refine E_max (z := nI (max (max (max (max (max (0) (mj0 e n a)) (mj1 e n a)) (mj2 e n a)) (mj3 e n a)) (mj4 e n a))) at_X2_readWord_47 (Nat.le_of_ble_eq_true rfl) (ab_maxN (by omega) (by omega)) ?_
  refine E_istore_n (L2 := [some (.ref 34), some (.int (nI (max (max (max (max (max (0) (mj0 e n a)) (mj1 e n a)) (mj2 e n a)) (mj3 e n a)) (mj4 e n a)))), some (.int (nI 4)), some (.ref 2000004), some (.int (nI (mj4 e n a)))]) at_X2_readWord_50 rfl ?_
  refine E_iinc (y := nI 5) (L2 := [some (.ref 34), some (.int (nI (max (max (max (max (max (0) (mj0 e n a)) (mj1 e n a)) (mj2 e n a)) (mj3 e n a)) (mj4 e n a)))), some (.int (nI 5)), some (.ref 2000004), some (.int (nI (mj4 e n a)))]) at_X2_readWord_51 rfl (by decide) rfl ?_
  refine E_goto (t := 4) at_X2_readWord_54 rfl ?_
  refine E_iload_n at_X2_readWord_4 rfl ?_
  refine E_bipush (x := nI 7) at_X2_readWord_5 (by decide) ?_
  refine E_ic (t := 57) (b := false) at_X2_readWord_7 rfl (by decide) ?_
  refine E_iload_n at_X2_readWord_10 rfl ?_
  have e6 : Ev ab_Z0 1 22 [.int (nI 5)] (ww im lf s d k ls (-1) (nI n) (nI a) rn rq lt m1 m2 m3 m4 bd fc hd sz el t g fm hm so si sh ce ca td wa kp la bf oo bo pw ow tr) (some (.ref 2000005), (ww im lf s d k ls (-1) (nI n) (nI a) rn rq lt m1 m2 m3 m4 bd fc hd sz el t g fm hm so si sh ce ca td wa kp la bf oo bo pw ow tr)) := by
    refine Ef.in (md := mX2_spelt) (L := [some (.int (nI 5))]) rfl (Nat.le_of_ble_eq_true rfl) rfl ?_
    refine E_iload_n at_X2_spelt_0 rfl ?_
    refine E_tsIn (off := 54) (t := 55) at_X2_spelt_1 (by decide) rfl rfl ?_
    refine E_ldcS (t := 2000005) rfl (by decide) rfl ?_
    exact E_aret rfl rfl
  refine E_callS (v := some (.ref 2000005)) (As := [.int (nI 5)]) (r0 := []) (cs2 := (ww im lf s d k ls (-1) (nI n) (nI a) rn rq lt m1 m2 m3 m4 bd fc hd sz el t g fm hm so si sh ce ca td wa kp la bf oo bo pw ow tr)) at_X2_readWord_11 rfl rfl (Nat.le_of_ble_eq_true rfl) rfl e6 (by decide) rfl ?_
  refine E_astore_n (L2 := [some (.ref 34), some (.int (nI (max (max (max (max (max (0) (mj0 e n a)) (mj1 e n a)) (mj2 e n a)) (mj3 e n a)) (mj4 e n a)))), some (.int (nI 5)), some (.ref 2000005), some (.int (nI (mj4 e n a)))]) at_X2_readWord_14 rfl ?_
  refine E_aload_n at_X2_readWord_15 rfl ?_
  refine E_aload_n at_X2_readWord_16 rfl ?_
  refine E_callV (v := some (.int (nI (mj5 e n a)))) (As := [.ref 34, .ref 2000005]) (r0 := []) (cs2 := (ww im lf s d k ls (-1) (nI n) (nI a) rn rq lt m1 m2 m3 m4 bd fc hd sz el t g fm hm so si sh ce ca td wa kp la bf oo bo pw ow tr)) at_X2_readWord_17 rfl rfl (Nat.le_of_ble_eq_true rfl) rfl (ab_rvOf w34 rfl) (w_li5 hn ha l_lt hlt) (by decide) rfl ?_
  refine E_istore (L2 := [some (.ref 34), some (.int (nI (max (max (max (max (max (0) (mj0 e n a)) (mj1 e n a)) (mj2 e n a)) (mj3 e n a)) (mj4 e n a)))), some (.int (nI 5)), some (.ref 2000005), some (.int (nI (mj5 e n a)))]) at_X2_readWord_20 rfl ?_
  refine E_iload at_X2_readWord_22 rfl ?_
  refine E_aload_n at_X2_readWord_24 rfl ?_
  refine E_slen (z := nI 6) at_X2_readWord_25 (by decide) (Nat.le_of_ble_eq_true rfl) (by decide) ?_
  refine E_ic (t := 44) (b := true) at_X2_readWord_28 rfl ((cn_ne (nI_toInt (by omega)) (nI_toInt (by omega))).trans (decide_eq_true (by omega))) ?_
  refine E_iload_n at_X2_readWord_44 rfl ?_
  refine E_iload at_X2_readWord_45 rfl ?_
  refine E_max (z := nI (max (max (max (max (max (max (0) (mj0 e n a)) (mj1 e n a)) (mj2 e n a)) (mj3 e n a)) (mj4 e n a)) (mj5 e n a))) at_X2_readWord_47 (Nat.le_of_ble_eq_true rfl) (ab_maxN (by omega) (by omega)) ?_
  refine E_istore_n (L2 := [some (.ref 34), some (.int (nI (max (max (max (max (max (max (0) (mj0 e n a)) (mj1 e n a)) (mj2 e n a)) (mj3 e n a)) (mj4 e n a)) (mj5 e n a)))), some (.int (nI 5)), some (.ref 2000005), some (.int (nI (mj5 e n a)))]) at_X2_readWord_50 rfl ?_
  refine E_iinc (y := nI 6) (L2 := [some (.ref 34), some (.int (nI (max (max (max (max (max (max (0) (mj0 e n a)) (mj1 e n a)) (mj2 e n a)) (mj3 e n a)) (mj4 e n a)) (mj5 e n a)))), some (.int (nI 6)), some (.ref 2000005), some (.int (nI (mj5 e n a)))]) at_X2_readWord_51 rfl (by decide) rfl ?_
  refine E_goto (t := 4) at_X2_readWord_54 rfl ?_
  refine E_iload_n at_X2_readWord_4 rfl ?_
  refine E_bipush (x := nI 7) at_X2_readWord_5 (by decide) ?_
  refine E_ic (t := 57) (b := false) at_X2_readWord_7 rfl (by decide) ?_
  refine E_iload_n at_X2_readWord_10 rfl ?_
  have e7 : Ev ab_Z0 1 22 [.int (nI 6)] (ww im lf s d k ls (-1) (nI n) (nI a) rn rq lt m1 m2 m3 m4 bd fc hd sz el t g fm hm so si sh ce ca td wa kp la bf oo bo pw ow tr) (some (.ref 2000006), (ww im lf s d k ls (-1) (nI n) (nI a) rn rq lt m1 m2 m3 m4 bd fc hd sz el t g fm hm so si sh ce ca td wa kp la bf oo bo pw ow tr)) := by
    refine Ef.in (md := mX2_spelt) (L := [some (.int (nI 6))]) rfl (Nat.le_of_ble_eq_true rfl) rfl ?_
    refine E_iload_n at_X2_spelt_0 rfl ?_
    refine E_tsOut (t := 58) at_X2_spelt_1 (by decide) rfl ?_
    refine E_ldcS (t := 2000006) rfl (by decide) rfl ?_
    exact E_aret rfl rfl
  refine E_callS (v := some (.ref 2000006)) (As := [.int (nI 6)]) (r0 := []) (cs2 := (ww im lf s d k ls (-1) (nI n) (nI a) rn rq lt m1 m2 m3 m4 bd fc hd sz el t g fm hm so si sh ce ca td wa kp la bf oo bo pw ow tr)) at_X2_readWord_11 rfl rfl (Nat.le_of_ble_eq_true rfl) rfl e7 (by decide) rfl ?_
  refine E_astore_n (L2 := [some (.ref 34), some (.int (nI (max (max (max (max (max (max (0) (mj0 e n a)) (mj1 e n a)) (mj2 e n a)) (mj3 e n a)) (mj4 e n a)) (mj5 e n a)))), some (.int (nI 6)), some (.ref 2000006), some (.int (nI (mj5 e n a)))]) at_X2_readWord_14 rfl ?_
  refine E_aload_n at_X2_readWord_15 rfl ?_
  refine E_aload_n at_X2_readWord_16 rfl ?_
  refine E_callV (v := some (.int (nI (mj6 e n a)))) (As := [.ref 34, .ref 2000006]) (r0 := []) (cs2 := (ww im lf s d k ls (-1) (nI n) (nI a) rn rq lt m1 m2 m3 m4 bd fc hd sz el t g fm hm so si sh ce ca td wa kp la bf oo bo pw ow tr)) at_X2_readWord_17 rfl rfl (Nat.le_of_ble_eq_true rfl) rfl (ab_rvOf w34 rfl) (w_li6 hn ha l_lt hlt) (by decide) rfl ?_
  refine E_istore (L2 := [some (.ref 34), some (.int (nI (max (max (max (max (max (max (0) (mj0 e n a)) (mj1 e n a)) (mj2 e n a)) (mj3 e n a)) (mj4 e n a)) (mj5 e n a)))), some (.int (nI 6)), some (.ref 2000006), some (.int (nI (mj6 e n a)))]) at_X2_readWord_20 rfl ?_
  refine E_iload at_X2_readWord_22 rfl ?_
  refine E_aload_n at_X2_readWord_24 rfl ?_
  refine E_slen (z := nI 4) at_X2_readWord_25 (by decide) (Nat.le_of_ble_eq_true rfl) (by decide) ?_
  refine E_ic (t := 44) (b := false) at_X2_readWord_28 rfl ((cn_ne (nI_toInt (by omega)) (nI_toInt (by omega))).trans (decide_eq_false (by omega))) ?_
  refine E_aload_n at_X2_readWord_31 rfl ?_
  refine E_dup at_X2_readWord_32 rfl ?_
  refine E_getfield (v := .int (nI a)) at_X2_readWord_33 w34 rfl (by decide) rfl ?_
  refine E_iload at_X2_readWord_36 rfl ?_
  refine E_iadd (z := nI (a + 4)) at_X2_readWord_38 ((nI_add _ _).trans (congrArg nI (by omega))) ?_
  refine E_putfield (cs2 := (ww im lf s d k ls (-1) (nI n) (nI (a + 4)) rn rq lt m1 m2 m3 m4 bd fc hd sz el t g fm hm so si sh ce ca td wa kp la bf oo bo pw ow tr)) at_X2_readWord_39 w34 rfl (by decide) (Nat.le_of_ble_eq_true rfl) rfl rfl rfl rfl ?_
  refine E_iload_n at_X2_readWord_42 rfl ?_
  exact E_iret at_X2_readWord_43 rfl
set_option maxHeartbeats 1000000 in
theorem w_rw7 {e : List Int64} {n a : Nat} (hn : n ≤ 160) (ha : a ≤ n) (l_lt : lt.length = 160) (hlt : ∀ i, i < n → lt.getD i 0 = tw e i) (hw : wd e n a = 7) : Ev ab_Z0 3 21 [.ref 34] (ww im lf s d k ls (-1) (nI n) (nI a) rn rq lt m1 m2 m3 m4 bd fc hd sz el t g fm hm so si sh ce ca td wa kp la bf oo bo pw ow tr) (some (.int (-1)), (ww im lf s d k ls (nI (a + mxL e n a)) (nI n) (nI a) rn rq lt m1 m2 m3 m4 bd fc hd sz el t g fm hm so si sh ce ca td wa kp la bf oo bo pw ow tr)) := by
  have hwc := wd_c e n a
  show Ev ab_Z0 3 21 [.ref 34] (ww im lf s d k ls (-1) (nI n) (nI a) rn rq lt m1 m2 m3 m4 bd fc hd sz el t g fm hm so si sh ce ca td wa kp la bf oo bo pw ow tr) (some (.int (-1)), (ww im lf s d k ls (nI (a + (max (max (max (max (max (max (max (0) (mj0 e n a)) (mj1 e n a)) (mj2 e n a)) (mj3 e n a)) (mj4 e n a)) (mj5 e n a)) (mj6 e n a)))) (nI n) (nI a) rn rq lt m1 m2 m3 m4 bd fc hd sz el t g fm hm so si sh ce ca td wa kp la bf oo bo pw ow tr))
  have hl0 := mj0_le e n a
  have hl1 := mj1_le e n a
  have hl2 := mj2_le e n a
  have hl3 := mj3_le e n a
  have hl4 := mj4_le e n a
  have hl5 := mj5_le e n a
  have hl6 := mj6_le e n a
  refine Ef.in (md := mX2_readWord) (L := [some (.ref 34), none, none, none, none]) rfl (Nat.le_of_ble_eq_true rfl) rfl ?_
  refine E_iconst (x := nI 0) at_X2_readWord_0 (by decide) ?_
  refine E_istore_n (L2 := [some (.ref 34), some (.int (nI 0)), none, none, none]) at_X2_readWord_1 rfl ?_
  refine E_iconst (x := nI 0) at_X2_readWord_2 (by decide) ?_
  refine E_istore_n (L2 := [some (.ref 34), some (.int (nI 0)), some (.int (nI 0)), none, none]) at_X2_readWord_3 rfl ?_
  refine E_iload_n at_X2_readWord_4 rfl ?_
  refine E_bipush (x := nI 7) at_X2_readWord_5 (by decide) ?_
  refine E_ic (t := 57) (b := false) at_X2_readWord_7 rfl (by decide) ?_
  refine E_iload_n at_X2_readWord_10 rfl ?_
  have e1 : Ev ab_Z0 1 22 [.int (nI 0)] (ww im lf s d k ls (-1) (nI n) (nI a) rn rq lt m1 m2 m3 m4 bd fc hd sz el t g fm hm so si sh ce ca td wa kp la bf oo bo pw ow tr) (some (.ref 2000000), (ww im lf s d k ls (-1) (nI n) (nI a) rn rq lt m1 m2 m3 m4 bd fc hd sz el t g fm hm so si sh ce ca td wa kp la bf oo bo pw ow tr)) := by
    refine Ef.in (md := mX2_spelt) (L := [some (.int (nI 0))]) rfl (Nat.le_of_ble_eq_true rfl) rfl ?_
    refine E_iload_n at_X2_spelt_0 rfl ?_
    refine E_tsIn (off := 39) (t := 40) at_X2_spelt_1 (by decide) rfl rfl ?_
    refine E_ldcS (t := 2000000) at_X2_spelt_40 (by decide) rfl ?_
    exact E_aret at_X2_spelt_42 rfl
  refine E_callS (v := some (.ref 2000000)) (As := [.int (nI 0)]) (r0 := []) (cs2 := (ww im lf s d k ls (-1) (nI n) (nI a) rn rq lt m1 m2 m3 m4 bd fc hd sz el t g fm hm so si sh ce ca td wa kp la bf oo bo pw ow tr)) at_X2_readWord_11 rfl rfl (Nat.le_of_ble_eq_true rfl) rfl e1 (by decide) rfl ?_
  refine E_astore_n (L2 := [some (.ref 34), some (.int (nI 0)), some (.int (nI 0)), some (.ref 2000000), none]) at_X2_readWord_14 rfl ?_
  refine E_aload_n at_X2_readWord_15 rfl ?_
  refine E_aload_n at_X2_readWord_16 rfl ?_
  refine E_callV (v := some (.int (nI (mj0 e n a)))) (As := [.ref 34, .ref 2000000]) (r0 := []) (cs2 := (ww im lf s d k ls (-1) (nI n) (nI a) rn rq lt m1 m2 m3 m4 bd fc hd sz el t g fm hm so si sh ce ca td wa kp la bf oo bo pw ow tr)) at_X2_readWord_17 rfl rfl (Nat.le_of_ble_eq_true rfl) rfl (ab_rvOf w34 rfl) (w_li0 hn ha l_lt hlt) (by decide) rfl ?_
  refine E_istore (L2 := [some (.ref 34), some (.int (nI 0)), some (.int (nI 0)), some (.ref 2000000), some (.int (nI (mj0 e n a)))]) at_X2_readWord_20 rfl ?_
  refine E_iload at_X2_readWord_22 rfl ?_
  refine E_aload_n at_X2_readWord_24 rfl ?_
  refine E_slen (z := nI 5) at_X2_readWord_25 (by decide) (Nat.le_of_ble_eq_true rfl) (by decide) ?_
  refine E_ic (t := 44) (b := true) at_X2_readWord_28 rfl ((cn_ne (nI_toInt (by omega)) (nI_toInt (by omega))).trans (decide_eq_true (by omega))) ?_
  refine E_iload_n at_X2_readWord_44 rfl ?_
  refine E_iload at_X2_readWord_45 rfl ?_
  refine E_max (z := nI (max (0) (mj0 e n a))) at_X2_readWord_47 (Nat.le_of_ble_eq_true rfl) (ab_maxN (by omega) (by omega)) ?_
  refine E_istore_n (L2 := [some (.ref 34), some (.int (nI (max (0) (mj0 e n a)))), some (.int (nI 0)), some (.ref 2000000), some (.int (nI (mj0 e n a)))]) at_X2_readWord_50 rfl ?_
  refine E_iinc (y := nI 1) (L2 := [some (.ref 34), some (.int (nI (max (0) (mj0 e n a)))), some (.int (nI 1)), some (.ref 2000000), some (.int (nI (mj0 e n a)))]) at_X2_readWord_51 rfl (by decide) rfl ?_
  refine E_goto (t := 4) at_X2_readWord_54 rfl ?_
  refine E_iload_n at_X2_readWord_4 rfl ?_
  refine E_bipush (x := nI 7) at_X2_readWord_5 (by decide) ?_
  refine E_ic (t := 57) (b := false) at_X2_readWord_7 rfl (by decide) ?_
  refine E_iload_n at_X2_readWord_10 rfl ?_
  have e2 : Ev ab_Z0 1 22 [.int (nI 1)] (ww im lf s d k ls (-1) (nI n) (nI a) rn rq lt m1 m2 m3 m4 bd fc hd sz el t g fm hm so si sh ce ca td wa kp la bf oo bo pw ow tr) (some (.ref 2000001), (ww im lf s d k ls (-1) (nI n) (nI a) rn rq lt m1 m2 m3 m4 bd fc hd sz el t g fm hm so si sh ce ca td wa kp la bf oo bo pw ow tr)) := by
    refine Ef.in (md := mX2_spelt) (L := [some (.int (nI 1))]) rfl (Nat.le_of_ble_eq_true rfl) rfl ?_
    refine E_iload_n at_X2_spelt_0 rfl ?_
    refine E_tsIn (off := 42) (t := 43) at_X2_spelt_1 (by decide) rfl rfl ?_
    refine E_ldcS (t := 2000001) at_X2_spelt_43 (by decide) rfl ?_
    exact E_aret at_X2_spelt_45 rfl
  refine E_callS (v := some (.ref 2000001)) (As := [.int (nI 1)]) (r0 := []) (cs2 := (ww im lf s d k ls (-1) (nI n) (nI a) rn rq lt m1 m2 m3 m4 bd fc hd sz el t g fm hm so si sh ce ca td wa kp la bf oo bo pw ow tr)) at_X2_readWord_11 rfl rfl (Nat.le_of_ble_eq_true rfl) rfl e2 (by decide) rfl ?_
  refine E_astore_n (L2 := [some (.ref 34), some (.int (nI (max (0) (mj0 e n a)))), some (.int (nI 1)), some (.ref 2000001), some (.int (nI (mj0 e n a)))]) at_X2_readWord_14 rfl ?_
  refine E_aload_n at_X2_readWord_15 rfl ?_
  refine E_aload_n at_X2_readWord_16 rfl ?_
  refine E_callV (v := some (.int (nI (mj1 e n a)))) (As := [.ref 34, .ref 2000001]) (r0 := []) (cs2 := (ww im lf s d k ls (-1) (nI n) (nI a) rn rq lt m1 m2 m3 m4 bd fc hd sz el t g fm hm so si sh ce ca td wa kp la bf oo bo pw ow tr)) at_X2_readWord_17 rfl rfl (Nat.le_of_ble_eq_true rfl) rfl (ab_rvOf w34 rfl) (w_li1 hn ha l_lt hlt) (by decide) rfl ?_
  refine E_istore (L2 := [some (.ref 34), some (.int (nI (max (0) (mj0 e n a)))), some (.int (nI 1)), some (.ref 2000001), some (.int (nI (mj1 e n a)))]) at_X2_readWord_20 rfl ?_
  refine E_iload at_X2_readWord_22 rfl ?_
  refine E_aload_n at_X2_readWord_24 rfl ?_
  refine E_slen (z := nI 6) at_X2_readWord_25 (by decide) (Nat.le_of_ble_eq_true rfl) (by decide) ?_
  refine E_ic (t := 44) (b := true) at_X2_readWord_28 rfl ((cn_ne (nI_toInt (by omega)) (nI_toInt (by omega))).trans (decide_eq_true (by omega))) ?_
  refine E_iload_n at_X2_readWord_44 rfl ?_
  refine E_iload at_X2_readWord_45 rfl ?_
  refine E_max (z := nI (max (max (0) (mj0 e n a)) (mj1 e n a))) at_X2_readWord_47 (Nat.le_of_ble_eq_true rfl) (ab_maxN (by omega) (by omega)) ?_
  refine E_istore_n (L2 := [some (.ref 34), some (.int (nI (max (max (0) (mj0 e n a)) (mj1 e n a)))), some (.int (nI 1)), some (.ref 2000001), some (.int (nI (mj1 e n a)))]) at_X2_readWord_50 rfl ?_
  refine E_iinc (y := nI 2) (L2 := [some (.ref 34), some (.int (nI (max (max (0) (mj0 e n a)) (mj1 e n a)))), some (.int (nI 2)), some (.ref 2000001), some (.int (nI (mj1 e n a)))]) at_X2_readWord_51 rfl (by decide) rfl ?_
  refine E_goto (t := 4) at_X2_readWord_54 rfl ?_
  refine E_iload_n at_X2_readWord_4 rfl ?_
  refine E_bipush (x := nI 7) at_X2_readWord_5 (by decide) ?_
  refine E_ic (t := 57) (b := false) at_X2_readWord_7 rfl (by decide) ?_
  refine E_iload_n at_X2_readWord_10 rfl ?_
  have e3 : Ev ab_Z0 1 22 [.int (nI 2)] (ww im lf s d k ls (-1) (nI n) (nI a) rn rq lt m1 m2 m3 m4 bd fc hd sz el t g fm hm so si sh ce ca td wa kp la bf oo bo pw ow tr) (some (.ref 2000002), (ww im lf s d k ls (-1) (nI n) (nI a) rn rq lt m1 m2 m3 m4 bd fc hd sz el t g fm hm so si sh ce ca td wa kp la bf oo bo pw ow tr)) := by
    refine Ef.in (md := mX2_spelt) (L := [some (.int (nI 2))]) rfl (Nat.le_of_ble_eq_true rfl) rfl ?_
    refine E_iload_n at_X2_spelt_0 rfl ?_
    refine E_tsIn (off := 45) (t := 46) at_X2_spelt_1 (by decide) rfl rfl ?_
    refine E_ldcS (t := 2000002) at_X2_spelt_46 (by decide) rfl ?_
    exact E_aret at_X2_spelt_48 rfl
  refine E_callS (v := some (.ref 2000002)) (As := [.int (nI 2)]) (r0 := []) (cs2 := (ww im lf s d k ls (-1) (nI n) (nI a) rn rq lt m1 m2 m3 m4 bd fc hd sz el t g fm hm so si sh ce ca td wa kp la bf oo bo pw ow tr)) at_X2_readWord_11 rfl rfl (Nat.le_of_ble_eq_true rfl) rfl e3 (by decide) rfl ?_
  refine E_astore_n (L2 := [some (.ref 34), some (.int (nI (max (max (0) (mj0 e n a)) (mj1 e n a)))), some (.int (nI 2)), some (.ref 2000002), some (.int (nI (mj1 e n a)))]) at_X2_readWord_14 rfl ?_
  refine E_aload_n at_X2_readWord_15 rfl ?_
  refine E_aload_n at_X2_readWord_16 rfl ?_
  refine E_callV (v := some (.int (nI (mj2 e n a)))) (As := [.ref 34, .ref 2000002]) (r0 := []) (cs2 := (ww im lf s d k ls (-1) (nI n) (nI a) rn rq lt m1 m2 m3 m4 bd fc hd sz el t g fm hm so si sh ce ca td wa kp la bf oo bo pw ow tr)) at_X2_readWord_17 rfl rfl (Nat.le_of_ble_eq_true rfl) rfl (ab_rvOf w34 rfl) (w_li2 hn ha l_lt hlt) (by decide) rfl ?_
  refine E_istore (L2 := [some (.ref 34), some (.int (nI (max (max (0) (mj0 e n a)) (mj1 e n a)))), some (.int (nI 2)), some (.ref 2000002), some (.int (nI (mj2 e n a)))]) at_X2_readWord_20 rfl ?_
  refine E_iload at_X2_readWord_22 rfl ?_
  refine E_aload_n at_X2_readWord_24 rfl ?_
  refine E_slen (z := nI 4) at_X2_readWord_25 (by decide) (Nat.le_of_ble_eq_true rfl) (by decide) ?_
  refine E_ic (t := 44) (b := true) at_X2_readWord_28 rfl ((cn_ne (nI_toInt (by omega)) (nI_toInt (by omega))).trans (decide_eq_true (by omega))) ?_
  refine E_iload_n at_X2_readWord_44 rfl ?_
  refine E_iload at_X2_readWord_45 rfl ?_
  refine E_max (z := nI (max (max (max (0) (mj0 e n a)) (mj1 e n a)) (mj2 e n a))) at_X2_readWord_47 (Nat.le_of_ble_eq_true rfl) (ab_maxN (by omega) (by omega)) ?_
  refine E_istore_n (L2 := [some (.ref 34), some (.int (nI (max (max (max (0) (mj0 e n a)) (mj1 e n a)) (mj2 e n a)))), some (.int (nI 2)), some (.ref 2000002), some (.int (nI (mj2 e n a)))]) at_X2_readWord_50 rfl ?_
  refine E_iinc (y := nI 3) (L2 := [some (.ref 34), some (.int (nI (max (max (max (0) (mj0 e n a)) (mj1 e n a)) (mj2 e n a)))), some (.int (nI 3)), some (.ref 2000002), some (.int (nI (mj2 e n a)))]) at_X2_readWord_51 rfl (by decide) rfl ?_
  refine E_goto (t := 4) at_X2_readWord_54 rfl ?_
  refine E_iload_n at_X2_readWord_4 rfl ?_
  refine E_bipush (x := nI 7) at_X2_readWord_5 (by decide) ?_
  refine E_ic (t := 57) (b := false) at_X2_readWord_7 rfl (by decide) ?_
  refine E_iload_n at_X2_readWord_10 rfl ?_
  have e4 : Ev ab_Z0 1 22 [.int (nI 3)] (ww im lf s d k ls (-1) (nI n) (nI a) rn rq lt m1 m2 m3 m4 bd fc hd sz el t g fm hm so si sh ce ca td wa kp la bf oo bo pw ow tr) (some (.ref 2000003), (ww im lf s d k ls (-1) (nI n) (nI a) rn rq lt m1 m2 m3 m4 bd fc hd sz el t g fm hm so si sh ce ca td wa kp la bf oo bo pw ow tr)) := by
    refine Ef.in (md := mX2_spelt) (L := [some (.int (nI 3))]) rfl (Nat.le_of_ble_eq_true rfl) rfl ?_
    refine E_iload_n at_X2_spelt_0 rfl ?_
    refine E_tsIn (off := 48) (t := 49) at_X2_spelt_1 (by decide) rfl rfl ?_
    refine E_ldcS (t := 2000003) at_X2_spelt_49 (by decide) rfl ?_
    exact E_aret at_X2_spelt_51 rfl
  refine E_callS (v := some (.ref 2000003)) (As := [.int (nI 3)]) (r0 := []) (cs2 := (ww im lf s d k ls (-1) (nI n) (nI a) rn rq lt m1 m2 m3 m4 bd fc hd sz el t g fm hm so si sh ce ca td wa kp la bf oo bo pw ow tr)) at_X2_readWord_11 rfl rfl (Nat.le_of_ble_eq_true rfl) rfl e4 (by decide) rfl ?_
  refine E_astore_n (L2 := [some (.ref 34), some (.int (nI (max (max (max (0) (mj0 e n a)) (mj1 e n a)) (mj2 e n a)))), some (.int (nI 3)), some (.ref 2000003), some (.int (nI (mj2 e n a)))]) at_X2_readWord_14 rfl ?_
  refine E_aload_n at_X2_readWord_15 rfl ?_
  refine E_aload_n at_X2_readWord_16 rfl ?_
  refine E_callV (v := some (.int (nI (mj3 e n a)))) (As := [.ref 34, .ref 2000003]) (r0 := []) (cs2 := (ww im lf s d k ls (-1) (nI n) (nI a) rn rq lt m1 m2 m3 m4 bd fc hd sz el t g fm hm so si sh ce ca td wa kp la bf oo bo pw ow tr)) at_X2_readWord_17 rfl rfl (Nat.le_of_ble_eq_true rfl) rfl (ab_rvOf w34 rfl) (w_li3 hn ha l_lt hlt) (by decide) rfl ?_
  refine E_istore (L2 := [some (.ref 34), some (.int (nI (max (max (max (0) (mj0 e n a)) (mj1 e n a)) (mj2 e n a)))), some (.int (nI 3)), some (.ref 2000003), some (.int (nI (mj3 e n a)))]) at_X2_readWord_20 rfl ?_
  refine E_iload at_X2_readWord_22 rfl ?_
  refine E_aload_n at_X2_readWord_24 rfl ?_
  refine E_slen (z := nI 3) at_X2_readWord_25 (by decide) (Nat.le_of_ble_eq_true rfl) (by decide) ?_
  refine E_ic (t := 44) (b := true) at_X2_readWord_28 rfl ((cn_ne (nI_toInt (by omega)) (nI_toInt (by omega))).trans (decide_eq_true (by omega))) ?_
  refine E_iload_n at_X2_readWord_44 rfl ?_
  refine E_iload at_X2_readWord_45 rfl ?_
  refine E_max (z := nI (max (max (max (max (0) (mj0 e n a)) (mj1 e n a)) (mj2 e n a)) (mj3 e n a))) at_X2_readWord_47 (Nat.le_of_ble_eq_true rfl) (ab_maxN (by omega) (by omega)) ?_
  refine E_istore_n (L2 := [some (.ref 34), some (.int (nI (max (max (max (max (0) (mj0 e n a)) (mj1 e n a)) (mj2 e n a)) (mj3 e n a)))), some (.int (nI 3)), some (.ref 2000003), some (.int (nI (mj3 e n a)))]) at_X2_readWord_50 rfl ?_
  refine E_iinc (y := nI 4) (L2 := [some (.ref 34), some (.int (nI (max (max (max (max (0) (mj0 e n a)) (mj1 e n a)) (mj2 e n a)) (mj3 e n a)))), some (.int (nI 4)), some (.ref 2000003), some (.int (nI (mj3 e n a)))]) at_X2_readWord_51 rfl (by decide) rfl ?_
  refine E_goto (t := 4) at_X2_readWord_54 rfl ?_
  refine E_iload_n at_X2_readWord_4 rfl ?_
  refine E_bipush (x := nI 7) at_X2_readWord_5 (by decide) ?_
  refine E_ic (t := 57) (b := false) at_X2_readWord_7 rfl (by decide) ?_
  refine E_iload_n at_X2_readWord_10 rfl ?_
  have e5 : Ev ab_Z0 1 22 [.int (nI 4)] (ww im lf s d k ls (-1) (nI n) (nI a) rn rq lt m1 m2 m3 m4 bd fc hd sz el t g fm hm so si sh ce ca td wa kp la bf oo bo pw ow tr) (some (.ref 2000004), (ww im lf s d k ls (-1) (nI n) (nI a) rn rq lt m1 m2 m3 m4 bd fc hd sz el t g fm hm so si sh ce ca td wa kp la bf oo bo pw ow tr)) := by
    refine Ef.in (md := mX2_spelt) (L := [some (.int (nI 4))]) rfl (Nat.le_of_ble_eq_true rfl) rfl ?_
    refine E_iload_n at_X2_spelt_0 rfl ?_
    refine E_tsIn (off := 51) (t := 52) at_X2_spelt_1 (by decide) rfl rfl ?_
    refine E_ldcS (t := 2000004) at_X2_spelt_52 (by decide) rfl ?_
    exact E_aret at_X2_spelt_54 rfl
  refine E_callS (v := some (.ref 2000004)) (As := [.int (nI 4)]) (r0 := []) (cs2 := (ww im lf s d k ls (-1) (nI n) (nI a) rn rq lt m1 m2 m3 m4 bd fc hd sz el t g fm hm so si sh ce ca td wa kp la bf oo bo pw ow tr)) at_X2_readWord_11 rfl rfl (Nat.le_of_ble_eq_true rfl) rfl e5 (by decide) rfl ?_
  refine E_astore_n (L2 := [some (.ref 34), some (.int (nI (max (max (max (max (0) (mj0 e n a)) (mj1 e n a)) (mj2 e n a)) (mj3 e n a)))), some (.int (nI 4)), some (.ref 2000004), some (.int (nI (mj3 e n a)))]) at_X2_readWord_14 rfl ?_
  refine E_aload_n at_X2_readWord_15 rfl ?_
  refine E_aload_n at_X2_readWord_16 rfl ?_
  refine E_callV (v := some (.int (nI (mj4 e n a)))) (As := [.ref 34, .ref 2000004]) (r0 := []) (cs2 := (ww im lf s d k ls (-1) (nI n) (nI a) rn rq lt m1 m2 m3 m4 bd fc hd sz el t g fm hm so si sh ce ca td wa kp la bf oo bo pw ow tr)) at_X2_readWord_17 rfl rfl (Nat.le_of_ble_eq_true rfl) rfl (ab_rvOf w34 rfl) (w_li4 hn ha l_lt hlt) (by decide) rfl ?_
  refine E_istore (L2 := [some (.ref 34), some (.int (nI (max (max (max (max (0) (mj0 e n a)) (mj1 e n a)) (mj2 e n a)) (mj3 e n a)))), some (.int (nI 4)), some (.ref 2000004), some (.int (nI (mj4 e n a)))]) at_X2_readWord_20 rfl ?_
  refine E_iload at_X2_readWord_22 rfl ?_
  refine E_aload_n at_X2_readWord_24 rfl ?_
  refine E_slen (z := nI 4) at_X2_readWord_25 (by decide) (Nat.le_of_ble_eq_true rfl) (by decide) ?_
  refine E_ic (t := 44) (b := true) at_X2_readWord_28 rfl ((cn_ne (nI_toInt (by omega)) (nI_toInt (by omega))).trans (decide_eq_true (by omega))) ?_
  refine E_iload_n at_X2_readWord_44 rfl ?_
  refine E_iload at_X2_readWord_45 rfl ?_
  refine E_max (z := nI (max (max (max (max (max (0) (mj0 e n a)) (mj1 e n a)) (mj2 e n a)) (mj3 e n a)) (mj4 e n a))) at_X2_readWord_47 (Nat.le_of_ble_eq_true rfl) (ab_maxN (by omega) (by omega)) ?_
  refine E_istore_n (L2 := [some (.ref 34), some (.int (nI (max (max (max (max (max (0) (mj0 e n a)) (mj1 e n a)) (mj2 e n a)) (mj3 e n a)) (mj4 e n a)))), some (.int (nI 4)), some (.ref 2000004), some (.int (nI (mj4 e n a)))]) at_X2_readWord_50 rfl ?_
  refine E_iinc (y := nI 5) (L2 := [some (.ref 34), some (.int (nI (max (max (max (max (max (0) (mj0 e n a)) (mj1 e n a)) (mj2 e n a)) (mj3 e n a)) (mj4 e n a)))), some (.int (nI 5)), some (.ref 2000004), some (.int (nI (mj4 e n a)))]) at_X2_readWord_51 rfl (by decide) rfl ?_
  refine E_goto (t := 4) at_X2_readWord_54 rfl ?_
  refine E_iload_n at_X2_readWord_4 rfl ?_
  refine E_bipush (x := nI 7) at_X2_readWord_5 (by decide) ?_
  refine E_ic (t := 57) (b := false) at_X2_readWord_7 rfl (by decide) ?_
  refine E_iload_n at_X2_readWord_10 rfl ?_
  have e6 : Ev ab_Z0 1 22 [.int (nI 5)] (ww im lf s d k ls (-1) (nI n) (nI a) rn rq lt m1 m2 m3 m4 bd fc hd sz el t g fm hm so si sh ce ca td wa kp la bf oo bo pw ow tr) (some (.ref 2000005), (ww im lf s d k ls (-1) (nI n) (nI a) rn rq lt m1 m2 m3 m4 bd fc hd sz el t g fm hm so si sh ce ca td wa kp la bf oo bo pw ow tr)) := by
    refine Ef.in (md := mX2_spelt) (L := [some (.int (nI 5))]) rfl (Nat.le_of_ble_eq_true rfl) rfl ?_
    refine E_iload_n at_X2_spelt_0 rfl ?_
    refine E_tsIn (off := 54) (t := 55) at_X2_spelt_1 (by decide) rfl rfl ?_
    refine E_ldcS (t := 2000005) rfl (by decide) rfl ?_
    exact E_aret rfl rfl
  refine E_callS (v := some (.ref 2000005)) (As := [.int (nI 5)]) (r0 := []) (cs2 := (ww im lf s d k ls (-1) (nI n) (nI a) rn rq lt m1 m2 m3 m4 bd fc hd sz el t g fm hm so si sh ce ca td wa kp la bf oo bo pw ow tr)) at_X2_readWord_11 rfl rfl (Nat.le_of_ble_eq_true rfl) rfl e6 (by decide) rfl ?_
  refine E_astore_n (L2 := [some (.ref 34), some (.int (nI (max (max (max (max (max (0) (mj0 e n a)) (mj1 e n a)) (mj2 e n a)) (mj3 e n a)) (mj4 e n a)))), some (.int (nI 5)), some (.ref 2000005), some (.int (nI (mj4 e n a)))]) at_X2_readWord_14 rfl ?_
  refine E_aload_n at_X2_readWord_15 rfl ?_
  refine E_aload_n at_X2_readWord_16 rfl ?_
  refine E_callV (v := some (.int (nI (mj5 e n a)))) (As := [.ref 34, .ref 2000005]) (r0 := []) (cs2 := (ww im lf s d k ls (-1) (nI n) (nI a) rn rq lt m1 m2 m3 m4 bd fc hd sz el t g fm hm so si sh ce ca td wa kp la bf oo bo pw ow tr)) at_X2_readWord_17 rfl rfl (Nat.le_of_ble_eq_true rfl) rfl (ab_rvOf w34 rfl) (w_li5 hn ha l_lt hlt) (by decide) rfl ?_
  refine E_istore (L2 := [some (.ref 34), some (.int (nI (max (max (max (max (max (0) (mj0 e n a)) (mj1 e n a)) (mj2 e n a)) (mj3 e n a)) (mj4 e n a)))), some (.int (nI 5)), some (.ref 2000005), some (.int (nI (mj5 e n a)))]) at_X2_readWord_20 rfl ?_
  refine E_iload at_X2_readWord_22 rfl ?_
  refine E_aload_n at_X2_readWord_24 rfl ?_
  refine E_slen (z := nI 6) at_X2_readWord_25 (by decide) (Nat.le_of_ble_eq_true rfl) (by decide) ?_
  refine E_ic (t := 44) (b := true) at_X2_readWord_28 rfl ((cn_ne (nI_toInt (by omega)) (nI_toInt (by omega))).trans (decide_eq_true (by omega))) ?_
  refine E_iload_n at_X2_readWord_44 rfl ?_
  refine E_iload at_X2_readWord_45 rfl ?_
  refine E_max (z := nI (max (max (max (max (max (max (0) (mj0 e n a)) (mj1 e n a)) (mj2 e n a)) (mj3 e n a)) (mj4 e n a)) (mj5 e n a))) at_X2_readWord_47 (Nat.le_of_ble_eq_true rfl) (ab_maxN (by omega) (by omega)) ?_
  refine E_istore_n (L2 := [some (.ref 34), some (.int (nI (max (max (max (max (max (max (0) (mj0 e n a)) (mj1 e n a)) (mj2 e n a)) (mj3 e n a)) (mj4 e n a)) (mj5 e n a)))), some (.int (nI 5)), some (.ref 2000005), some (.int (nI (mj5 e n a)))]) at_X2_readWord_50 rfl ?_
  refine E_iinc (y := nI 6) (L2 := [some (.ref 34), some (.int (nI (max (max (max (max (max (max (0) (mj0 e n a)) (mj1 e n a)) (mj2 e n a)) (mj3 e n a)) (mj4 e n a)) (mj5 e n a)))), some (.int (nI 6)), some (.ref 2000005), some (.int (nI (mj5 e n a)))]) at_X2_readWord_51 rfl (by decide) rfl ?_
  refine E_goto (t := 4) at_X2_readWord_54 rfl ?_
  refine E_iload_n at_X2_readWord_4 rfl ?_
  refine E_bipush (x := nI 7) at_X2_readWord_5 (by decide) ?_
  refine E_ic (t := 57) (b := false) at_X2_readWord_7 rfl (by decide) ?_
  refine E_iload_n at_X2_readWord_10 rfl ?_
  have e7 : Ev ab_Z0 1 22 [.int (nI 6)] (ww im lf s d k ls (-1) (nI n) (nI a) rn rq lt m1 m2 m3 m4 bd fc hd sz el t g fm hm so si sh ce ca td wa kp la bf oo bo pw ow tr) (some (.ref 2000006), (ww im lf s d k ls (-1) (nI n) (nI a) rn rq lt m1 m2 m3 m4 bd fc hd sz el t g fm hm so si sh ce ca td wa kp la bf oo bo pw ow tr)) := by
    refine Ef.in (md := mX2_spelt) (L := [some (.int (nI 6))]) rfl (Nat.le_of_ble_eq_true rfl) rfl ?_
    refine E_iload_n at_X2_spelt_0 rfl ?_
    refine E_tsOut (t := 58) at_X2_spelt_1 (by decide) rfl ?_
    refine E_ldcS (t := 2000006) rfl (by decide) rfl ?_
    exact E_aret rfl rfl
  refine E_callS (v := some (.ref 2000006)) (As := [.int (nI 6)]) (r0 := []) (cs2 := (ww im lf s d k ls (-1) (nI n) (nI a) rn rq lt m1 m2 m3 m4 bd fc hd sz el t g fm hm so si sh ce ca td wa kp la bf oo bo pw ow tr)) at_X2_readWord_11 rfl rfl (Nat.le_of_ble_eq_true rfl) rfl e7 (by decide) rfl ?_
  refine E_astore_n (L2 := [some (.ref 34), some (.int (nI (max (max (max (max (max (max (0) (mj0 e n a)) (mj1 e n a)) (mj2 e n a)) (mj3 e n a)) (mj4 e n a)) (mj5 e n a)))), some (.int (nI 6)), some (.ref 2000006), some (.int (nI (mj5 e n a)))]) at_X2_readWord_14 rfl ?_
  refine E_aload_n at_X2_readWord_15 rfl ?_
  refine E_aload_n at_X2_readWord_16 rfl ?_
  refine E_callV (v := some (.int (nI (mj6 e n a)))) (As := [.ref 34, .ref 2000006]) (r0 := []) (cs2 := (ww im lf s d k ls (-1) (nI n) (nI a) rn rq lt m1 m2 m3 m4 bd fc hd sz el t g fm hm so si sh ce ca td wa kp la bf oo bo pw ow tr)) at_X2_readWord_17 rfl rfl (Nat.le_of_ble_eq_true rfl) rfl (ab_rvOf w34 rfl) (w_li6 hn ha l_lt hlt) (by decide) rfl ?_
  refine E_istore (L2 := [some (.ref 34), some (.int (nI (max (max (max (max (max (max (0) (mj0 e n a)) (mj1 e n a)) (mj2 e n a)) (mj3 e n a)) (mj4 e n a)) (mj5 e n a)))), some (.int (nI 6)), some (.ref 2000006), some (.int (nI (mj6 e n a)))]) at_X2_readWord_20 rfl ?_
  refine E_iload at_X2_readWord_22 rfl ?_
  refine E_aload_n at_X2_readWord_24 rfl ?_
  refine E_slen (z := nI 4) at_X2_readWord_25 (by decide) (Nat.le_of_ble_eq_true rfl) (by decide) ?_
  refine E_ic (t := 44) (b := true) at_X2_readWord_28 rfl ((cn_ne (nI_toInt (by omega)) (nI_toInt (by omega))).trans (decide_eq_true (by omega))) ?_
  refine E_iload_n at_X2_readWord_44 rfl ?_
  refine E_iload at_X2_readWord_45 rfl ?_
  refine E_max (z := nI (max (max (max (max (max (max (max (0) (mj0 e n a)) (mj1 e n a)) (mj2 e n a)) (mj3 e n a)) (mj4 e n a)) (mj5 e n a)) (mj6 e n a))) at_X2_readWord_47 (Nat.le_of_ble_eq_true rfl) (ab_maxN (by omega) (by omega)) ?_
  refine E_istore_n (L2 := [some (.ref 34), some (.int (nI (max (max (max (max (max (max (max (0) (mj0 e n a)) (mj1 e n a)) (mj2 e n a)) (mj3 e n a)) (mj4 e n a)) (mj5 e n a)) (mj6 e n a)))), some (.int (nI 6)), some (.ref 2000006), some (.int (nI (mj6 e n a)))]) at_X2_readWord_50 rfl ?_
  refine E_iinc (y := nI 7) (L2 := [some (.ref 34), some (.int (nI (max (max (max (max (max (max (max (0) (mj0 e n a)) (mj1 e n a)) (mj2 e n a)) (mj3 e n a)) (mj4 e n a)) (mj5 e n a)) (mj6 e n a)))), some (.int (nI 7)), some (.ref 2000006), some (.int (nI (mj6 e n a)))]) at_X2_readWord_51 rfl (by decide) rfl ?_
  refine E_goto (t := 4) at_X2_readWord_54 rfl ?_
  refine E_iload_n at_X2_readWord_4 rfl ?_
  refine E_bipush (x := nI 7) at_X2_readWord_5 (by decide) ?_
  refine E_ic (t := 57) (b := true) at_X2_readWord_7 rfl (by decide) ?_
  refine E_aload_n rfl rfl ?_
  refine E_aload_n rfl rfl ?_
  refine E_getfield (v := .int (nI a)) rfl w34 rfl (by decide) rfl ?_
  refine E_iload_n rfl rfl ?_
  refine E_iadd (z := nI (a + (max (max (max (max (max (max (max (0) (mj0 e n a)) (mj1 e n a)) (mj2 e n a)) (mj3 e n a)) (mj4 e n a)) (mj5 e n a)) (mj6 e n a)))) rfl (nI_add _ _) ?_
  refine E_putfield (cs2 := (ww im lf s d k ls (nI (a + (max (max (max (max (max (max (max (0) (mj0 e n a)) (mj1 e n a)) (mj2 e n a)) (mj3 e n a)) (mj4 e n a)) (mj5 e n a)) (mj6 e n a)))) (nI n) (nI a) rn rq lt m1 m2 m3 m4 bd fc hd sz el t g fm hm so si sh ce ca td wa kp la bf oo bo pw ow tr)) rfl w34 rfl (by decide) (Nat.le_of_ble_eq_true rfl) rfl rfl rfl rfl ?_
  refine E_iconst (x := (-1)) rfl (by decide) ?_
  exact E_iret rfl rfl
set_option maxHeartbeats 400000 in
theorem w_sgx {c f : Nat} (hf : f < 1000) : Ev ab_Z0 2 25 [.ref 34, .int (nI c)] (ww im lf s d k ls (nI f) rz ra rn rq lt m1 m2 m3 m4 bd fc hd sz el t g fm hm so si sh ce ca td wa kp la bf oo bo pw ow tr) (none, (ww im lf s d k ls (nI f) rz ra rn rq lt m1 m2 m3 m4 bd fc hd sz el t g fm hm so si sh ce ca td wa kp la bf oo bo pw ow tr)) := by
  refine Ef.in (md := mX2_readSign) (L := [some (.ref 34), some (.int (nI c))]) rfl (Nat.le_of_ble_eq_true rfl) rfl ?_
  refine E_aload_n rfl rfl ?_
  refine E_getfield (v := .int (nI f)) rfl w34 rfl (by decide) rfl ?_
  refine E_iconst (x := (-1)) rfl (by decide) ?_
  refine E_ic (t := 9) (b := false) rfl rfl ((cn_eq (nI_toInt (by omega)) (by decide : (-1 : Int32).toInt = -1)).trans (decide_eq_false (by omega))) ?_
  exact E_vret rfl rfl
set_option maxHeartbeats 400000 in
theorem w_sg0 {e : List Int64} {n a c : Nat} (hc : c < 1000) (hn : n ≤ 160) (ha : a ≤ n) (l_lt : lt.length = 160) (hlt : ∀ i, i < n → lt.getD i 0 = tw e i) (h : chB e n a c = false) : Ev ab_Z0 2 25 [.ref 34, .int (nI c)] (ww im lf s d k ls (-1) (nI n) (nI a) rn rq lt m1 m2 m3 m4 bd fc hd sz el t g fm hm so si sh ce ca td wa kp la bf oo bo pw ow tr) (none, (ww im lf s d k ls (nI a) (nI n) (nI a) rn rq lt m1 m2 m3 m4 bd fc hd sz el t g fm hm so si sh ce ca td wa kp la bf oo bo pw ow tr)) := by
  refine Ef.in (md := mX2_readSign) (L := [some (.ref 34), some (.int (nI c))]) rfl (Nat.le_of_ble_eq_true rfl) rfl ?_
  refine E_aload_n rfl rfl ?_
  refine E_getfield (v := .int (-1)) rfl w34 rfl (by decide) rfl ?_
  refine E_iconst (x := (-1)) rfl (by decide) ?_
  refine E_ic (t := 9) (b := true) rfl rfl (by decide) ?_
  refine E_aload_n rfl rfl ?_
  refine E_aload_n rfl rfl ?_
  refine E_getfield (v := .int (nI a)) rfl w34 rfl (by decide) rfl ?_
  refine E_iload_n rfl rfl ?_
  refine E_callV (v := some (.int (nI 0))) (As := [.ref 34, .int (nI a), .int (nI c)]) (r0 := []) (cs2 := (ww im lf s d k ls (-1) (nI n) (nI a) rn rq lt m1 m2 m3 m4 bd fc hd sz el t g fm hm so si sh ce ca td wa kp la bf oo bo pw ow tr)) rfl rfl rfl (Nat.le_of_ble_eq_true rfl) rfl (ab_rvOf w34 rfl) (w_st0 (by omega) hc hn l_lt hlt h) (by decide) rfl ?_
  refine E_if (t := 34) (b := true) rfl rfl (by decide) ?_
  refine E_aload_n rfl rfl ?_
  refine E_aload_n rfl rfl ?_
  refine E_getfield (v := .int (nI a)) rfl w34 rfl (by decide) rfl ?_
  refine E_putfield (cs2 := (ww im lf s d k ls (nI a) (nI n) (nI a) rn rq lt m1 m2 m3 m4 bd fc hd sz el t g fm hm so si sh ce ca td wa kp la bf oo bo pw ow tr)) rfl w34 rfl (by decide) (Nat.le_of_ble_eq_true rfl) rfl rfl rfl rfl ?_
  exact E_vret rfl rfl
set_option maxHeartbeats 400000 in
theorem w_sg1 {e : List Int64} {n a c : Nat} (hc : c < 1000) (hn : n ≤ 160) (ha : a ≤ n) (l_lt : lt.length = 160) (hlt : ∀ i, i < n → lt.getD i 0 = tw e i) (h : chB e n a c = true) : Ev ab_Z0 2 25 [.ref 34, .int (nI c)] (ww im lf s d k ls (-1) (nI n) (nI a) rn rq lt m1 m2 m3 m4 bd fc hd sz el t g fm hm so si sh ce ca td wa kp la bf oo bo pw ow tr) (none, (ww im lf s d k ls (-1) (nI n) (nI (a + 1)) rn rq lt m1 m2 m3 m4 bd fc hd sz el t g fm hm so si sh ce ca td wa kp la bf oo bo pw ow tr)) := by
  refine Ef.in (md := mX2_readSign) (L := [some (.ref 34), some (.int (nI c))]) rfl (Nat.le_of_ble_eq_true rfl) rfl ?_
  refine E_aload_n rfl rfl ?_
  refine E_getfield (v := .int (-1)) rfl w34 rfl (by decide) rfl ?_
  refine E_iconst (x := (-1)) rfl (by decide) ?_
  refine E_ic (t := 9) (b := true) rfl rfl (by decide) ?_
  refine E_aload_n rfl rfl ?_
  refine E_aload_n rfl rfl ?_
  refine E_getfield (v := .int (nI a)) rfl w34 rfl (by decide) rfl ?_
  refine E_iload_n rfl rfl ?_
  refine E_callV (v := some (.int (nI 1))) (As := [.ref 34, .int (nI a), .int (nI c)]) (r0 := []) (cs2 := (ww im lf s d k ls (-1) (nI n) (nI a) rn rq lt m1 m2 m3 m4 bd fc hd sz el t g fm hm so si sh ce ca td wa kp la bf oo bo pw ow tr)) rfl rfl rfl (Nat.le_of_ble_eq_true rfl) rfl (ab_rvOf w34 rfl) (w_st1 (by omega) hc hn l_lt hlt h) (by decide) rfl ?_
  refine E_if (t := 34) (b := false) rfl rfl (by decide) ?_
  refine E_aload_n rfl rfl ?_
  refine E_dup rfl rfl ?_
  refine E_getfield (v := .int (nI a)) rfl w34 rfl (by decide) rfl ?_
  refine E_iconst (x := nI 1) rfl (by decide) ?_
  refine E_iadd (z := nI (a + 1)) rfl (nI_add _ _) ?_
  refine E_putfield (cs2 := (ww im lf s d k ls (-1) (nI n) (nI (a + 1)) rn rq lt m1 m2 m3 m4 bd fc hd sz el t g fm hm so si sh ce ca td wa kp la bf oo bo pw ow tr)) rfl w34 rfl (by decide) (Nat.le_of_ble_eq_true rfl) rfl rfl rfl rfl ?_
  refine E_goto (t := 42) rfl rfl ?_
  exact E_vret rfl rfl
set_option maxHeartbeats 400000 in
theorem w_nux {lo hi : Int32} {f : Nat} (hf : f < 1000) : Ev ab_Z0 3 26 [.ref 34, .int lo, .int hi] (ww im lf s d k ls (nI f) rz ra rn rq lt m1 m2 m3 m4 bd fc hd sz el t g fm hm so si sh ce ca td wa kp la bf oo bo pw ow tr) (some (.int (nI 0)), (ww im lf s d k ls (nI f) rz ra rn rq lt m1 m2 m3 m4 bd fc hd sz el t g fm hm so si sh ce ca td wa kp la bf oo bo pw ow tr)) := by
  refine Ef.in (md := mX2_readNumber) (L := [some (.ref 34), some (.int lo), some (.int hi), none]) rfl (Nat.le_of_ble_eq_true rfl) rfl ?_
  refine E_aload_n at_X2_readNumber_0 rfl ?_
  refine E_bipush (x := nI 32) at_X2_readNumber_1 (by decide) ?_
  refine E_callV (v := none) (As := [.ref 34, .int (nI 32)]) (r0 := []) (cs2 := (ww im lf s d k ls (nI f) rz ra rn rq lt m1 m2 m3 m4 bd fc hd sz el t g fm hm so si sh ce ca td wa kp la bf oo bo pw ow tr)) at_X2_readNumber_3 rfl rfl (Nat.le_of_ble_eq_true rfl) rfl (ab_rvOf w34 rfl) (w_sgx hf) (by decide) rfl ?_
  refine E_aload_n at_X2_readNumber_6 rfl ?_
  refine E_getfield (v := .int (nI f)) at_X2_readNumber_7 w34 rfl (by decide) rfl ?_
  refine E_iconst (x := (-1)) at_X2_readNumber_10 (by decide) ?_
  refine E_ic (t := 16) (b := false) at_X2_readNumber_11 rfl ((cn_eq (nI_toInt (by omega)) (by decide : (-1 : Int32).toInt = -1)).trans (decide_eq_false (by omega))) ?_
  refine E_iconst (x := nI 0) rfl (by decide) ?_
  exact E_iret rfl rfl
set_option maxHeartbeats 400000 in
theorem w_nuA {e : List Int64} {n a lo : Nat} {hi : Int32} (hlo : lo < 1000) (hn : n ≤ 160) (ha : a ≤ n) (l_lt : lt.length = 160) (hlt : ∀ i, i < n → lt.getD i 0 = tw e i) (hb : chB e n a 32 = false) : Ev ab_Z0 3 26 [.ref 34, .int (nI lo), .int hi] (ww im lf s d k ls (-1) (nI n) (nI a) rn rq lt m1 m2 m3 m4 bd fc hd sz el t g fm hm so si sh ce ca td wa kp la bf oo bo pw ow tr) (some (.int (nI 0)), (ww im lf s d k ls (nI a) (nI n) (nI a) rn rq lt m1 m2 m3 m4 bd fc hd sz el t g fm hm so si sh ce ca td wa kp la bf oo bo pw ow tr)) := by
  refine Ef.in (md := mX2_readNumber) (L := [some (.ref 34), some (.int (nI lo)), some (.int hi), none]) rfl (Nat.le_of_ble_eq_true rfl) rfl ?_
  refine E_aload_n at_X2_readNumber_0 rfl ?_
  refine E_bipush (x := nI 32) at_X2_readNumber_1 (by decide) ?_
  refine E_callV (v := none) (As := [.ref 34, .int (nI 32)]) (r0 := []) (cs2 := (ww im lf s d k ls (nI a) (nI n) (nI a) rn rq lt m1 m2 m3 m4 bd fc hd sz el t g fm hm so si sh ce ca td wa kp la bf oo bo pw ow tr)) at_X2_readNumber_3 rfl rfl (Nat.le_of_ble_eq_true rfl) rfl (ab_rvOf w34 rfl) (w_sg0 (by decide) hn ha l_lt hlt hb) (by decide) w_lens ?_
  refine E_aload_n at_X2_readNumber_6 rfl ?_
  refine E_getfield (v := .int (nI a)) at_X2_readNumber_7 w34 rfl (by decide) rfl ?_
  refine E_iconst (x := (-1)) at_X2_readNumber_10 (by decide) ?_
  refine E_ic (t := 16) (b := false) at_X2_readNumber_11 rfl ((cn_eq (nI_toInt (by omega)) (by decide : (-1 : Int32).toInt = -1)).trans (decide_eq_false (by omega))) ?_
  refine E_iconst (x := nI 0) rfl (by decide) ?_
  exact E_iret rfl rfl
set_option maxHeartbeats 400000 in
theorem w_rdd {e : List Int64} {n a : Nat} (hn : n ≤ 160) (ha : a ≤ n) (l_lt : lt.length = 160) (hlt : ∀ i, i < n → lt.getD i 0 = tw e i) (h : dgB e n a = true) : Ev ab_Z0 2 28 [.ref 34] (ww im lf s d k ls (-1) (nI n) (nI a) rn rq lt m1 m2 m3 m4 bd fc hd sz el t g fm hm so si sh ce ca td wa kp la bf oo bo pw ow tr) (some (.int (nI (dv e a))), (ww im lf s d k ls (-1) (nI n) (nI (a + 1)) rn rq lt m1 m2 m3 m4 bd fc hd sz el t g fm hm so si sh ce ca td wa kp la bf oo bo pw ow tr)) := by
  have h2 := (dgB_t h).1
  refine Ef.in (md := mX2_readDigit) (L := [some (.ref 34), none]) rfl (Nat.le_of_ble_eq_true rfl) rfl ?_
  refine E_aload_n rfl rfl ?_
  refine E_aload_n rfl rfl ?_
  refine E_getfield (v := .int (nI a)) rfl w34 rfl (by decide) rfl ?_
  refine E_callV (v := some (.int (nI 1))) (As := [.ref 34, .int (nI a)]) (r0 := []) (cs2 := (ww im lf s d k ls (-1) (nI n) (nI a) rn rq lt m1 m2 m3 m4 bd fc hd sz el t g fm hm so si sh ce ca td wa kp la bf oo bo pw ow tr)) rfl rfl rfl (Nat.le_of_ble_eq_true rfl) rfl (ab_rvOf w34 rfl) (w_dg1 (by omega) hn l_lt hlt h) (by decide) rfl ?_
  refine E_if (t := 13) (b := true) rfl rfl (by decide) ?_
  refine E_aload_n rfl rfl ?_
  refine E_getfield (v := .ref 45) rfl w34 rfl (by decide) rfl ?_
  refine E_aload_n rfl rfl ?_
  refine E_getfield (v := .int (nI a)) rfl w34 rfl (by decide) rfl ?_
  refine E_ialI (l := lt) (v := tw e a) rfl w45 (by omega) (by omega) (hlt a (by omega)) ?_
  refine E_bipush (x := nI 48) rfl (by decide) ?_
  refine E_isub (z := nI (dv e a)) rfl (dv_eq h).1 ?_
  refine E_istore_n (L2 := [some (.ref 34), some (.int (nI (dv e a)))]) rfl rfl ?_
  refine E_aload_n rfl rfl ?_
  refine E_dup rfl rfl ?_
  refine E_getfield (v := .int (nI a)) rfl w34 rfl (by decide) rfl ?_
  refine E_iconst (x := nI 1) rfl (by decide) ?_
  refine E_iadd (z := nI (a + 1)) rfl (nI_add _ _) ?_
  refine E_putfield (cs2 := (ww im lf s d k ls (-1) (nI n) (nI (a + 1)) rn rq lt m1 m2 m3 m4 bd fc hd sz el t g fm hm so si sh ce ca td wa kp la bf oo bo pw ow tr)) rfl w34 rfl (by decide) (Nat.le_of_ble_eq_true rfl) rfl rfl rfl rfl ?_
  refine E_iload_n rfl rfl ?_
  exact E_iret rfl rfl
set_option maxHeartbeats 400000 in
theorem w_nuB {e : List Int64} {n a lo : Nat} {hi : Int32} (hlo : lo < 1000) (hn : n ≤ 160) (ha : a ≤ n) (l_lt : lt.length = 160) (hlt : ∀ i, i < n → lt.getD i 0 = tw e i) (hb : chB e n a 32 = true) (hd1 : dgB e n (a + 1) = false) : Ev ab_Z0 3 26 [.ref 34, .int (nI lo), .int hi] (ww im lf s d k ls (-1) (nI n) (nI a) rn rq lt m1 m2 m3 m4 bd fc hd sz el t g fm hm so si sh ce ca td wa kp la bf oo bo pw ow tr) (some (.int (nI 0)), (ww im lf s d k ls (nI (a + 1)) (nI n) (nI (a + 1)) rn rq lt m1 m2 m3 m4 bd fc hd sz el t g fm hm so si sh ce ca td wa kp la bf oo bo pw ow tr)) := by
  have hb2 := (chB_t hb).1
  refine Ef.in (md := mX2_readNumber) (L := [some (.ref 34), some (.int (nI lo)), some (.int hi), none]) rfl (Nat.le_of_ble_eq_true rfl) rfl ?_
  refine E_aload_n at_X2_readNumber_0 rfl ?_
  refine E_bipush (x := nI 32) at_X2_readNumber_1 (by decide) ?_
  refine E_callV (v := none) (As := [.ref 34, .int (nI 32)]) (r0 := []) (cs2 := (ww im lf s d k ls (-1) (nI n) (nI (a + 1)) rn rq lt m1 m2 m3 m4 bd fc hd sz el t g fm hm so si sh ce ca td wa kp la bf oo bo pw ow tr)) at_X2_readNumber_3 rfl rfl (Nat.le_of_ble_eq_true rfl) rfl (ab_rvOf w34 rfl) (w_sg1 (by decide) hn ha l_lt hlt hb) (by decide) w_lens ?_
  refine E_aload_n at_X2_readNumber_6 rfl ?_
  refine E_getfield (v := .int (-1)) at_X2_readNumber_7 w34 rfl (by decide) rfl ?_
  refine E_iconst (x := (-1)) at_X2_readNumber_10 (by decide) ?_
  refine E_ic (t := 16) (b := true) at_X2_readNumber_11 rfl (by decide) ?_
  refine E_aload_n at_X2_readNumber_16 rfl ?_
  refine E_aload_n at_X2_readNumber_17 rfl ?_
  refine E_getfield (v := .int (nI (a + 1))) at_X2_readNumber_18 w34 rfl (by decide) rfl ?_
  refine E_callV (v := some (.int (nI 0))) (As := [.ref 34, .int (nI (a + 1))]) (r0 := []) (cs2 := (ww im lf s d k ls (-1) (nI n) (nI (a + 1)) rn rq lt m1 m2 m3 m4 bd fc hd sz el t g fm hm so si sh ce ca td wa kp la bf oo bo pw ow tr)) at_X2_readNumber_21 rfl rfl (Nat.le_of_ble_eq_true rfl) rfl (ab_rvOf w34 rfl) (w_dg0 (by omega) hn l_lt hlt hd1) (by decide) rfl ?_
  refine E_if (t := 37) (b := false) at_X2_readNumber_24 rfl (by decide) ?_
  refine E_aload_n rfl rfl ?_
  refine E_aload_n rfl rfl ?_
  refine E_getfield (v := .int (nI (a + 1))) rfl w34 rfl (by decide) rfl ?_
  refine E_putfield (cs2 := (ww im lf s d k ls (nI (a + 1)) (nI n) (nI (a + 1)) rn rq lt m1 m2 m3 m4 bd fc hd sz el t g fm hm so si sh ce ca td wa kp la bf oo bo pw ow tr)) rfl w34 rfl (by decide) (Nat.le_of_ble_eq_true rfl) rfl rfl rfl rfl ?_
  refine E_iconst (x := nI 0) rfl (by decide) ?_
  exact E_iret rfl rfl
set_option maxHeartbeats 1000000 in
theorem w_nuC {e : List Int64} {n a lo : Nat} {hi : Int32} (hlo : lo < 1000) (hn : n ≤ 160) (ha : a ≤ n) (l_lt : lt.length = 160) (hlt : ∀ i, i < n → lt.getD i 0 = tw e i) (hb : chB e n a 32 = true) (hd1 : dgB e n (a + 1) = true) (h1 : lo ≤ nuV e n (a + 1)) (h2 : ((nuV e n (a + 1) : Nat) : Int) ≤ hi.toInt) : Ev ab_Z0 3 26 [.ref 34, .int (nI lo), .int hi] (ww im lf s d k ls (-1) (nI n) (nI a) rn rq lt m1 m2 m3 m4 bd fc hd sz el t g fm hm so si sh ce ca td wa kp la bf oo bo pw ow tr) (some (.int (nI (nuV e n (a + 1)))), (ww im lf s d k ls (-1) (nI n) (nI (nuE e n (a + 1))) (nI (a + 1)) rq lt m1 m2 m3 m4 bd fc hd sz el t g fm hm so si sh ce ca td wa kp la bf oo bo pw ow tr)) := by
  have hb2 := (chB_t hb).1
  have hd0 := (dgB_t hd1).1
  have h99 := nuV_99 hd1
  rcases bo2 (dgB e n (a + 2)) with hd2 | hd2
  · have hvhd1 := (dv_eq hd1).2.1
    have hV : nuV e n (a + 1) = dv e (a + 1) := if_neg (by rw [hd2]; decide)
    have hE : nuE e n (a + 1) = a + 1 + 1 := if_neg (by rw [hd2]; decide)
    have X : Ef ab_Z0 2 mX2_readNumber (71, [some (.ref 34), some (.int (nI lo)), some (.int hi), some (.int (nI (nuV e n (a + 1))))], [], (ww im lf s d k ls (-1) (nI n) (nI (nuE e n (a + 1))) (nI (a + 1)) rq lt m1 m2 m3 m4 bd fc hd sz el t g fm hm so si sh ce ca td wa kp la bf oo bo pw ow tr)) (some (.int (nI (nuV e n (a + 1)))), (ww im lf s d k ls (-1) (nI n) (nI (nuE e n (a + 1))) (nI (a + 1)) rq lt m1 m2 m3 m4 bd fc hd sz el t g fm hm so si sh ce ca td wa kp la bf oo bo pw ow tr)) := by
      refine E_iload_n rfl rfl ?_
      refine E_iload_n rfl rfl ?_
      refine E_ic (t := 81) (b := false) rfl rfl ((cn_lt (nI_toInt (by omega)) (nI_toInt (by omega))).trans (decide_eq_false (by omega))) ?_
      refine E_iload_n rfl rfl ?_
      refine E_iload_n rfl rfl ?_
      refine E_ic (t := 89) (b := true) rfl rfl ((cn_le (nI_toInt (by omega)) rfl).trans (decide_eq_true (by omega))) ?_
      refine E_iload_n rfl rfl ?_
      exact E_iret rfl rfl
    rw [hV, hE] at X
    rw [hV, hE]
    refine Ef.in (md := mX2_readNumber) (L := [some (.ref 34), some (.int (nI lo)), some (.int hi), none]) rfl (Nat.le_of_ble_eq_true rfl) rfl ?_
    refine E_aload_n at_X2_readNumber_0 rfl ?_
    refine E_bipush (x := nI 32) at_X2_readNumber_1 (by decide) ?_
    refine E_callV (v := none) (As := [.ref 34, .int (nI 32)]) (r0 := []) (cs2 := (ww im lf s d k ls (-1) (nI n) (nI (a + 1)) rn rq lt m1 m2 m3 m4 bd fc hd sz el t g fm hm so si sh ce ca td wa kp la bf oo bo pw ow tr)) at_X2_readNumber_3 rfl rfl (Nat.le_of_ble_eq_true rfl) rfl (ab_rvOf w34 rfl) (w_sg1 (by decide) hn ha l_lt hlt hb) (by decide) w_lens ?_
    refine E_aload_n at_X2_readNumber_6 rfl ?_
    refine E_getfield (v := .int (-1)) at_X2_readNumber_7 w34 rfl (by decide) rfl ?_
    refine E_iconst (x := (-1)) at_X2_readNumber_10 (by decide) ?_
    refine E_ic (t := 16) (b := true) at_X2_readNumber_11 rfl (by decide) ?_
    refine E_aload_n at_X2_readNumber_16 rfl ?_
    refine E_aload_n at_X2_readNumber_17 rfl ?_
    refine E_getfield (v := .int (nI (a + 1))) at_X2_readNumber_18 w34 rfl (by decide) rfl ?_
    refine E_callV (v := some (.int (nI 1))) (As := [.ref 34, .int (nI (a + 1))]) (r0 := []) (cs2 := (ww im lf s d k ls (-1) (nI n) (nI (a + 1)) rn rq lt m1 m2 m3 m4 bd fc hd sz el t g fm hm so si sh ce ca td wa kp la bf oo bo pw ow tr)) at_X2_readNumber_21 rfl rfl (Nat.le_of_ble_eq_true rfl) rfl (ab_rvOf w34 rfl) (w_dg1 (by omega) hn l_lt hlt hd1) (by decide) rfl ?_
    refine E_if (t := 37) (b := true) at_X2_readNumber_24 rfl (by decide) ?_
    refine E_aload_n at_X2_readNumber_37 rfl ?_
    refine E_aload_n at_X2_readNumber_38 rfl ?_
    refine E_getfield (v := .int (nI (a + 1))) at_X2_readNumber_39 w34 rfl (by decide) rfl ?_
    refine E_putfield (cs2 := (ww im lf s d k ls (-1) (nI n) (nI (a + 1)) (nI (a + 1)) rq lt m1 m2 m3 m4 bd fc hd sz el t g fm hm so si sh ce ca td wa kp la bf oo bo pw ow tr)) at_X2_readNumber_42 w34 rfl (by decide) (Nat.le_of_ble_eq_true rfl) rfl rfl rfl rfl ?_
    refine E_aload_n at_X2_readNumber_45 rfl ?_
    refine E_callV (v := some (.int (nI (dv e (a + 1))))) (As := [.ref 34]) (r0 := []) (cs2 := (ww im lf s d k ls (-1) (nI n) (nI (a + 1 + 1)) (nI (a + 1)) rq lt m1 m2 m3 m4 bd fc hd sz el t g fm hm so si sh ce ca td wa kp la bf oo bo pw ow tr)) at_X2_readNumber_46 rfl rfl (Nat.le_of_ble_eq_true rfl) rfl (ab_rvOf w34 rfl) (w_rdd hn (by omega) l_lt hlt hd1) (by decide) w_lens ?_
    refine E_istore_n (L2 := [some (.ref 34), some (.int (nI lo)), some (.int hi), some (.int (nI (dv e (a + 1))))]) at_X2_readNumber_49 rfl ?_
    refine E_aload_n at_X2_readNumber_50 rfl ?_
    refine E_aload_n at_X2_readNumber_51 rfl ?_
    refine E_getfield (v := .int (nI (a + 1 + 1))) at_X2_readNumber_52 w34 rfl (by decide) rfl ?_
    refine E_callV (v := some (.int (nI 0))) (As := [.ref 34, .int (nI (a + 1 + 1))]) (r0 := []) (cs2 := (ww im lf s d k ls (-1) (nI n) (nI (a + 1 + 1)) (nI (a + 1)) rq lt m1 m2 m3 m4 bd fc hd sz el t g fm hm so si sh ce ca td wa kp la bf oo bo pw ow tr)) at_X2_readNumber_55 rfl rfl (Nat.le_of_ble_eq_true rfl) rfl (ab_rvOf w34 rfl) (w_dg0 (by omega) hn l_lt hlt hd2) (by decide) rfl ?_
    refine E_if (t := 71) (b := true) at_X2_readNumber_58 rfl (by decide) ?_
    exact X
  · have hvhd1 := (dv_eq hd1).2.1
    have hd3 := (dgB_t hd2).1
    have hvhd2 := (dv_eq hd2).2.1
    have hV : nuV e n (a + 1) = ((dv e (a + 1)) * 10) + (dv e (a + 2)) := if_pos hd2
    have hE : nuE e n (a + 1) = a + 2 + 1 := if_pos hd2
    have X : Ef ab_Z0 2 mX2_readNumber (71, [some (.ref 34), some (.int (nI lo)), some (.int hi), some (.int (nI (nuV e n (a + 1))))], [], (ww im lf s d k ls (-1) (nI n) (nI (nuE e n (a + 1))) (nI (a + 1)) rq lt m1 m2 m3 m4 bd fc hd sz el t g fm hm so si sh ce ca td wa kp la bf oo bo pw ow tr)) (some (.int (nI (nuV e n (a + 1)))), (ww im lf s d k ls (-1) (nI n) (nI (nuE e n (a + 1))) (nI (a + 1)) rq lt m1 m2 m3 m4 bd fc hd sz el t g fm hm so si sh ce ca td wa kp la bf oo bo pw ow tr)) := by
      refine E_iload_n rfl rfl ?_
      refine E_iload_n rfl rfl ?_
      refine E_ic (t := 81) (b := false) rfl rfl ((cn_lt (nI_toInt (by omega)) (nI_toInt (by omega))).trans (decide_eq_false (by omega))) ?_
      refine E_iload_n rfl rfl ?_
      refine E_iload_n rfl rfl ?_
      refine E_ic (t := 89) (b := true) rfl rfl ((cn_le (nI_toInt (by omega)) rfl).trans (decide_eq_true (by omega))) ?_
      refine E_iload_n rfl rfl ?_
      exact E_iret rfl rfl
    rw [hV, hE] at X
    rw [hV, hE]
    refine Ef.in (md := mX2_readNumber) (L := [some (.ref 34), some (.int (nI lo)), some (.int hi), none]) rfl (Nat.le_of_ble_eq_true rfl) rfl ?_
    refine E_aload_n at_X2_readNumber_0 rfl ?_
    refine E_bipush (x := nI 32) at_X2_readNumber_1 (by decide) ?_
    refine E_callV (v := none) (As := [.ref 34, .int (nI 32)]) (r0 := []) (cs2 := (ww im lf s d k ls (-1) (nI n) (nI (a + 1)) rn rq lt m1 m2 m3 m4 bd fc hd sz el t g fm hm so si sh ce ca td wa kp la bf oo bo pw ow tr)) at_X2_readNumber_3 rfl rfl (Nat.le_of_ble_eq_true rfl) rfl (ab_rvOf w34 rfl) (w_sg1 (by decide) hn ha l_lt hlt hb) (by decide) w_lens ?_
    refine E_aload_n at_X2_readNumber_6 rfl ?_
    refine E_getfield (v := .int (-1)) at_X2_readNumber_7 w34 rfl (by decide) rfl ?_
    refine E_iconst (x := (-1)) at_X2_readNumber_10 (by decide) ?_
    refine E_ic (t := 16) (b := true) at_X2_readNumber_11 rfl (by decide) ?_
    refine E_aload_n at_X2_readNumber_16 rfl ?_
    refine E_aload_n at_X2_readNumber_17 rfl ?_
    refine E_getfield (v := .int (nI (a + 1))) at_X2_readNumber_18 w34 rfl (by decide) rfl ?_
    refine E_callV (v := some (.int (nI 1))) (As := [.ref 34, .int (nI (a + 1))]) (r0 := []) (cs2 := (ww im lf s d k ls (-1) (nI n) (nI (a + 1)) rn rq lt m1 m2 m3 m4 bd fc hd sz el t g fm hm so si sh ce ca td wa kp la bf oo bo pw ow tr)) at_X2_readNumber_21 rfl rfl (Nat.le_of_ble_eq_true rfl) rfl (ab_rvOf w34 rfl) (w_dg1 (by omega) hn l_lt hlt hd1) (by decide) rfl ?_
    refine E_if (t := 37) (b := true) at_X2_readNumber_24 rfl (by decide) ?_
    refine E_aload_n at_X2_readNumber_37 rfl ?_
    refine E_aload_n at_X2_readNumber_38 rfl ?_
    refine E_getfield (v := .int (nI (a + 1))) at_X2_readNumber_39 w34 rfl (by decide) rfl ?_
    refine E_putfield (cs2 := (ww im lf s d k ls (-1) (nI n) (nI (a + 1)) (nI (a + 1)) rq lt m1 m2 m3 m4 bd fc hd sz el t g fm hm so si sh ce ca td wa kp la bf oo bo pw ow tr)) at_X2_readNumber_42 w34 rfl (by decide) (Nat.le_of_ble_eq_true rfl) rfl rfl rfl rfl ?_
    refine E_aload_n at_X2_readNumber_45 rfl ?_
    refine E_callV (v := some (.int (nI (dv e (a + 1))))) (As := [.ref 34]) (r0 := []) (cs2 := (ww im lf s d k ls (-1) (nI n) (nI (a + 1 + 1)) (nI (a + 1)) rq lt m1 m2 m3 m4 bd fc hd sz el t g fm hm so si sh ce ca td wa kp la bf oo bo pw ow tr)) at_X2_readNumber_46 rfl rfl (Nat.le_of_ble_eq_true rfl) rfl (ab_rvOf w34 rfl) (w_rdd hn (by omega) l_lt hlt hd1) (by decide) w_lens ?_
    refine E_istore_n (L2 := [some (.ref 34), some (.int (nI lo)), some (.int hi), some (.int (nI (dv e (a + 1))))]) at_X2_readNumber_49 rfl ?_
    refine E_aload_n at_X2_readNumber_50 rfl ?_
    refine E_aload_n at_X2_readNumber_51 rfl ?_
    refine E_getfield (v := .int (nI (a + 1 + 1))) at_X2_readNumber_52 w34 rfl (by decide) rfl ?_
    refine E_callV (v := some (.int (nI 1))) (As := [.ref 34, .int (nI (a + 1 + 1))]) (r0 := []) (cs2 := (ww im lf s d k ls (-1) (nI n) (nI (a + 1 + 1)) (nI (a + 1)) rq lt m1 m2 m3 m4 bd fc hd sz el t g fm hm so si sh ce ca td wa kp la bf oo bo pw ow tr)) at_X2_readNumber_55 rfl rfl (Nat.le_of_ble_eq_true rfl) rfl (ab_rvOf w34 rfl) (w_dg1 (by omega) hn l_lt hlt hd2) (by decide) rfl ?_
    refine E_if (t := 71) (b := false) at_X2_readNumber_58 rfl (by decide) ?_
    refine E_iload_n at_X2_readNumber_61 rfl ?_
    refine E_bipush (x := nI 10) at_X2_readNumber_62 (by decide) ?_
    refine E_imul (z := nI ((dv e (a + 1)) * 10)) at_X2_readNumber_64 (pk_mul _ _) ?_
    refine E_aload_n at_X2_readNumber_65 rfl ?_
    refine E_callV (v := some (.int (nI (dv e (a + 2))))) (As := [.ref 34]) (r0 := [.int (nI ((dv e (a + 1)) * 10))]) (cs2 := (ww im lf s d k ls (-1) (nI n) (nI (a + 2 + 1)) (nI (a + 1)) rq lt m1 m2 m3 m4 bd fc hd sz el t g fm hm so si sh ce ca td wa kp la bf oo bo pw ow tr)) at_X2_readNumber_66 rfl rfl (Nat.le_of_ble_eq_true rfl) rfl (ab_rvOf w34 rfl) (w_rdd hn (by omega) l_lt hlt hd2) (by decide) w_lens ?_
    refine E_iadd (z := nI (((dv e (a + 1)) * 10) + (dv e (a + 2)))) at_X2_readNumber_69 (nI_add _ _) ?_
    refine E_istore_n (L2 := [some (.ref 34), some (.int (nI lo)), some (.int hi), some (.int (nI (((dv e (a + 1)) * 10) + (dv e (a + 2)))))]) at_X2_readNumber_70 rfl ?_
    exact X
set_option maxHeartbeats 1000000 in
theorem w_nuD {e : List Int64} {n a lo : Nat} {hi : Int32} (hlo : lo < 1000) (hn : n ≤ 160) (ha : a ≤ n) (l_lt : lt.length = 160) (hlt : ∀ i, i < n → lt.getD i 0 = tw e i) (hb : chB e n a 32 = true) (hd1 : dgB e n (a + 1) = true) (h1 : nuV e n (a + 1) < lo ∨ hi.toInt < ((nuV e n (a + 1) : Nat) : Int)) : Ev ab_Z0 3 26 [.ref 34, .int (nI lo), .int hi] (ww im lf s d k ls (-1) (nI n) (nI a) rn rq lt m1 m2 m3 m4 bd fc hd sz el t g fm hm so si sh ce ca td wa kp la bf oo bo pw ow tr) (some (.int (nI (nuV e n (a + 1)))), (ww im lf s d k ls (nI (a + 1)) (nI n) (nI (nuE e n (a + 1))) (nI (a + 1)) rq lt m1 m2 m3 m4 bd fc hd sz el t g fm hm so si sh ce ca td wa kp la bf oo bo pw ow tr)) := by
  have hb2 := (chB_t hb).1
  have hd0 := (dgB_t hd1).1
  have h99 := nuV_99 hd1
  rcases bo2 (dgB e n (a + 2)) with hd2 | hd2
  · rcases h1 with h3 | h3
    · have hvhd1 := (dv_eq hd1).2.1
      have hV : nuV e n (a + 1) = dv e (a + 1) := if_neg (by rw [hd2]; decide)
      have hE : nuE e n (a + 1) = a + 1 + 1 := if_neg (by rw [hd2]; decide)
      have X : Ef ab_Z0 2 mX2_readNumber (71, [some (.ref 34), some (.int (nI lo)), some (.int hi), some (.int (nI (nuV e n (a + 1))))], [], (ww im lf s d k ls (-1) (nI n) (nI (nuE e n (a + 1))) (nI (a + 1)) rq lt m1 m2 m3 m4 bd fc hd sz el t g fm hm so si sh ce ca td wa kp la bf oo bo pw ow tr)) (some (.int (nI (nuV e n (a + 1)))), (ww im lf s d k ls (nI (a + 1)) (nI n) (nI (nuE e n (a + 1))) (nI (a + 1)) rq lt m1 m2 m3 m4 bd fc hd sz el t g fm hm so si sh ce ca td wa kp la bf oo bo pw ow tr)) := by
        refine E_iload_n rfl rfl ?_
        refine E_iload_n rfl rfl ?_
        refine E_ic (t := 81) (b := true) rfl rfl ((cn_lt (nI_toInt (by omega)) (nI_toInt (by omega))).trans (decide_eq_true (by omega))) ?_
        refine E_aload_n rfl rfl ?_
        refine E_aload_n rfl rfl ?_
        refine E_getfield (v := .int (nI (a + 1))) rfl w34 rfl (by decide) rfl ?_
        refine E_putfield (cs2 := (ww im lf s d k ls (nI (a + 1)) (nI n) (nI (nuE e n (a + 1))) (nI (a + 1)) rq lt m1 m2 m3 m4 bd fc hd sz el t g fm hm so si sh ce ca td wa kp la bf oo bo pw ow tr)) rfl w34 rfl (by decide) (Nat.le_of_ble_eq_true rfl) rfl rfl rfl rfl ?_
        refine E_iload_n rfl rfl ?_
        exact E_iret rfl rfl
      rw [hV, hE] at X
      rw [hV, hE]
      refine Ef.in (md := mX2_readNumber) (L := [some (.ref 34), some (.int (nI lo)), some (.int hi), none]) rfl (Nat.le_of_ble_eq_true rfl) rfl ?_
      refine E_aload_n at_X2_readNumber_0 rfl ?_
      refine E_bipush (x := nI 32) at_X2_readNumber_1 (by decide) ?_
      refine E_callV (v := none) (As := [.ref 34, .int (nI 32)]) (r0 := []) (cs2 := (ww im lf s d k ls (-1) (nI n) (nI (a + 1)) rn rq lt m1 m2 m3 m4 bd fc hd sz el t g fm hm so si sh ce ca td wa kp la bf oo bo pw ow tr)) at_X2_readNumber_3 rfl rfl (Nat.le_of_ble_eq_true rfl) rfl (ab_rvOf w34 rfl) (w_sg1 (by decide) hn ha l_lt hlt hb) (by decide) w_lens ?_
      refine E_aload_n at_X2_readNumber_6 rfl ?_
      refine E_getfield (v := .int (-1)) at_X2_readNumber_7 w34 rfl (by decide) rfl ?_
      refine E_iconst (x := (-1)) at_X2_readNumber_10 (by decide) ?_
      refine E_ic (t := 16) (b := true) at_X2_readNumber_11 rfl (by decide) ?_
      refine E_aload_n at_X2_readNumber_16 rfl ?_
      refine E_aload_n at_X2_readNumber_17 rfl ?_
      refine E_getfield (v := .int (nI (a + 1))) at_X2_readNumber_18 w34 rfl (by decide) rfl ?_
      refine E_callV (v := some (.int (nI 1))) (As := [.ref 34, .int (nI (a + 1))]) (r0 := []) (cs2 := (ww im lf s d k ls (-1) (nI n) (nI (a + 1)) rn rq lt m1 m2 m3 m4 bd fc hd sz el t g fm hm so si sh ce ca td wa kp la bf oo bo pw ow tr)) at_X2_readNumber_21 rfl rfl (Nat.le_of_ble_eq_true rfl) rfl (ab_rvOf w34 rfl) (w_dg1 (by omega) hn l_lt hlt hd1) (by decide) rfl ?_
      refine E_if (t := 37) (b := true) at_X2_readNumber_24 rfl (by decide) ?_
      refine E_aload_n at_X2_readNumber_37 rfl ?_
      refine E_aload_n at_X2_readNumber_38 rfl ?_
      refine E_getfield (v := .int (nI (a + 1))) at_X2_readNumber_39 w34 rfl (by decide) rfl ?_
      refine E_putfield (cs2 := (ww im lf s d k ls (-1) (nI n) (nI (a + 1)) (nI (a + 1)) rq lt m1 m2 m3 m4 bd fc hd sz el t g fm hm so si sh ce ca td wa kp la bf oo bo pw ow tr)) at_X2_readNumber_42 w34 rfl (by decide) (Nat.le_of_ble_eq_true rfl) rfl rfl rfl rfl ?_
      refine E_aload_n at_X2_readNumber_45 rfl ?_
      refine E_callV (v := some (.int (nI (dv e (a + 1))))) (As := [.ref 34]) (r0 := []) (cs2 := (ww im lf s d k ls (-1) (nI n) (nI (a + 1 + 1)) (nI (a + 1)) rq lt m1 m2 m3 m4 bd fc hd sz el t g fm hm so si sh ce ca td wa kp la bf oo bo pw ow tr)) at_X2_readNumber_46 rfl rfl (Nat.le_of_ble_eq_true rfl) rfl (ab_rvOf w34 rfl) (w_rdd hn (by omega) l_lt hlt hd1) (by decide) w_lens ?_
      refine E_istore_n (L2 := [some (.ref 34), some (.int (nI lo)), some (.int hi), some (.int (nI (dv e (a + 1))))]) at_X2_readNumber_49 rfl ?_
      refine E_aload_n at_X2_readNumber_50 rfl ?_
      refine E_aload_n at_X2_readNumber_51 rfl ?_
      refine E_getfield (v := .int (nI (a + 1 + 1))) at_X2_readNumber_52 w34 rfl (by decide) rfl ?_
      refine E_callV (v := some (.int (nI 0))) (As := [.ref 34, .int (nI (a + 1 + 1))]) (r0 := []) (cs2 := (ww im lf s d k ls (-1) (nI n) (nI (a + 1 + 1)) (nI (a + 1)) rq lt m1 m2 m3 m4 bd fc hd sz el t g fm hm so si sh ce ca td wa kp la bf oo bo pw ow tr)) at_X2_readNumber_55 rfl rfl (Nat.le_of_ble_eq_true rfl) rfl (ab_rvOf w34 rfl) (w_dg0 (by omega) hn l_lt hlt hd2) (by decide) rfl ?_
      refine E_if (t := 71) (b := true) at_X2_readNumber_58 rfl (by decide) ?_
      exact X
    · by_cases f2 : (nuV e n (a + 1)) < lo
      · have hvhd1 := (dv_eq hd1).2.1
        have hV : nuV e n (a + 1) = dv e (a + 1) := if_neg (by rw [hd2]; decide)
        have hE : nuE e n (a + 1) = a + 1 + 1 := if_neg (by rw [hd2]; decide)
        have X : Ef ab_Z0 2 mX2_readNumber (71, [some (.ref 34), some (.int (nI lo)), some (.int hi), some (.int (nI (nuV e n (a + 1))))], [], (ww im lf s d k ls (-1) (nI n) (nI (nuE e n (a + 1))) (nI (a + 1)) rq lt m1 m2 m3 m4 bd fc hd sz el t g fm hm so si sh ce ca td wa kp la bf oo bo pw ow tr)) (some (.int (nI (nuV e n (a + 1)))), (ww im lf s d k ls (nI (a + 1)) (nI n) (nI (nuE e n (a + 1))) (nI (a + 1)) rq lt m1 m2 m3 m4 bd fc hd sz el t g fm hm so si sh ce ca td wa kp la bf oo bo pw ow tr)) := by
          refine E_iload_n rfl rfl ?_
          refine E_iload_n rfl rfl ?_
          refine E_ic (t := 81) (b := true) rfl rfl ((cn_lt (nI_toInt (by omega)) (nI_toInt (by omega))).trans (decide_eq_true (by omega))) ?_
          refine E_aload_n rfl rfl ?_
          refine E_aload_n rfl rfl ?_
          refine E_getfield (v := .int (nI (a + 1))) rfl w34 rfl (by decide) rfl ?_
          refine E_putfield (cs2 := (ww im lf s d k ls (nI (a + 1)) (nI n) (nI (nuE e n (a + 1))) (nI (a + 1)) rq lt m1 m2 m3 m4 bd fc hd sz el t g fm hm so si sh ce ca td wa kp la bf oo bo pw ow tr)) rfl w34 rfl (by decide) (Nat.le_of_ble_eq_true rfl) rfl rfl rfl rfl ?_
          refine E_iload_n rfl rfl ?_
          exact E_iret rfl rfl
        rw [hV, hE] at X
        rw [hV, hE]
        refine Ef.in (md := mX2_readNumber) (L := [some (.ref 34), some (.int (nI lo)), some (.int hi), none]) rfl (Nat.le_of_ble_eq_true rfl) rfl ?_
        refine E_aload_n at_X2_readNumber_0 rfl ?_
        refine E_bipush (x := nI 32) at_X2_readNumber_1 (by decide) ?_
        refine E_callV (v := none) (As := [.ref 34, .int (nI 32)]) (r0 := []) (cs2 := (ww im lf s d k ls (-1) (nI n) (nI (a + 1)) rn rq lt m1 m2 m3 m4 bd fc hd sz el t g fm hm so si sh ce ca td wa kp la bf oo bo pw ow tr)) at_X2_readNumber_3 rfl rfl (Nat.le_of_ble_eq_true rfl) rfl (ab_rvOf w34 rfl) (w_sg1 (by decide) hn ha l_lt hlt hb) (by decide) w_lens ?_
        refine E_aload_n at_X2_readNumber_6 rfl ?_
        refine E_getfield (v := .int (-1)) at_X2_readNumber_7 w34 rfl (by decide) rfl ?_
        refine E_iconst (x := (-1)) at_X2_readNumber_10 (by decide) ?_
        refine E_ic (t := 16) (b := true) at_X2_readNumber_11 rfl (by decide) ?_
        refine E_aload_n at_X2_readNumber_16 rfl ?_
        refine E_aload_n at_X2_readNumber_17 rfl ?_
        refine E_getfield (v := .int (nI (a + 1))) at_X2_readNumber_18 w34 rfl (by decide) rfl ?_
        refine E_callV (v := some (.int (nI 1))) (As := [.ref 34, .int (nI (a + 1))]) (r0 := []) (cs2 := (ww im lf s d k ls (-1) (nI n) (nI (a + 1)) rn rq lt m1 m2 m3 m4 bd fc hd sz el t g fm hm so si sh ce ca td wa kp la bf oo bo pw ow tr)) at_X2_readNumber_21 rfl rfl (Nat.le_of_ble_eq_true rfl) rfl (ab_rvOf w34 rfl) (w_dg1 (by omega) hn l_lt hlt hd1) (by decide) rfl ?_
        refine E_if (t := 37) (b := true) at_X2_readNumber_24 rfl (by decide) ?_
        refine E_aload_n at_X2_readNumber_37 rfl ?_
        refine E_aload_n at_X2_readNumber_38 rfl ?_
        refine E_getfield (v := .int (nI (a + 1))) at_X2_readNumber_39 w34 rfl (by decide) rfl ?_
        refine E_putfield (cs2 := (ww im lf s d k ls (-1) (nI n) (nI (a + 1)) (nI (a + 1)) rq lt m1 m2 m3 m4 bd fc hd sz el t g fm hm so si sh ce ca td wa kp la bf oo bo pw ow tr)) at_X2_readNumber_42 w34 rfl (by decide) (Nat.le_of_ble_eq_true rfl) rfl rfl rfl rfl ?_
        refine E_aload_n at_X2_readNumber_45 rfl ?_
        refine E_callV (v := some (.int (nI (dv e (a + 1))))) (As := [.ref 34]) (r0 := []) (cs2 := (ww im lf s d k ls (-1) (nI n) (nI (a + 1 + 1)) (nI (a + 1)) rq lt m1 m2 m3 m4 bd fc hd sz el t g fm hm so si sh ce ca td wa kp la bf oo bo pw ow tr)) at_X2_readNumber_46 rfl rfl (Nat.le_of_ble_eq_true rfl) rfl (ab_rvOf w34 rfl) (w_rdd hn (by omega) l_lt hlt hd1) (by decide) w_lens ?_
        refine E_istore_n (L2 := [some (.ref 34), some (.int (nI lo)), some (.int hi), some (.int (nI (dv e (a + 1))))]) at_X2_readNumber_49 rfl ?_
        refine E_aload_n at_X2_readNumber_50 rfl ?_
        refine E_aload_n at_X2_readNumber_51 rfl ?_
        refine E_getfield (v := .int (nI (a + 1 + 1))) at_X2_readNumber_52 w34 rfl (by decide) rfl ?_
        refine E_callV (v := some (.int (nI 0))) (As := [.ref 34, .int (nI (a + 1 + 1))]) (r0 := []) (cs2 := (ww im lf s d k ls (-1) (nI n) (nI (a + 1 + 1)) (nI (a + 1)) rq lt m1 m2 m3 m4 bd fc hd sz el t g fm hm so si sh ce ca td wa kp la bf oo bo pw ow tr)) at_X2_readNumber_55 rfl rfl (Nat.le_of_ble_eq_true rfl) rfl (ab_rvOf w34 rfl) (w_dg0 (by omega) hn l_lt hlt hd2) (by decide) rfl ?_
        refine E_if (t := 71) (b := true) at_X2_readNumber_58 rfl (by decide) ?_
        exact X
      · have hvhd1 := (dv_eq hd1).2.1
        have hV : nuV e n (a + 1) = dv e (a + 1) := if_neg (by rw [hd2]; decide)
        have hE : nuE e n (a + 1) = a + 1 + 1 := if_neg (by rw [hd2]; decide)
        have X : Ef ab_Z0 2 mX2_readNumber (71, [some (.ref 34), some (.int (nI lo)), some (.int hi), some (.int (nI (nuV e n (a + 1))))], [], (ww im lf s d k ls (-1) (nI n) (nI (nuE e n (a + 1))) (nI (a + 1)) rq lt m1 m2 m3 m4 bd fc hd sz el t g fm hm so si sh ce ca td wa kp la bf oo bo pw ow tr)) (some (.int (nI (nuV e n (a + 1)))), (ww im lf s d k ls (nI (a + 1)) (nI n) (nI (nuE e n (a + 1))) (nI (a + 1)) rq lt m1 m2 m3 m4 bd fc hd sz el t g fm hm so si sh ce ca td wa kp la bf oo bo pw ow tr)) := by
          refine E_iload_n rfl rfl ?_
          refine E_iload_n rfl rfl ?_
          refine E_ic (t := 81) (b := false) rfl rfl ((cn_lt (nI_toInt (by omega)) (nI_toInt (by omega))).trans (decide_eq_false (by omega))) ?_
          refine E_iload_n rfl rfl ?_
          refine E_iload_n rfl rfl ?_
          refine E_ic (t := 89) (b := false) rfl rfl ((cn_le (nI_toInt (by omega)) rfl).trans (decide_eq_false (by omega))) ?_
          refine E_aload_n rfl rfl ?_
          refine E_aload_n rfl rfl ?_
          refine E_getfield (v := .int (nI (a + 1))) rfl w34 rfl (by decide) rfl ?_
          refine E_putfield (cs2 := (ww im lf s d k ls (nI (a + 1)) (nI n) (nI (nuE e n (a + 1))) (nI (a + 1)) rq lt m1 m2 m3 m4 bd fc hd sz el t g fm hm so si sh ce ca td wa kp la bf oo bo pw ow tr)) rfl w34 rfl (by decide) (Nat.le_of_ble_eq_true rfl) rfl rfl rfl rfl ?_
          refine E_iload_n rfl rfl ?_
          exact E_iret rfl rfl
        rw [hV, hE] at X
        rw [hV, hE]
        refine Ef.in (md := mX2_readNumber) (L := [some (.ref 34), some (.int (nI lo)), some (.int hi), none]) rfl (Nat.le_of_ble_eq_true rfl) rfl ?_
        refine E_aload_n at_X2_readNumber_0 rfl ?_
        refine E_bipush (x := nI 32) at_X2_readNumber_1 (by decide) ?_
        refine E_callV (v := none) (As := [.ref 34, .int (nI 32)]) (r0 := []) (cs2 := (ww im lf s d k ls (-1) (nI n) (nI (a + 1)) rn rq lt m1 m2 m3 m4 bd fc hd sz el t g fm hm so si sh ce ca td wa kp la bf oo bo pw ow tr)) at_X2_readNumber_3 rfl rfl (Nat.le_of_ble_eq_true rfl) rfl (ab_rvOf w34 rfl) (w_sg1 (by decide) hn ha l_lt hlt hb) (by decide) w_lens ?_
        refine E_aload_n at_X2_readNumber_6 rfl ?_
        refine E_getfield (v := .int (-1)) at_X2_readNumber_7 w34 rfl (by decide) rfl ?_
        refine E_iconst (x := (-1)) at_X2_readNumber_10 (by decide) ?_
        refine E_ic (t := 16) (b := true) at_X2_readNumber_11 rfl (by decide) ?_
        refine E_aload_n at_X2_readNumber_16 rfl ?_
        refine E_aload_n at_X2_readNumber_17 rfl ?_
        refine E_getfield (v := .int (nI (a + 1))) at_X2_readNumber_18 w34 rfl (by decide) rfl ?_
        refine E_callV (v := some (.int (nI 1))) (As := [.ref 34, .int (nI (a + 1))]) (r0 := []) (cs2 := (ww im lf s d k ls (-1) (nI n) (nI (a + 1)) rn rq lt m1 m2 m3 m4 bd fc hd sz el t g fm hm so si sh ce ca td wa kp la bf oo bo pw ow tr)) at_X2_readNumber_21 rfl rfl (Nat.le_of_ble_eq_true rfl) rfl (ab_rvOf w34 rfl) (w_dg1 (by omega) hn l_lt hlt hd1) (by decide) rfl ?_
        refine E_if (t := 37) (b := true) at_X2_readNumber_24 rfl (by decide) ?_
        refine E_aload_n at_X2_readNumber_37 rfl ?_
        refine E_aload_n at_X2_readNumber_38 rfl ?_
        refine E_getfield (v := .int (nI (a + 1))) at_X2_readNumber_39 w34 rfl (by decide) rfl ?_
        refine E_putfield (cs2 := (ww im lf s d k ls (-1) (nI n) (nI (a + 1)) (nI (a + 1)) rq lt m1 m2 m3 m4 bd fc hd sz el t g fm hm so si sh ce ca td wa kp la bf oo bo pw ow tr)) at_X2_readNumber_42 w34 rfl (by decide) (Nat.le_of_ble_eq_true rfl) rfl rfl rfl rfl ?_
        refine E_aload_n at_X2_readNumber_45 rfl ?_
        refine E_callV (v := some (.int (nI (dv e (a + 1))))) (As := [.ref 34]) (r0 := []) (cs2 := (ww im lf s d k ls (-1) (nI n) (nI (a + 1 + 1)) (nI (a + 1)) rq lt m1 m2 m3 m4 bd fc hd sz el t g fm hm so si sh ce ca td wa kp la bf oo bo pw ow tr)) at_X2_readNumber_46 rfl rfl (Nat.le_of_ble_eq_true rfl) rfl (ab_rvOf w34 rfl) (w_rdd hn (by omega) l_lt hlt hd1) (by decide) w_lens ?_
        refine E_istore_n (L2 := [some (.ref 34), some (.int (nI lo)), some (.int hi), some (.int (nI (dv e (a + 1))))]) at_X2_readNumber_49 rfl ?_
        refine E_aload_n at_X2_readNumber_50 rfl ?_
        refine E_aload_n at_X2_readNumber_51 rfl ?_
        refine E_getfield (v := .int (nI (a + 1 + 1))) at_X2_readNumber_52 w34 rfl (by decide) rfl ?_
        refine E_callV (v := some (.int (nI 0))) (As := [.ref 34, .int (nI (a + 1 + 1))]) (r0 := []) (cs2 := (ww im lf s d k ls (-1) (nI n) (nI (a + 1 + 1)) (nI (a + 1)) rq lt m1 m2 m3 m4 bd fc hd sz el t g fm hm so si sh ce ca td wa kp la bf oo bo pw ow tr)) at_X2_readNumber_55 rfl rfl (Nat.le_of_ble_eq_true rfl) rfl (ab_rvOf w34 rfl) (w_dg0 (by omega) hn l_lt hlt hd2) (by decide) rfl ?_
        refine E_if (t := 71) (b := true) at_X2_readNumber_58 rfl (by decide) ?_
        exact X
  · rcases h1 with h3 | h3
    · have hvhd1 := (dv_eq hd1).2.1
      have hd3 := (dgB_t hd2).1
      have hvhd2 := (dv_eq hd2).2.1
      have hV : nuV e n (a + 1) = ((dv e (a + 1)) * 10) + (dv e (a + 2)) := if_pos hd2
      have hE : nuE e n (a + 1) = a + 2 + 1 := if_pos hd2
      have X : Ef ab_Z0 2 mX2_readNumber (71, [some (.ref 34), some (.int (nI lo)), some (.int hi), some (.int (nI (nuV e n (a + 1))))], [], (ww im lf s d k ls (-1) (nI n) (nI (nuE e n (a + 1))) (nI (a + 1)) rq lt m1 m2 m3 m4 bd fc hd sz el t g fm hm so si sh ce ca td wa kp la bf oo bo pw ow tr)) (some (.int (nI (nuV e n (a + 1)))), (ww im lf s d k ls (nI (a + 1)) (nI n) (nI (nuE e n (a + 1))) (nI (a + 1)) rq lt m1 m2 m3 m4 bd fc hd sz el t g fm hm so si sh ce ca td wa kp la bf oo bo pw ow tr)) := by
        refine E_iload_n rfl rfl ?_
        refine E_iload_n rfl rfl ?_
        refine E_ic (t := 81) (b := true) rfl rfl ((cn_lt (nI_toInt (by omega)) (nI_toInt (by omega))).trans (decide_eq_true (by omega))) ?_
        refine E_aload_n rfl rfl ?_
        refine E_aload_n rfl rfl ?_
        refine E_getfield (v := .int (nI (a + 1))) rfl w34 rfl (by decide) rfl ?_
        refine E_putfield (cs2 := (ww im lf s d k ls (nI (a + 1)) (nI n) (nI (nuE e n (a + 1))) (nI (a + 1)) rq lt m1 m2 m3 m4 bd fc hd sz el t g fm hm so si sh ce ca td wa kp la bf oo bo pw ow tr)) rfl w34 rfl (by decide) (Nat.le_of_ble_eq_true rfl) rfl rfl rfl rfl ?_
        refine E_iload_n rfl rfl ?_
        exact E_iret rfl rfl
      rw [hV, hE] at X
      rw [hV, hE]
      refine Ef.in (md := mX2_readNumber) (L := [some (.ref 34), some (.int (nI lo)), some (.int hi), none]) rfl (Nat.le_of_ble_eq_true rfl) rfl ?_
      refine E_aload_n at_X2_readNumber_0 rfl ?_
      refine E_bipush (x := nI 32) at_X2_readNumber_1 (by decide) ?_
      refine E_callV (v := none) (As := [.ref 34, .int (nI 32)]) (r0 := []) (cs2 := (ww im lf s d k ls (-1) (nI n) (nI (a + 1)) rn rq lt m1 m2 m3 m4 bd fc hd sz el t g fm hm so si sh ce ca td wa kp la bf oo bo pw ow tr)) at_X2_readNumber_3 rfl rfl (Nat.le_of_ble_eq_true rfl) rfl (ab_rvOf w34 rfl) (w_sg1 (by decide) hn ha l_lt hlt hb) (by decide) w_lens ?_
      refine E_aload_n at_X2_readNumber_6 rfl ?_
      refine E_getfield (v := .int (-1)) at_X2_readNumber_7 w34 rfl (by decide) rfl ?_
      refine E_iconst (x := (-1)) at_X2_readNumber_10 (by decide) ?_
      refine E_ic (t := 16) (b := true) at_X2_readNumber_11 rfl (by decide) ?_
      refine E_aload_n at_X2_readNumber_16 rfl ?_
      refine E_aload_n at_X2_readNumber_17 rfl ?_
      refine E_getfield (v := .int (nI (a + 1))) at_X2_readNumber_18 w34 rfl (by decide) rfl ?_
      refine E_callV (v := some (.int (nI 1))) (As := [.ref 34, .int (nI (a + 1))]) (r0 := []) (cs2 := (ww im lf s d k ls (-1) (nI n) (nI (a + 1)) rn rq lt m1 m2 m3 m4 bd fc hd sz el t g fm hm so si sh ce ca td wa kp la bf oo bo pw ow tr)) at_X2_readNumber_21 rfl rfl (Nat.le_of_ble_eq_true rfl) rfl (ab_rvOf w34 rfl) (w_dg1 (by omega) hn l_lt hlt hd1) (by decide) rfl ?_
      refine E_if (t := 37) (b := true) at_X2_readNumber_24 rfl (by decide) ?_
      refine E_aload_n at_X2_readNumber_37 rfl ?_
      refine E_aload_n at_X2_readNumber_38 rfl ?_
      refine E_getfield (v := .int (nI (a + 1))) at_X2_readNumber_39 w34 rfl (by decide) rfl ?_
      refine E_putfield (cs2 := (ww im lf s d k ls (-1) (nI n) (nI (a + 1)) (nI (a + 1)) rq lt m1 m2 m3 m4 bd fc hd sz el t g fm hm so si sh ce ca td wa kp la bf oo bo pw ow tr)) at_X2_readNumber_42 w34 rfl (by decide) (Nat.le_of_ble_eq_true rfl) rfl rfl rfl rfl ?_
      refine E_aload_n at_X2_readNumber_45 rfl ?_
      refine E_callV (v := some (.int (nI (dv e (a + 1))))) (As := [.ref 34]) (r0 := []) (cs2 := (ww im lf s d k ls (-1) (nI n) (nI (a + 1 + 1)) (nI (a + 1)) rq lt m1 m2 m3 m4 bd fc hd sz el t g fm hm so si sh ce ca td wa kp la bf oo bo pw ow tr)) at_X2_readNumber_46 rfl rfl (Nat.le_of_ble_eq_true rfl) rfl (ab_rvOf w34 rfl) (w_rdd hn (by omega) l_lt hlt hd1) (by decide) w_lens ?_
      refine E_istore_n (L2 := [some (.ref 34), some (.int (nI lo)), some (.int hi), some (.int (nI (dv e (a + 1))))]) at_X2_readNumber_49 rfl ?_
      refine E_aload_n at_X2_readNumber_50 rfl ?_
      refine E_aload_n at_X2_readNumber_51 rfl ?_
      refine E_getfield (v := .int (nI (a + 1 + 1))) at_X2_readNumber_52 w34 rfl (by decide) rfl ?_
      refine E_callV (v := some (.int (nI 1))) (As := [.ref 34, .int (nI (a + 1 + 1))]) (r0 := []) (cs2 := (ww im lf s d k ls (-1) (nI n) (nI (a + 1 + 1)) (nI (a + 1)) rq lt m1 m2 m3 m4 bd fc hd sz el t g fm hm so si sh ce ca td wa kp la bf oo bo pw ow tr)) at_X2_readNumber_55 rfl rfl (Nat.le_of_ble_eq_true rfl) rfl (ab_rvOf w34 rfl) (w_dg1 (by omega) hn l_lt hlt hd2) (by decide) rfl ?_
      refine E_if (t := 71) (b := false) at_X2_readNumber_58 rfl (by decide) ?_
      refine E_iload_n at_X2_readNumber_61 rfl ?_
      refine E_bipush (x := nI 10) at_X2_readNumber_62 (by decide) ?_
      refine E_imul (z := nI ((dv e (a + 1)) * 10)) at_X2_readNumber_64 (pk_mul _ _) ?_
      refine E_aload_n at_X2_readNumber_65 rfl ?_
      refine E_callV (v := some (.int (nI (dv e (a + 2))))) (As := [.ref 34]) (r0 := [.int (nI ((dv e (a + 1)) * 10))]) (cs2 := (ww im lf s d k ls (-1) (nI n) (nI (a + 2 + 1)) (nI (a + 1)) rq lt m1 m2 m3 m4 bd fc hd sz el t g fm hm so si sh ce ca td wa kp la bf oo bo pw ow tr)) at_X2_readNumber_66 rfl rfl (Nat.le_of_ble_eq_true rfl) rfl (ab_rvOf w34 rfl) (w_rdd hn (by omega) l_lt hlt hd2) (by decide) w_lens ?_
      refine E_iadd (z := nI (((dv e (a + 1)) * 10) + (dv e (a + 2)))) at_X2_readNumber_69 (nI_add _ _) ?_
      refine E_istore_n (L2 := [some (.ref 34), some (.int (nI lo)), some (.int hi), some (.int (nI (((dv e (a + 1)) * 10) + (dv e (a + 2)))))]) at_X2_readNumber_70 rfl ?_
      exact X
    · by_cases f2 : (nuV e n (a + 1)) < lo
      · have hvhd1 := (dv_eq hd1).2.1
        have hd3 := (dgB_t hd2).1
        have hvhd2 := (dv_eq hd2).2.1
        have hV : nuV e n (a + 1) = ((dv e (a + 1)) * 10) + (dv e (a + 2)) := if_pos hd2
        have hE : nuE e n (a + 1) = a + 2 + 1 := if_pos hd2
        have X : Ef ab_Z0 2 mX2_readNumber (71, [some (.ref 34), some (.int (nI lo)), some (.int hi), some (.int (nI (nuV e n (a + 1))))], [], (ww im lf s d k ls (-1) (nI n) (nI (nuE e n (a + 1))) (nI (a + 1)) rq lt m1 m2 m3 m4 bd fc hd sz el t g fm hm so si sh ce ca td wa kp la bf oo bo pw ow tr)) (some (.int (nI (nuV e n (a + 1)))), (ww im lf s d k ls (nI (a + 1)) (nI n) (nI (nuE e n (a + 1))) (nI (a + 1)) rq lt m1 m2 m3 m4 bd fc hd sz el t g fm hm so si sh ce ca td wa kp la bf oo bo pw ow tr)) := by
          refine E_iload_n rfl rfl ?_
          refine E_iload_n rfl rfl ?_
          refine E_ic (t := 81) (b := true) rfl rfl ((cn_lt (nI_toInt (by omega)) (nI_toInt (by omega))).trans (decide_eq_true (by omega))) ?_
          refine E_aload_n rfl rfl ?_
          refine E_aload_n rfl rfl ?_
          refine E_getfield (v := .int (nI (a + 1))) rfl w34 rfl (by decide) rfl ?_
          refine E_putfield (cs2 := (ww im lf s d k ls (nI (a + 1)) (nI n) (nI (nuE e n (a + 1))) (nI (a + 1)) rq lt m1 m2 m3 m4 bd fc hd sz el t g fm hm so si sh ce ca td wa kp la bf oo bo pw ow tr)) rfl w34 rfl (by decide) (Nat.le_of_ble_eq_true rfl) rfl rfl rfl rfl ?_
          refine E_iload_n rfl rfl ?_
          exact E_iret rfl rfl
        rw [hV, hE] at X
        rw [hV, hE]
        refine Ef.in (md := mX2_readNumber) (L := [some (.ref 34), some (.int (nI lo)), some (.int hi), none]) rfl (Nat.le_of_ble_eq_true rfl) rfl ?_
        refine E_aload_n at_X2_readNumber_0 rfl ?_
        refine E_bipush (x := nI 32) at_X2_readNumber_1 (by decide) ?_
        refine E_callV (v := none) (As := [.ref 34, .int (nI 32)]) (r0 := []) (cs2 := (ww im lf s d k ls (-1) (nI n) (nI (a + 1)) rn rq lt m1 m2 m3 m4 bd fc hd sz el t g fm hm so si sh ce ca td wa kp la bf oo bo pw ow tr)) at_X2_readNumber_3 rfl rfl (Nat.le_of_ble_eq_true rfl) rfl (ab_rvOf w34 rfl) (w_sg1 (by decide) hn ha l_lt hlt hb) (by decide) w_lens ?_
        refine E_aload_n at_X2_readNumber_6 rfl ?_
        refine E_getfield (v := .int (-1)) at_X2_readNumber_7 w34 rfl (by decide) rfl ?_
        refine E_iconst (x := (-1)) at_X2_readNumber_10 (by decide) ?_
        refine E_ic (t := 16) (b := true) at_X2_readNumber_11 rfl (by decide) ?_
        refine E_aload_n at_X2_readNumber_16 rfl ?_
        refine E_aload_n at_X2_readNumber_17 rfl ?_
        refine E_getfield (v := .int (nI (a + 1))) at_X2_readNumber_18 w34 rfl (by decide) rfl ?_
        refine E_callV (v := some (.int (nI 1))) (As := [.ref 34, .int (nI (a + 1))]) (r0 := []) (cs2 := (ww im lf s d k ls (-1) (nI n) (nI (a + 1)) rn rq lt m1 m2 m3 m4 bd fc hd sz el t g fm hm so si sh ce ca td wa kp la bf oo bo pw ow tr)) at_X2_readNumber_21 rfl rfl (Nat.le_of_ble_eq_true rfl) rfl (ab_rvOf w34 rfl) (w_dg1 (by omega) hn l_lt hlt hd1) (by decide) rfl ?_
        refine E_if (t := 37) (b := true) at_X2_readNumber_24 rfl (by decide) ?_
        refine E_aload_n at_X2_readNumber_37 rfl ?_
        refine E_aload_n at_X2_readNumber_38 rfl ?_
        refine E_getfield (v := .int (nI (a + 1))) at_X2_readNumber_39 w34 rfl (by decide) rfl ?_
        refine E_putfield (cs2 := (ww im lf s d k ls (-1) (nI n) (nI (a + 1)) (nI (a + 1)) rq lt m1 m2 m3 m4 bd fc hd sz el t g fm hm so si sh ce ca td wa kp la bf oo bo pw ow tr)) at_X2_readNumber_42 w34 rfl (by decide) (Nat.le_of_ble_eq_true rfl) rfl rfl rfl rfl ?_
        refine E_aload_n at_X2_readNumber_45 rfl ?_
        refine E_callV (v := some (.int (nI (dv e (a + 1))))) (As := [.ref 34]) (r0 := []) (cs2 := (ww im lf s d k ls (-1) (nI n) (nI (a + 1 + 1)) (nI (a + 1)) rq lt m1 m2 m3 m4 bd fc hd sz el t g fm hm so si sh ce ca td wa kp la bf oo bo pw ow tr)) at_X2_readNumber_46 rfl rfl (Nat.le_of_ble_eq_true rfl) rfl (ab_rvOf w34 rfl) (w_rdd hn (by omega) l_lt hlt hd1) (by decide) w_lens ?_
        refine E_istore_n (L2 := [some (.ref 34), some (.int (nI lo)), some (.int hi), some (.int (nI (dv e (a + 1))))]) at_X2_readNumber_49 rfl ?_
        refine E_aload_n at_X2_readNumber_50 rfl ?_
        refine E_aload_n at_X2_readNumber_51 rfl ?_
        refine E_getfield (v := .int (nI (a + 1 + 1))) at_X2_readNumber_52 w34 rfl (by decide) rfl ?_
        refine E_callV (v := some (.int (nI 1))) (As := [.ref 34, .int (nI (a + 1 + 1))]) (r0 := []) (cs2 := (ww im lf s d k ls (-1) (nI n) (nI (a + 1 + 1)) (nI (a + 1)) rq lt m1 m2 m3 m4 bd fc hd sz el t g fm hm so si sh ce ca td wa kp la bf oo bo pw ow tr)) at_X2_readNumber_55 rfl rfl (Nat.le_of_ble_eq_true rfl) rfl (ab_rvOf w34 rfl) (w_dg1 (by omega) hn l_lt hlt hd2) (by decide) rfl ?_
        refine E_if (t := 71) (b := false) at_X2_readNumber_58 rfl (by decide) ?_
        refine E_iload_n at_X2_readNumber_61 rfl ?_
        refine E_bipush (x := nI 10) at_X2_readNumber_62 (by decide) ?_
        refine E_imul (z := nI ((dv e (a + 1)) * 10)) at_X2_readNumber_64 (pk_mul _ _) ?_
        refine E_aload_n at_X2_readNumber_65 rfl ?_
        refine E_callV (v := some (.int (nI (dv e (a + 2))))) (As := [.ref 34]) (r0 := [.int (nI ((dv e (a + 1)) * 10))]) (cs2 := (ww im lf s d k ls (-1) (nI n) (nI (a + 2 + 1)) (nI (a + 1)) rq lt m1 m2 m3 m4 bd fc hd sz el t g fm hm so si sh ce ca td wa kp la bf oo bo pw ow tr)) at_X2_readNumber_66 rfl rfl (Nat.le_of_ble_eq_true rfl) rfl (ab_rvOf w34 rfl) (w_rdd hn (by omega) l_lt hlt hd2) (by decide) w_lens ?_
        refine E_iadd (z := nI (((dv e (a + 1)) * 10) + (dv e (a + 2)))) at_X2_readNumber_69 (nI_add _ _) ?_
        refine E_istore_n (L2 := [some (.ref 34), some (.int (nI lo)), some (.int hi), some (.int (nI (((dv e (a + 1)) * 10) + (dv e (a + 2)))))]) at_X2_readNumber_70 rfl ?_
        exact X
      · have hvhd1 := (dv_eq hd1).2.1
        have hd3 := (dgB_t hd2).1
        have hvhd2 := (dv_eq hd2).2.1
        have hV : nuV e n (a + 1) = ((dv e (a + 1)) * 10) + (dv e (a + 2)) := if_pos hd2
        have hE : nuE e n (a + 1) = a + 2 + 1 := if_pos hd2
        have X : Ef ab_Z0 2 mX2_readNumber (71, [some (.ref 34), some (.int (nI lo)), some (.int hi), some (.int (nI (nuV e n (a + 1))))], [], (ww im lf s d k ls (-1) (nI n) (nI (nuE e n (a + 1))) (nI (a + 1)) rq lt m1 m2 m3 m4 bd fc hd sz el t g fm hm so si sh ce ca td wa kp la bf oo bo pw ow tr)) (some (.int (nI (nuV e n (a + 1)))), (ww im lf s d k ls (nI (a + 1)) (nI n) (nI (nuE e n (a + 1))) (nI (a + 1)) rq lt m1 m2 m3 m4 bd fc hd sz el t g fm hm so si sh ce ca td wa kp la bf oo bo pw ow tr)) := by
          refine E_iload_n rfl rfl ?_
          refine E_iload_n rfl rfl ?_
          refine E_ic (t := 81) (b := false) rfl rfl ((cn_lt (nI_toInt (by omega)) (nI_toInt (by omega))).trans (decide_eq_false (by omega))) ?_
          refine E_iload_n rfl rfl ?_
          refine E_iload_n rfl rfl ?_
          refine E_ic (t := 89) (b := false) rfl rfl ((cn_le (nI_toInt (by omega)) rfl).trans (decide_eq_false (by omega))) ?_
          refine E_aload_n rfl rfl ?_
          refine E_aload_n rfl rfl ?_
          refine E_getfield (v := .int (nI (a + 1))) rfl w34 rfl (by decide) rfl ?_
          refine E_putfield (cs2 := (ww im lf s d k ls (nI (a + 1)) (nI n) (nI (nuE e n (a + 1))) (nI (a + 1)) rq lt m1 m2 m3 m4 bd fc hd sz el t g fm hm so si sh ce ca td wa kp la bf oo bo pw ow tr)) rfl w34 rfl (by decide) (Nat.le_of_ble_eq_true rfl) rfl rfl rfl rfl ?_
          refine E_iload_n rfl rfl ?_
          exact E_iret rfl rfl
        rw [hV, hE] at X
        rw [hV, hE]
        refine Ef.in (md := mX2_readNumber) (L := [some (.ref 34), some (.int (nI lo)), some (.int hi), none]) rfl (Nat.le_of_ble_eq_true rfl) rfl ?_
        refine E_aload_n at_X2_readNumber_0 rfl ?_
        refine E_bipush (x := nI 32) at_X2_readNumber_1 (by decide) ?_
        refine E_callV (v := none) (As := [.ref 34, .int (nI 32)]) (r0 := []) (cs2 := (ww im lf s d k ls (-1) (nI n) (nI (a + 1)) rn rq lt m1 m2 m3 m4 bd fc hd sz el t g fm hm so si sh ce ca td wa kp la bf oo bo pw ow tr)) at_X2_readNumber_3 rfl rfl (Nat.le_of_ble_eq_true rfl) rfl (ab_rvOf w34 rfl) (w_sg1 (by decide) hn ha l_lt hlt hb) (by decide) w_lens ?_
        refine E_aload_n at_X2_readNumber_6 rfl ?_
        refine E_getfield (v := .int (-1)) at_X2_readNumber_7 w34 rfl (by decide) rfl ?_
        refine E_iconst (x := (-1)) at_X2_readNumber_10 (by decide) ?_
        refine E_ic (t := 16) (b := true) at_X2_readNumber_11 rfl (by decide) ?_
        refine E_aload_n at_X2_readNumber_16 rfl ?_
        refine E_aload_n at_X2_readNumber_17 rfl ?_
        refine E_getfield (v := .int (nI (a + 1))) at_X2_readNumber_18 w34 rfl (by decide) rfl ?_
        refine E_callV (v := some (.int (nI 1))) (As := [.ref 34, .int (nI (a + 1))]) (r0 := []) (cs2 := (ww im lf s d k ls (-1) (nI n) (nI (a + 1)) rn rq lt m1 m2 m3 m4 bd fc hd sz el t g fm hm so si sh ce ca td wa kp la bf oo bo pw ow tr)) at_X2_readNumber_21 rfl rfl (Nat.le_of_ble_eq_true rfl) rfl (ab_rvOf w34 rfl) (w_dg1 (by omega) hn l_lt hlt hd1) (by decide) rfl ?_
        refine E_if (t := 37) (b := true) at_X2_readNumber_24 rfl (by decide) ?_
        refine E_aload_n at_X2_readNumber_37 rfl ?_
        refine E_aload_n at_X2_readNumber_38 rfl ?_
        refine E_getfield (v := .int (nI (a + 1))) at_X2_readNumber_39 w34 rfl (by decide) rfl ?_
        refine E_putfield (cs2 := (ww im lf s d k ls (-1) (nI n) (nI (a + 1)) (nI (a + 1)) rq lt m1 m2 m3 m4 bd fc hd sz el t g fm hm so si sh ce ca td wa kp la bf oo bo pw ow tr)) at_X2_readNumber_42 w34 rfl (by decide) (Nat.le_of_ble_eq_true rfl) rfl rfl rfl rfl ?_
        refine E_aload_n at_X2_readNumber_45 rfl ?_
        refine E_callV (v := some (.int (nI (dv e (a + 1))))) (As := [.ref 34]) (r0 := []) (cs2 := (ww im lf s d k ls (-1) (nI n) (nI (a + 1 + 1)) (nI (a + 1)) rq lt m1 m2 m3 m4 bd fc hd sz el t g fm hm so si sh ce ca td wa kp la bf oo bo pw ow tr)) at_X2_readNumber_46 rfl rfl (Nat.le_of_ble_eq_true rfl) rfl (ab_rvOf w34 rfl) (w_rdd hn (by omega) l_lt hlt hd1) (by decide) w_lens ?_
        refine E_istore_n (L2 := [some (.ref 34), some (.int (nI lo)), some (.int hi), some (.int (nI (dv e (a + 1))))]) at_X2_readNumber_49 rfl ?_
        refine E_aload_n at_X2_readNumber_50 rfl ?_
        refine E_aload_n at_X2_readNumber_51 rfl ?_
        refine E_getfield (v := .int (nI (a + 1 + 1))) at_X2_readNumber_52 w34 rfl (by decide) rfl ?_
        refine E_callV (v := some (.int (nI 1))) (As := [.ref 34, .int (nI (a + 1 + 1))]) (r0 := []) (cs2 := (ww im lf s d k ls (-1) (nI n) (nI (a + 1 + 1)) (nI (a + 1)) rq lt m1 m2 m3 m4 bd fc hd sz el t g fm hm so si sh ce ca td wa kp la bf oo bo pw ow tr)) at_X2_readNumber_55 rfl rfl (Nat.le_of_ble_eq_true rfl) rfl (ab_rvOf w34 rfl) (w_dg1 (by omega) hn l_lt hlt hd2) (by decide) rfl ?_
        refine E_if (t := 71) (b := false) at_X2_readNumber_58 rfl (by decide) ?_
        refine E_iload_n at_X2_readNumber_61 rfl ?_
        refine E_bipush (x := nI 10) at_X2_readNumber_62 (by decide) ?_
        refine E_imul (z := nI ((dv e (a + 1)) * 10)) at_X2_readNumber_64 (pk_mul _ _) ?_
        refine E_aload_n at_X2_readNumber_65 rfl ?_
        refine E_callV (v := some (.int (nI (dv e (a + 2))))) (As := [.ref 34]) (r0 := [.int (nI ((dv e (a + 1)) * 10))]) (cs2 := (ww im lf s d k ls (-1) (nI n) (nI (a + 2 + 1)) (nI (a + 1)) rq lt m1 m2 m3 m4 bd fc hd sz el t g fm hm so si sh ce ca td wa kp la bf oo bo pw ow tr)) at_X2_readNumber_66 rfl rfl (Nat.le_of_ble_eq_true rfl) rfl (ab_rvOf w34 rfl) (w_rdd hn (by omega) l_lt hlt hd2) (by decide) w_lens ?_
        refine E_iadd (z := nI (((dv e (a + 1)) * 10) + (dv e (a + 2)))) at_X2_readNumber_69 (nI_add _ _) ?_
        refine E_istore_n (L2 := [some (.ref 34), some (.int (nI lo)), some (.int hi), some (.int (nI (((dv e (a + 1)) * 10) + (dv e (a + 2)))))]) at_X2_readNumber_70 rfl ?_
        exact X
end SQ
