/-! pieceOf; by program (wip/tools/op.py) -/
section LM
variable {im : Int32} {lf : Int32} {s : ab_q} {d : ab_q} {k : ab_q} {ls : List Int32} {rf : Int32} {rz : Int32} {ra : Int32} {rn : Int32} {rq : ab_q} {lt : List Int32} {m1 : Int32} {m2 : Int32} {m3 : Int32} {m4 : Int32} {bd : List Int32} {fc : List Int32} {hd : Nat → Int32} {sz : Nat → Int32} {el : Nat → List Int64} {t : ab_q} {g : Nat → Int32} {fm : List Int32} {hm : List Nat} {so : List Nat} {si : List Nat} {sh : List Int32} {ce : List Int64} {ca : List Int64} {td : List Int32} {wa : List Int32} {kp : List Int32} {la : List Int32} {bf : List Int32} {oo : List Int32} {bo : List Int32} {pw : List Int32} {ow : List Int32} {tr : List Int32}
theorem L15_X4_isPiece {x1 : Nat} (h0 : x1 < 2147483648) (h1 : ¬ (x1 < 0)) (h2 : x1 < (qN s)) (h3 : qN s ≤ 9) : Ev ab_Z0 1 50 [.ref 1, .int (nI x1)] (ww im lf s d k ls rf rz ra rn rq lt m1 m2 m3 m4 bd fc hd sz el t g fm hm so si sh ce ca td wa kp la bf oo bo pw ow tr) (some (.int (nI 1)), (ww im lf s d k ls rf rz ra rn rq lt m1 m2 m3 m4 bd fc hd sz el t g fm hm so si sh ce ca td wa kp la bf oo bo pw ow tr)) := by
  refine Ef.in (md := mX4_isPiece) (L := [some (.ref 1), some (.int (nI x1))]) rfl (Nat.le_of_ble_eq_true rfl) rfl ?_
  refine E_iload_n at_X4_isPiece_0 rfl ?_
  refine E_if (t := 16) (b := false) at_X4_isPiece_1 rfl ((cn_lt (nI_toInt (by omega)) (by decide : (0 : Int32).toInt = 0)).trans (decide_eq_false (by omega))) ?_
  refine E_iload_n at_X4_isPiece_4 rfl ?_
  refine E_aload_n at_X4_isPiece_5 rfl ?_
  refine E_getfield (v := .int (nI (qN s))) at_X4_isPiece_6 w1 rfl (by decide) rfl ?_
  refine E_ic (t := 16) (b := false) at_X4_isPiece_9 rfl ((cn_ge (nI_toInt (by omega)) (nI_toInt (by omega))).trans (decide_eq_false (by omega))) ?_
  refine E_iconst (x := nI 1) at_X4_isPiece_12 (by decide) ?_
  refine E_goto (t := 17) at_X4_isPiece_13 rfl ?_
  exact E_iret at_X4_isPiece_17 rfl
theorem L16_X6_isPiece {x1 : Nat} (h0 : x1 < 2147483648) (h1 : ¬ (x1 < 0)) (h2 : x1 < (qN t)) (h3 : qN t ≤ 9) : Ev ab_Z0 1 132 [.ref 65, .int (nI x1)] (ww im lf s d k ls rf rz ra rn rq lt m1 m2 m3 m4 bd fc hd sz el t g fm hm so si sh ce ca td wa kp la bf oo bo pw ow tr) (some (.int (nI 1)), (ww im lf s d k ls rf rz ra rn rq lt m1 m2 m3 m4 bd fc hd sz el t g fm hm so si sh ce ca td wa kp la bf oo bo pw ow tr)) := by
  refine Ef.in (md := mX6_isPiece) (L := [some (.ref 65), some (.int (nI x1))]) rfl (Nat.le_of_ble_eq_true rfl) rfl ?_
  refine E_iload_n rfl rfl ?_
  refine E_if (t := 16) (b := false) rfl rfl ((cn_lt (nI_toInt (by omega)) (by decide : (0 : Int32).toInt = 0)).trans (decide_eq_false (by omega))) ?_
  refine E_iload_n rfl rfl ?_
  refine E_aload_n rfl rfl ?_
  refine E_getfield (v := .int (nI (qN t))) rfl w65 rfl (by decide) rfl ?_
  refine E_ic (t := 16) (b := false) rfl rfl ((cn_ge (nI_toInt (by omega)) (nI_toInt (by omega))).trans (decide_eq_false (by omega))) ?_
  refine E_iconst (x := nI 1) rfl (by decide) ?_
  refine E_goto (t := 17) rfl rfl ?_
  exact E_iret rfl rfl
theorem L17_X5_isFrom  : Ev ab_Z0 1 115 [.int (nI 5), .int (nI 1), .int (nI 7)] (ww im lf s d k ls rf rz ra rn rq lt m1 m2 m3 m4 bd fc hd sz el t g fm hm so si sh ce ca td wa kp la bf oo bo pw ow tr) (some (.int (nI 1)), (ww im lf s d k ls rf rz ra rn rq lt m1 m2 m3 m4 bd fc hd sz el t g fm hm so si sh ce ca td wa kp la bf oo bo pw ow tr)) := by
  refine Ef.in (md := mX5_isFrom) (L := [some (.int (nI 5)), some (.int (nI 1)), some (.int (nI 7))]) rfl (Nat.le_of_ble_eq_true rfl) rfl ?_
  refine E_iload_n at_X5_isFrom_0 rfl ?_
  refine E_iload_n at_X5_isFrom_1 rfl ?_
  refine E_ic (t := 14) (b := false) at_X5_isFrom_2 rfl (by decide) ?_
  refine E_iload_n at_X5_isFrom_5 rfl ?_
  refine E_iload_n at_X5_isFrom_6 rfl ?_
  refine E_ic (t := 14) (b := false) at_X5_isFrom_7 rfl (by decide) ?_
  refine E_iconst (x := nI 1) at_X5_isFrom_10 (by decide) ?_
  refine E_goto (t := 15) at_X5_isFrom_11 rfl ?_
  exact E_iret at_X5_isFrom_15 rfl
theorem L18_X5_refuse  (h0 : fc.length = 8) : Ev ab_Z0 2 118 [.ref 0, .int (nI 5)] (ww im lf s d k ls rf rz ra rn rq lt m1 m2 m3 m4 bd fc hd sz el t g fm hm so si sh ce ca td wa kp la bf oo bo pw ow tr) (some (.int (-5)), (ww im lf s d k ls rf rz ra rn rq lt m1 m2 m3 m4 bd (fc.set 5 ((fc.getD 5 0) + (nI 1))) hd sz el t g fm hm so si sh ce ca td wa kp la bf oo bo pw ow tr)) := by
  refine Ef.in (md := mX5_refuse) (L := [some (.ref 0), some (.int (nI 5))]) rfl (Nat.le_of_ble_eq_true rfl) rfl ?_
  refine E_iload_n at_X5_refuse_0 rfl ?_
  refine E_iconst (x := nI 1) at_X5_refuse_1 (by decide) ?_
  refine E_bipush (x := nI 7) at_X5_refuse_2 (by decide) ?_
  refine E_callS (v := some (.int (nI 1))) (As := [.int (nI 5), .int (nI 1), .int (nI 7)]) (r0 := []) (cs2 := (ww im lf s d k ls rf rz ra rn rq lt m1 m2 m3 m4 bd fc hd sz el t g fm hm so si sh ce ca td wa kp la bf oo bo pw ow tr)) at_X5_refuse_4 rfl rfl (Nat.le_of_ble_eq_true rfl) rfl (L17_X5_isFrom) (by decide) rfl ?_
  refine E_if (t := 20) (b := false) at_X5_refuse_7 rfl (by decide) ?_
  refine E_aload_n at_X5_refuse_10 rfl ?_
  refine E_getfield (v := .ref 48) at_X5_refuse_11 w0 rfl (by decide) rfl ?_
  refine E_iload_n at_X5_refuse_14 rfl ?_
  refine E_dup2 at_X5_refuse_15 ⟨rfl, rfl⟩ ?_
  refine E_ialI (l := fc) (v := fc.getD 5 0) at_X5_refuse_16 w48 (by omega) (by omega) rfl ?_
  refine E_iconst (x := nI 1) at_X5_refuse_17 (by decide) ?_
  refine E_iadd (z := (fc.getD 5 0) + (nI 1)) at_X5_refuse_18 rfl ?_
  refine E_iasI (l := fc) (cs2 := (ww im lf s d k ls rf rz ra rn rq lt m1 m2 m3 m4 bd (fc.set 5 ((fc.getD 5 0) + (nI 1))) hd sz el t g fm hm so si sh ce ca td wa kp la bf oo bo pw ow tr)) at_X5_refuse_19 w48 (by omega) (by omega) rfl ?_
  refine E_iload_n at_X5_refuse_20 rfl ?_
  refine E_ineg (z := (-5)) at_X5_refuse_21 (by decide) ?_
  exact E_iret at_X5_refuse_22 rfl
theorem L19_X6_no  (h0 : fm.length = 8) : Ev ab_Z0 1 129 [.ref 65, .int (-5)] (ww im lf s d k ls rf rz ra rn rq lt m1 m2 m3 m4 bd fc hd sz el t g fm hm so si sh ce ca td wa kp la bf oo bo pw ow tr) (some (.int (-5)), (ww im lf s d k ls rf rz ra rn rq lt m1 m2 m3 m4 bd fc hd sz el t g (fm.set 5 ((fm.getD 5 0) + (nI 1))) hm so si sh ce ca td wa kp la bf oo bo pw ow tr)) := by
  refine Ef.in (md := mX6_no) (L := [some (.ref 65), some (.int (-5))]) rfl (Nat.le_of_ble_eq_true rfl) rfl ?_
  refine E_aload_n at_X6_no_0 rfl ?_
  refine E_getfield (v := .ref 66) at_X6_no_1 w65 rfl (by decide) rfl ?_
  refine E_iload_n at_X6_no_4 rfl ?_
  refine E_ineg (z := nI 5) at_X6_no_5 (by decide) ?_
  refine E_dup2 at_X6_no_6 ⟨rfl, rfl⟩ ?_
  refine E_ialI (l := fm) (v := fm.getD 5 0) at_X6_no_7 w66 (by omega) (by omega) rfl ?_
  refine E_iconst (x := nI 1) at_X6_no_8 (by decide) ?_
  refine E_iadd (z := (fm.getD 5 0) + (nI 1)) at_X6_no_9 rfl ?_
  refine E_iasI (l := fm) (cs2 := (ww im lf s d k ls rf rz ra rn rq lt m1 m2 m3 m4 bd fc hd sz el t g (fm.set 5 ((fm.getD 5 0) + (nI 1))) hm so si sh ce ca td wa kp la bf oo bo pw ow tr)) at_X6_no_10 w66 (by omega) (by omega) rfl ?_
  refine E_iload_n at_X6_no_11 rfl ?_
  exact E_iret at_X6_no_12 rfl
theorem L20_X4_isPiece {x1 : Nat} (h0 : x1 < 2147483648) (h1 : ¬ (x1 < 0)) (h2 : ¬ (x1 < (qN s))) (h3 : qN s ≤ 9) : Ev ab_Z0 1 50 [.ref 1, .int (nI x1)] (ww im lf s d k ls rf rz ra rn rq lt m1 m2 m3 m4 bd fc hd sz el t g fm hm so si sh ce ca td wa kp la bf oo bo pw ow tr) (some (.int (nI 0)), (ww im lf s d k ls rf rz ra rn rq lt m1 m2 m3 m4 bd fc hd sz el t g fm hm so si sh ce ca td wa kp la bf oo bo pw ow tr)) := by
  refine Ef.in (md := mX4_isPiece) (L := [some (.ref 1), some (.int (nI x1))]) rfl (Nat.le_of_ble_eq_true rfl) rfl ?_
  refine E_iload_n at_X4_isPiece_0 rfl ?_
  refine E_if (t := 16) (b := false) at_X4_isPiece_1 rfl ((cn_lt (nI_toInt (by omega)) (by decide : (0 : Int32).toInt = 0)).trans (decide_eq_false (by omega))) ?_
  refine E_iload_n at_X4_isPiece_4 rfl ?_
  refine E_aload_n at_X4_isPiece_5 rfl ?_
  refine E_getfield (v := .int (nI (qN s))) at_X4_isPiece_6 w1 rfl (by decide) rfl ?_
  refine E_ic (t := 16) (b := true) at_X4_isPiece_9 rfl ((cn_ge (nI_toInt (by omega)) (nI_toInt (by omega))).trans (decide_eq_true (by omega))) ?_
  refine E_iconst (x := nI 0) at_X4_isPiece_16 (by decide) ?_
  exact E_iret at_X4_isPiece_17 rfl
theorem L21_X6_isPiece {x1 : Nat} (h0 : x1 < 2147483648) (h1 : ¬ (x1 < 0)) (h2 : ¬ (x1 < (qN t))) (h3 : qN t ≤ 9) : Ev ab_Z0 1 132 [.ref 65, .int (nI x1)] (ww im lf s d k ls rf rz ra rn rq lt m1 m2 m3 m4 bd fc hd sz el t g fm hm so si sh ce ca td wa kp la bf oo bo pw ow tr) (some (.int (nI 0)), (ww im lf s d k ls rf rz ra rn rq lt m1 m2 m3 m4 bd fc hd sz el t g fm hm so si sh ce ca td wa kp la bf oo bo pw ow tr)) := by
  refine Ef.in (md := mX6_isPiece) (L := [some (.ref 65), some (.int (nI x1))]) rfl (Nat.le_of_ble_eq_true rfl) rfl ?_
  refine E_iload_n rfl rfl ?_
  refine E_if (t := 16) (b := false) rfl rfl ((cn_lt (nI_toInt (by omega)) (by decide : (0 : Int32).toInt = 0)).trans (decide_eq_false (by omega))) ?_
  refine E_iload_n rfl rfl ?_
  refine E_aload_n rfl rfl ?_
  refine E_getfield (v := .int (nI (qN t))) rfl w65 rfl (by decide) rfl ?_
  refine E_ic (t := 16) (b := true) rfl rfl ((cn_ge (nI_toInt (by omega)) (nI_toInt (by omega))).trans (decide_eq_true (by omega))) ?_
  refine E_iconst (x := nI 0) rfl (by decide) ?_
  exact E_iret rfl rfl
theorem L22_X4_isPiece {x1 : Int32} (h0 : x1.toInt < 0) (h1 : x1.toInt < 0) : Ev ab_Z0 1 50 [.ref 1, .int x1] (ww im lf s d k ls rf rz ra rn rq lt m1 m2 m3 m4 bd fc hd sz el t g fm hm so si sh ce ca td wa kp la bf oo bo pw ow tr) (some (.int (nI 0)), (ww im lf s d k ls rf rz ra rn rq lt m1 m2 m3 m4 bd fc hd sz el t g fm hm so si sh ce ca td wa kp la bf oo bo pw ow tr)) := by
  refine Ef.in (md := mX4_isPiece) (L := [some (.ref 1), some (.int x1)]) rfl (Nat.le_of_ble_eq_true rfl) rfl ?_
  refine E_iload_n at_X4_isPiece_0 rfl ?_
  refine E_if (t := 16) (b := true) at_X4_isPiece_1 rfl ((cn_lt rfl (by decide : (0 : Int32).toInt = 0)).trans (decide_eq_true (by omega))) ?_
  refine E_iconst (x := nI 0) at_X4_isPiece_16 (by decide) ?_
  exact E_iret at_X4_isPiece_17 rfl
theorem L23_X6_isPiece {x1 : Int32} (h0 : x1.toInt < 0) (h1 : x1.toInt < 0) : Ev ab_Z0 1 132 [.ref 65, .int x1] (ww im lf s d k ls rf rz ra rn rq lt m1 m2 m3 m4 bd fc hd sz el t g fm hm so si sh ce ca td wa kp la bf oo bo pw ow tr) (some (.int (nI 0)), (ww im lf s d k ls rf rz ra rn rq lt m1 m2 m3 m4 bd fc hd sz el t g fm hm so si sh ce ca td wa kp la bf oo bo pw ow tr)) := by
  refine Ef.in (md := mX6_isPiece) (L := [some (.ref 65), some (.int x1)]) rfl (Nat.le_of_ble_eq_true rfl) rfl ?_
  refine E_iload_n rfl rfl ?_
  refine E_if (t := 16) (b := true) rfl rfl ((cn_lt rfl (by decide : (0 : Int32).toInt = 0)).trans (decide_eq_true (by omega))) ?_
  refine E_iconst (x := nI 0) rfl (by decide) ?_
  exact E_iret rfl rfl
end LM
set_option maxHeartbeats 4000000 in
theorem op_pieceOf (x : St) (hx : wI x) (a1 : Int32) (a2 : Int32) : ∃ (r : Int32) (x1 x2 : St), Ev ab_Z0 3 88 [.ref 0, .int a1, .int a2] (wt x) (some (.int r), wt x1) ∧ Ev ab_Z0 2 154 [.ref 65, .int a1, .int a2] (wt x1) (some (.int r), wt x2) ∧ wI x2 := by
  obtain ⟨im, lf, s, d, k, ls, rf, rz, ra, rn, rq, lt, m1, m2, m3, m4, bd, fc, hd, sz, el, t, g, fm, hm, so, si, sh, ce, ca, td, wa, kp, la, bf, oo, bo, pw, ow, tr⟩ := x
  obtain ⟨I, ts, hf, iQ, iM, iT, iS, l_el, lr⟩ := hx
  replace lr : Hd _ := lr
  have l_fc := lr.2.2.2.1
  have l_fm := lr.2.2.2.2.1
  subst ts
  obtain ⟨⟨i0, i1, i2, i3⟩, ⟨i4, i5, i6, i7, i8⟩, ⟨i9, i10⟩, I1, I2, I3, I4⟩ := id I
  rcases ab_int a1 with ⟨a1k, f0, rfl⟩ | f0
  · by_cases f1 : a1k < (qN s)
    · rcases ab_int a2 with ⟨a2k, f2, rfl⟩ | f2
      · by_cases f3 : a2k = 0
        · subst f3
          have := I1 a1k (by omega)
          refine ⟨(nI ((qK s).getD a1k 0)), (im, lf, s, d, k, ls, rf, rz, ra, rn, rq, lt, m1, m2, m3, m4, bd, fc, hd, sz, el, s, g, fm, hm, so, si, sh, ce, ca, td, wa, kp, la, bf, oo, bo, pw, ow, tr), (im, lf, s, d, k, ls, rf, rz, ra, rn, rq, lt, m1, m2, m3, m4, bd, fc, hd, sz, el, s, g, fm, hm, so, si, sh, ce, ca, td, wa, kp, la, bf, oo, bo, pw, ow, tr), ?_, ?_, ?_⟩
          · show Ev ab_Z0 3 88 [.ref 0, .int (nI a1k), .int (nI 0)] (ww im lf s d k ls rf rz ra rn rq lt m1 m2 m3 m4 bd fc hd sz el s g fm hm so si sh ce ca td wa kp la bf oo bo pw ow tr) (some (.int (nI ((qK s).getD a1k 0))), (ww im lf s d k ls rf rz ra rn rq lt m1 m2 m3 m4 bd fc hd sz el s g fm hm so si sh ce ca td wa kp la bf oo bo pw ow tr))
            refine Ef.in (md := mX5_pieceOf) (L := [some (.ref 0), some (.int (nI a1k)), some (.int (nI 0))]) rfl (Nat.le_of_ble_eq_true rfl) rfl ?_
            refine E_aload_n at_X5_pieceOf_0 rfl ?_
            refine E_getfield (v := .ref 1) at_X5_pieceOf_1 w0 rfl (by decide) rfl ?_
            refine E_iload_n at_X5_pieceOf_4 rfl ?_
            refine E_callV (v := some (.int (nI 1))) (As := [.ref 1, .int (nI a1k)]) (r0 := []) (cs2 := (ww im lf s d k ls rf rz ra rn rq lt m1 m2 m3 m4 bd fc hd sz el s g fm hm so si sh ce ca td wa kp la bf oo bo pw ow tr)) at_X5_pieceOf_5 rfl rfl (Nat.le_of_ble_eq_true rfl) rfl (ab_rvOf w1 rfl) (L15_X4_isPiece (by omega) (by omega) (by omega) (by omega)) (by decide) rfl ?_
            refine E_if (t := 17) (b := true) at_X5_pieceOf_8 rfl (by decide) ?_
            refine E_iload_n at_X5_pieceOf_17 rfl ?_
            refine E_tsIn (off := 38) (t := 56) at_X5_pieceOf_18 (by decide) rfl rfl ?_
            refine E_aload_n rfl rfl ?_
            refine E_getfield (v := .ref 1) rfl w0 rfl (by decide) rfl ?_
            refine E_getfield (v := .ref 2) rfl w1 rfl (by decide) rfl ?_
            refine E_iload_n rfl rfl ?_
            refine E_ialN (l := qK s) (v := (qK s).getD a1k 0) rfl w2 (by omega) (by omega) rfl ?_
            exact E_iret rfl rfl
          · show Ev ab_Z0 2 154 [.ref 65, .int (nI a1k), .int (nI 0)] (ww im lf s d k ls rf rz ra rn rq lt m1 m2 m3 m4 bd fc hd sz el s g fm hm so si sh ce ca td wa kp la bf oo bo pw ow tr) (some (.int (nI ((qK s).getD a1k 0))), (ww im lf s d k ls rf rz ra rn rq lt m1 m2 m3 m4 bd fc hd sz el s g fm hm so si sh ce ca td wa kp la bf oo bo pw ow tr))
            refine Ef.in (md := mX6_pieceOf) (L := [some (.ref 65), some (.int (nI a1k)), some (.int (nI 0))]) rfl (Nat.le_of_ble_eq_true rfl) rfl ?_
            refine E_aload_n at_X6_pieceOf_0 rfl ?_
            refine E_iload_n at_X6_pieceOf_1 rfl ?_
            refine E_callV (v := some (.int (nI 1))) (As := [.ref 65, .int (nI a1k)]) (r0 := []) (cs2 := (ww im lf s d k ls rf rz ra rn rq lt m1 m2 m3 m4 bd fc hd sz el s g fm hm so si sh ce ca td wa kp la bf oo bo pw ow tr)) at_X6_pieceOf_2 rfl rfl (Nat.le_of_ble_eq_true rfl) rfl (ab_rvOf w65 rfl) (L16_X6_isPiece (by omega) (by omega) (by omega) (by omega)) (by decide) rfl ?_
            refine E_if (t := 15) (b := true) at_X6_pieceOf_5 rfl (by decide) ?_
            refine E_iload_n at_X6_pieceOf_15 rfl ?_
            refine E_tsIn (off := 40) (t := 56) at_X6_pieceOf_16 (by decide) rfl rfl ?_
            refine E_aload_n rfl rfl ?_
            refine E_getfield (v := .ref 67) rfl w65 rfl (by decide) rfl ?_
            refine E_iload_n rfl rfl ?_
            refine E_ialN (l := qK s) (v := (qK s).getD a1k 0) rfl w67 (by omega) (by omega) rfl ?_
            exact E_iret rfl rfl
          · exact ⟨I, rfl, hf, iQ, iM, iT, iS, l_el, (lr.1), (lr.2.1), (lr.2.2.1), (lr.2.2.2.1), (lr.2.2.2.2.1), (lr.2.2.2.2.2.1), (lr.2.2.2.2.2.2.1), (lr.2.2.2.2.2.2.2.1), (lr.2.2.2.2.2.2.2.2.1), (lr.2.2.2.2.2.2.2.2.2.1), (lr.2.2.2.2.2.2.2.2.2.2.1), (lr.2.2.2.2.2.2.2.2.2.2.2.1), (lr.2.2.2.2.2.2.2.2.2.2.2.2.1), (lr.2.2.2.2.2.2.2.2.2.2.2.2.2.1), (lr.2.2.2.2.2.2.2.2.2.2.2.2.2.2.1), (lr.2.2.2.2.2.2.2.2.2.2.2.2.2.2.2.1), (lr.2.2.2.2.2.2.2.2.2.2.2.2.2.2.2.2.1), (lr.2.2.2.2.2.2.2.2.2.2.2.2.2.2.2.2.2.1), (lr.2.2.2.2.2.2.2.2.2.2.2.2.2.2.2.2.2.2.1), (lr.2.2.2.2.2.2.2.2.2.2.2.2.2.2.2.2.2.2.2.1), (lr.2.2.2.2.2.2.2.2.2.2.2.2.2.2.2.2.2.2.2.2)⟩
        · by_cases f4 : a2k = 1
          · subst f4
            have := I1 a1k (by omega)
            refine ⟨(nI ((qA s).getD a1k 0)), (im, lf, s, d, k, ls, rf, rz, ra, rn, rq, lt, m1, m2, m3, m4, bd, fc, hd, sz, el, s, g, fm, hm, so, si, sh, ce, ca, td, wa, kp, la, bf, oo, bo, pw, ow, tr), (im, lf, s, d, k, ls, rf, rz, ra, rn, rq, lt, m1, m2, m3, m4, bd, fc, hd, sz, el, s, g, fm, hm, so, si, sh, ce, ca, td, wa, kp, la, bf, oo, bo, pw, ow, tr), ?_, ?_, ?_⟩
            · show Ev ab_Z0 3 88 [.ref 0, .int (nI a1k), .int (nI 1)] (ww im lf s d k ls rf rz ra rn rq lt m1 m2 m3 m4 bd fc hd sz el s g fm hm so si sh ce ca td wa kp la bf oo bo pw ow tr) (some (.int (nI ((qA s).getD a1k 0))), (ww im lf s d k ls rf rz ra rn rq lt m1 m2 m3 m4 bd fc hd sz el s g fm hm so si sh ce ca td wa kp la bf oo bo pw ow tr))
              refine Ef.in (md := mX5_pieceOf) (L := [some (.ref 0), some (.int (nI a1k)), some (.int (nI 1))]) rfl (Nat.le_of_ble_eq_true rfl) rfl ?_
              refine E_aload_n at_X5_pieceOf_0 rfl ?_
              refine E_getfield (v := .ref 1) at_X5_pieceOf_1 w0 rfl (by decide) rfl ?_
              refine E_iload_n at_X5_pieceOf_4 rfl ?_
              refine E_callV (v := some (.int (nI 1))) (As := [.ref 1, .int (nI a1k)]) (r0 := []) (cs2 := (ww im lf s d k ls rf rz ra rn rq lt m1 m2 m3 m4 bd fc hd sz el s g fm hm so si sh ce ca td wa kp la bf oo bo pw ow tr)) at_X5_pieceOf_5 rfl rfl (Nat.le_of_ble_eq_true rfl) rfl (ab_rvOf w1 rfl) (L15_X4_isPiece (by omega) (by omega) (by omega) (by omega)) (by decide) rfl ?_
              refine E_if (t := 17) (b := true) at_X5_pieceOf_8 rfl (by decide) ?_
              refine E_iload_n at_X5_pieceOf_17 rfl ?_
              refine E_tsIn (off := 48) (t := 66) at_X5_pieceOf_18 (by decide) rfl rfl ?_
              refine E_aload_n rfl rfl ?_
              refine E_getfield (v := .ref 1) rfl w0 rfl (by decide) rfl ?_
              refine E_getfield (v := .ref 3) rfl w1 rfl (by decide) rfl ?_
              refine E_iload_n rfl rfl ?_
              refine E_ialN (l := qA s) (v := (qA s).getD a1k 0) rfl w3 (by omega) (by omega) rfl ?_
              exact E_iret rfl rfl
            · show Ev ab_Z0 2 154 [.ref 65, .int (nI a1k), .int (nI 1)] (ww im lf s d k ls rf rz ra rn rq lt m1 m2 m3 m4 bd fc hd sz el s g fm hm so si sh ce ca td wa kp la bf oo bo pw ow tr) (some (.int (nI ((qA s).getD a1k 0))), (ww im lf s d k ls rf rz ra rn rq lt m1 m2 m3 m4 bd fc hd sz el s g fm hm so si sh ce ca td wa kp la bf oo bo pw ow tr))
              refine Ef.in (md := mX6_pieceOf) (L := [some (.ref 65), some (.int (nI a1k)), some (.int (nI 1))]) rfl (Nat.le_of_ble_eq_true rfl) rfl ?_
              refine E_aload_n at_X6_pieceOf_0 rfl ?_
              refine E_iload_n at_X6_pieceOf_1 rfl ?_
              refine E_callV (v := some (.int (nI 1))) (As := [.ref 65, .int (nI a1k)]) (r0 := []) (cs2 := (ww im lf s d k ls rf rz ra rn rq lt m1 m2 m3 m4 bd fc hd sz el s g fm hm so si sh ce ca td wa kp la bf oo bo pw ow tr)) at_X6_pieceOf_2 rfl rfl (Nat.le_of_ble_eq_true rfl) rfl (ab_rvOf w65 rfl) (L16_X6_isPiece (by omega) (by omega) (by omega) (by omega)) (by decide) rfl ?_
              refine E_if (t := 15) (b := true) at_X6_pieceOf_5 rfl (by decide) ?_
              refine E_iload_n at_X6_pieceOf_15 rfl ?_
              refine E_tsIn (off := 47) (t := 63) at_X6_pieceOf_16 (by decide) rfl rfl ?_
              refine E_aload_n rfl rfl ?_
              refine E_getfield (v := .ref 68) rfl w65 rfl (by decide) rfl ?_
              refine E_iload_n rfl rfl ?_
              refine E_ialN (l := qA s) (v := (qA s).getD a1k 0) rfl w68 (by omega) (by omega) rfl ?_
              exact E_iret rfl rfl
            · exact ⟨I, rfl, hf, iQ, iM, iT, iS, l_el, (lr.1), (lr.2.1), (lr.2.2.1), (lr.2.2.2.1), (lr.2.2.2.2.1), (lr.2.2.2.2.2.1), (lr.2.2.2.2.2.2.1), (lr.2.2.2.2.2.2.2.1), (lr.2.2.2.2.2.2.2.2.1), (lr.2.2.2.2.2.2.2.2.2.1), (lr.2.2.2.2.2.2.2.2.2.2.1), (lr.2.2.2.2.2.2.2.2.2.2.2.1), (lr.2.2.2.2.2.2.2.2.2.2.2.2.1), (lr.2.2.2.2.2.2.2.2.2.2.2.2.2.1), (lr.2.2.2.2.2.2.2.2.2.2.2.2.2.2.1), (lr.2.2.2.2.2.2.2.2.2.2.2.2.2.2.2.1), (lr.2.2.2.2.2.2.2.2.2.2.2.2.2.2.2.2.1), (lr.2.2.2.2.2.2.2.2.2.2.2.2.2.2.2.2.2.1), (lr.2.2.2.2.2.2.2.2.2.2.2.2.2.2.2.2.2.2.1), (lr.2.2.2.2.2.2.2.2.2.2.2.2.2.2.2.2.2.2.2.1), (lr.2.2.2.2.2.2.2.2.2.2.2.2.2.2.2.2.2.2.2.2)⟩
          · by_cases f5 : a2k = 2
            · subst f5
              have := I1 a1k (by omega)
              refine ⟨(nI ((qB s).getD a1k 0)), (im, lf, s, d, k, ls, rf, rz, ra, rn, rq, lt, m1, m2, m3, m4, bd, fc, hd, sz, el, s, g, fm, hm, so, si, sh, ce, ca, td, wa, kp, la, bf, oo, bo, pw, ow, tr), (im, lf, s, d, k, ls, rf, rz, ra, rn, rq, lt, m1, m2, m3, m4, bd, fc, hd, sz, el, s, g, fm, hm, so, si, sh, ce, ca, td, wa, kp, la, bf, oo, bo, pw, ow, tr), ?_, ?_, ?_⟩
              · show Ev ab_Z0 3 88 [.ref 0, .int (nI a1k), .int (nI 2)] (ww im lf s d k ls rf rz ra rn rq lt m1 m2 m3 m4 bd fc hd sz el s g fm hm so si sh ce ca td wa kp la bf oo bo pw ow tr) (some (.int (nI ((qB s).getD a1k 0))), (ww im lf s d k ls rf rz ra rn rq lt m1 m2 m3 m4 bd fc hd sz el s g fm hm so si sh ce ca td wa kp la bf oo bo pw ow tr))
                refine Ef.in (md := mX5_pieceOf) (L := [some (.ref 0), some (.int (nI a1k)), some (.int (nI 2))]) rfl (Nat.le_of_ble_eq_true rfl) rfl ?_
                refine E_aload_n at_X5_pieceOf_0 rfl ?_
                refine E_getfield (v := .ref 1) at_X5_pieceOf_1 w0 rfl (by decide) rfl ?_
                refine E_iload_n at_X5_pieceOf_4 rfl ?_
                refine E_callV (v := some (.int (nI 1))) (As := [.ref 1, .int (nI a1k)]) (r0 := []) (cs2 := (ww im lf s d k ls rf rz ra rn rq lt m1 m2 m3 m4 bd fc hd sz el s g fm hm so si sh ce ca td wa kp la bf oo bo pw ow tr)) at_X5_pieceOf_5 rfl rfl (Nat.le_of_ble_eq_true rfl) rfl (ab_rvOf w1 rfl) (L15_X4_isPiece (by omega) (by omega) (by omega) (by omega)) (by decide) rfl ?_
                refine E_if (t := 17) (b := true) at_X5_pieceOf_8 rfl (by decide) ?_
                refine E_iload_n at_X5_pieceOf_17 rfl ?_
                refine E_tsIn (off := 58) (t := 76) at_X5_pieceOf_18 (by decide) rfl rfl ?_
                refine E_aload_n rfl rfl ?_
                refine E_getfield (v := .ref 1) rfl w0 rfl (by decide) rfl ?_
                refine E_getfield (v := .ref 4) rfl w1 rfl (by decide) rfl ?_
                refine E_iload_n rfl rfl ?_
                refine E_ialN (l := qB s) (v := (qB s).getD a1k 0) rfl w4 (by omega) (by omega) rfl ?_
                exact E_iret rfl rfl
              · show Ev ab_Z0 2 154 [.ref 65, .int (nI a1k), .int (nI 2)] (ww im lf s d k ls rf rz ra rn rq lt m1 m2 m3 m4 bd fc hd sz el s g fm hm so si sh ce ca td wa kp la bf oo bo pw ow tr) (some (.int (nI ((qB s).getD a1k 0))), (ww im lf s d k ls rf rz ra rn rq lt m1 m2 m3 m4 bd fc hd sz el s g fm hm so si sh ce ca td wa kp la bf oo bo pw ow tr))
                refine Ef.in (md := mX6_pieceOf) (L := [some (.ref 65), some (.int (nI a1k)), some (.int (nI 2))]) rfl (Nat.le_of_ble_eq_true rfl) rfl ?_
                refine E_aload_n at_X6_pieceOf_0 rfl ?_
                refine E_iload_n at_X6_pieceOf_1 rfl ?_
                refine E_callV (v := some (.int (nI 1))) (As := [.ref 65, .int (nI a1k)]) (r0 := []) (cs2 := (ww im lf s d k ls rf rz ra rn rq lt m1 m2 m3 m4 bd fc hd sz el s g fm hm so si sh ce ca td wa kp la bf oo bo pw ow tr)) at_X6_pieceOf_2 rfl rfl (Nat.le_of_ble_eq_true rfl) rfl (ab_rvOf w65 rfl) (L16_X6_isPiece (by omega) (by omega) (by omega) (by omega)) (by decide) rfl ?_
                refine E_if (t := 15) (b := true) at_X6_pieceOf_5 rfl (by decide) ?_
                refine E_iload_n at_X6_pieceOf_15 rfl ?_
                refine E_tsIn (off := 54) (t := 70) at_X6_pieceOf_16 (by decide) rfl rfl ?_
                refine E_aload_n rfl rfl ?_
                refine E_getfield (v := .ref 69) rfl w65 rfl (by decide) rfl ?_
                refine E_iload_n rfl rfl ?_
                refine E_ialN (l := qB s) (v := (qB s).getD a1k 0) rfl w69 (by omega) (by omega) rfl ?_
                exact E_iret rfl rfl
              · exact ⟨I, rfl, hf, iQ, iM, iT, iS, l_el, (lr.1), (lr.2.1), (lr.2.2.1), (lr.2.2.2.1), (lr.2.2.2.2.1), (lr.2.2.2.2.2.1), (lr.2.2.2.2.2.2.1), (lr.2.2.2.2.2.2.2.1), (lr.2.2.2.2.2.2.2.2.1), (lr.2.2.2.2.2.2.2.2.2.1), (lr.2.2.2.2.2.2.2.2.2.2.1), (lr.2.2.2.2.2.2.2.2.2.2.2.1), (lr.2.2.2.2.2.2.2.2.2.2.2.2.1), (lr.2.2.2.2.2.2.2.2.2.2.2.2.2.1), (lr.2.2.2.2.2.2.2.2.2.2.2.2.2.2.1), (lr.2.2.2.2.2.2.2.2.2.2.2.2.2.2.2.1), (lr.2.2.2.2.2.2.2.2.2.2.2.2.2.2.2.2.1), (lr.2.2.2.2.2.2.2.2.2.2.2.2.2.2.2.2.2.1), (lr.2.2.2.2.2.2.2.2.2.2.2.2.2.2.2.2.2.2.1), (lr.2.2.2.2.2.2.2.2.2.2.2.2.2.2.2.2.2.2.2.1), (lr.2.2.2.2.2.2.2.2.2.2.2.2.2.2.2.2.2.2.2.2)⟩
            · by_cases f6 : a2k = 3
              · subst f6
                have := qWorth_in I (x := a1k) (by omega)
                refine ⟨(nI (qWorth s a1k)), (im, lf, s, d, k, ls, rf, rz, ra, rn, rq, lt, m1, m2, m3, m4, bd, fc, hd, sz, el, s, g, fm, hm, so, si, sh, ce, ca, td, wa, kp, la, bf, oo, bo, pw, ow, tr), (im, lf, s, d, k, ls, rf, rz, ra, rn, rq, lt, m1, m2, m3, m4, bd, fc, hd, sz, el, s, g, fm, hm, so, si, sh, ce, ca, td, wa, kp, la, bf, oo, bo, pw, ow, tr), ?_, ?_, ?_⟩
                · show Ev ab_Z0 3 88 [.ref 0, .int (nI a1k), .int (nI 3)] (ww im lf s d k ls rf rz ra rn rq lt m1 m2 m3 m4 bd fc hd sz el s g fm hm so si sh ce ca td wa kp la bf oo bo pw ow tr) (some (.int (nI (qWorth s a1k))), (ww im lf s d k ls rf rz ra rn rq lt m1 m2 m3 m4 bd fc hd sz el s g fm hm so si sh ce ca td wa kp la bf oo bo pw ow tr))
                  refine Ef.in (md := mX5_pieceOf) (L := [some (.ref 0), some (.int (nI a1k)), some (.int (nI 3))]) rfl (Nat.le_of_ble_eq_true rfl) rfl ?_
                  refine E_aload_n at_X5_pieceOf_0 rfl ?_
                  refine E_getfield (v := .ref 1) at_X5_pieceOf_1 w0 rfl (by decide) rfl ?_
                  refine E_iload_n at_X5_pieceOf_4 rfl ?_
                  refine E_callV (v := some (.int (nI 1))) (As := [.ref 1, .int (nI a1k)]) (r0 := []) (cs2 := (ww im lf s d k ls rf rz ra rn rq lt m1 m2 m3 m4 bd fc hd sz el s g fm hm so si sh ce ca td wa kp la bf oo bo pw ow tr)) at_X5_pieceOf_5 rfl rfl (Nat.le_of_ble_eq_true rfl) rfl (ab_rvOf w1 rfl) (L15_X4_isPiece (by omega) (by omega) (by omega) (by omega)) (by decide) rfl ?_
                  refine E_if (t := 17) (b := true) at_X5_pieceOf_8 rfl (by decide) ?_
                  refine E_iload_n at_X5_pieceOf_17 rfl ?_
                  refine E_tsIn (off := 68) (t := 86) at_X5_pieceOf_18 (by decide) rfl rfl ?_
                  refine E_aload_n rfl rfl ?_
                  refine E_getfield (v := .ref 1) rfl w0 rfl (by decide) rfl ?_
                  refine E_iload_n rfl rfl ?_
                  refine E_callV (v := some (.int (nI (qWorth s a1k)))) (As := [.ref 1, .int (nI a1k)]) (r0 := []) (cs2 := (ww im lf s d k ls rf rz ra rn rq lt m1 m2 m3 m4 bd fc hd sz el s g fm hm so si sh ce ca td wa kp la bf oo bo pw ow tr)) rfl rfl rfl (Nat.le_of_ble_eq_true rfl) rfl (ab_rvOf w1 rfl) (sq_worthOf w_q1 I (by omega)) (by decide) rfl ?_
                  exact E_iret rfl rfl
                · show Ev ab_Z0 2 154 [.ref 65, .int (nI a1k), .int (nI 3)] (ww im lf s d k ls rf rz ra rn rq lt m1 m2 m3 m4 bd fc hd sz el s g fm hm so si sh ce ca td wa kp la bf oo bo pw ow tr) (some (.int (nI (qWorth s a1k))), (ww im lf s d k ls rf rz ra rn rq lt m1 m2 m3 m4 bd fc hd sz el s g fm hm so si sh ce ca td wa kp la bf oo bo pw ow tr))
                  refine Ef.in (md := mX6_pieceOf) (L := [some (.ref 65), some (.int (nI a1k)), some (.int (nI 3))]) rfl (Nat.le_of_ble_eq_true rfl) rfl ?_
                  refine E_aload_n at_X6_pieceOf_0 rfl ?_
                  refine E_iload_n at_X6_pieceOf_1 rfl ?_
                  refine E_callV (v := some (.int (nI 1))) (As := [.ref 65, .int (nI a1k)]) (r0 := []) (cs2 := (ww im lf s d k ls rf rz ra rn rq lt m1 m2 m3 m4 bd fc hd sz el s g fm hm so si sh ce ca td wa kp la bf oo bo pw ow tr)) at_X6_pieceOf_2 rfl rfl (Nat.le_of_ble_eq_true rfl) rfl (ab_rvOf w65 rfl) (L16_X6_isPiece (by omega) (by omega) (by omega) (by omega)) (by decide) rfl ?_
                  refine E_if (t := 15) (b := true) at_X6_pieceOf_5 rfl (by decide) ?_
                  refine E_iload_n at_X6_pieceOf_15 rfl ?_
                  refine E_tsIn (off := 61) (t := 77) at_X6_pieceOf_16 (by decide) rfl rfl ?_
                  refine E_aload_n rfl rfl ?_
                  refine E_iload_n rfl rfl ?_
                  refine E_callV (v := some (.int (nI (qWorth s a1k)))) (As := [.ref 65, .int (nI a1k)]) (r0 := []) (cs2 := (ww im lf s d k ls rf rz ra rn rq lt m1 m2 m3 m4 bd fc hd sz el s g fm hm so si sh ce ca td wa kp la bf oo bo pw ow tr)) rfl rfl rfl (Nat.le_of_ble_eq_true rfl) rfl (ab_rvOf w65 rfl) (mo_worth w_m I (by omega)) (by decide) rfl ?_
                  exact E_iret rfl rfl
                · exact ⟨I, rfl, hf, iQ, iM, iT, iS, l_el, (lr.1), (lr.2.1), (lr.2.2.1), (lr.2.2.2.1), (lr.2.2.2.2.1), (lr.2.2.2.2.2.1), (lr.2.2.2.2.2.2.1), (lr.2.2.2.2.2.2.2.1), (lr.2.2.2.2.2.2.2.2.1), (lr.2.2.2.2.2.2.2.2.2.1), (lr.2.2.2.2.2.2.2.2.2.2.1), (lr.2.2.2.2.2.2.2.2.2.2.2.1), (lr.2.2.2.2.2.2.2.2.2.2.2.2.1), (lr.2.2.2.2.2.2.2.2.2.2.2.2.2.1), (lr.2.2.2.2.2.2.2.2.2.2.2.2.2.2.1), (lr.2.2.2.2.2.2.2.2.2.2.2.2.2.2.2.1), (lr.2.2.2.2.2.2.2.2.2.2.2.2.2.2.2.2.1), (lr.2.2.2.2.2.2.2.2.2.2.2.2.2.2.2.2.2.1), (lr.2.2.2.2.2.2.2.2.2.2.2.2.2.2.2.2.2.2.1), (lr.2.2.2.2.2.2.2.2.2.2.2.2.2.2.2.2.2.2.2.1), (lr.2.2.2.2.2.2.2.2.2.2.2.2.2.2.2.2.2.2.2.2)⟩
              · by_cases f7 : a2k = 4
                · subst f7
                  have := qHarm_in I (x := a1k) (by omega)
                  refine ⟨(nI (qHarm s a1k)), (im, lf, s, d, k, ls, rf, rz, ra, rn, rq, lt, m1, m2, m3, m4, bd, fc, hd, sz, el, s, g, fm, hm, so, si, sh, ce, ca, td, wa, kp, la, bf, oo, bo, pw, ow, tr), (im, lf, s, d, k, ls, rf, rz, ra, rn, rq, lt, m1, m2, m3, m4, bd, fc, hd, sz, el, s, g, fm, hm, so, si, sh, ce, ca, td, wa, kp, la, bf, oo, bo, pw, ow, tr), ?_, ?_, ?_⟩
                  · show Ev ab_Z0 3 88 [.ref 0, .int (nI a1k), .int (nI 4)] (ww im lf s d k ls rf rz ra rn rq lt m1 m2 m3 m4 bd fc hd sz el s g fm hm so si sh ce ca td wa kp la bf oo bo pw ow tr) (some (.int (nI (qHarm s a1k))), (ww im lf s d k ls rf rz ra rn rq lt m1 m2 m3 m4 bd fc hd sz el s g fm hm so si sh ce ca td wa kp la bf oo bo pw ow tr))
                    refine Ef.in (md := mX5_pieceOf) (L := [some (.ref 0), some (.int (nI a1k)), some (.int (nI 4))]) rfl (Nat.le_of_ble_eq_true rfl) rfl ?_
                    refine E_aload_n at_X5_pieceOf_0 rfl ?_
                    refine E_getfield (v := .ref 1) at_X5_pieceOf_1 w0 rfl (by decide) rfl ?_
                    refine E_iload_n at_X5_pieceOf_4 rfl ?_
                    refine E_callV (v := some (.int (nI 1))) (As := [.ref 1, .int (nI a1k)]) (r0 := []) (cs2 := (ww im lf s d k ls rf rz ra rn rq lt m1 m2 m3 m4 bd fc hd sz el s g fm hm so si sh ce ca td wa kp la bf oo bo pw ow tr)) at_X5_pieceOf_5 rfl rfl (Nat.le_of_ble_eq_true rfl) rfl (ab_rvOf w1 rfl) (L15_X4_isPiece (by omega) (by omega) (by omega) (by omega)) (by decide) rfl ?_
                    refine E_if (t := 17) (b := true) at_X5_pieceOf_8 rfl (by decide) ?_
                    refine E_iload_n at_X5_pieceOf_17 rfl ?_
                    refine E_tsIn (off := 77) (t := 95) at_X5_pieceOf_18 (by decide) rfl rfl ?_
                    refine E_aload_n rfl rfl ?_
                    refine E_getfield (v := .ref 1) rfl w0 rfl (by decide) rfl ?_
                    refine E_iload_n rfl rfl ?_
                    refine E_callV (v := some (.int (nI (qHarm s a1k)))) (As := [.ref 1, .int (nI a1k)]) (r0 := []) (cs2 := (ww im lf s d k ls rf rz ra rn rq lt m1 m2 m3 m4 bd fc hd sz el s g fm hm so si sh ce ca td wa kp la bf oo bo pw ow tr)) rfl rfl rfl (Nat.le_of_ble_eq_true rfl) rfl (ab_rvOf w1 rfl) (sq_harmOf w_q1 I (by omega)) (by decide) rfl ?_
                    exact E_iret rfl rfl
                  · show Ev ab_Z0 2 154 [.ref 65, .int (nI a1k), .int (nI 4)] (ww im lf s d k ls rf rz ra rn rq lt m1 m2 m3 m4 bd fc hd sz el s g fm hm so si sh ce ca td wa kp la bf oo bo pw ow tr) (some (.int (nI (qHarm s a1k))), (ww im lf s d k ls rf rz ra rn rq lt m1 m2 m3 m4 bd fc hd sz el s g fm hm so si sh ce ca td wa kp la bf oo bo pw ow tr))
                    refine Ef.in (md := mX6_pieceOf) (L := [some (.ref 65), some (.int (nI a1k)), some (.int (nI 4))]) rfl (Nat.le_of_ble_eq_true rfl) rfl ?_
                    refine E_aload_n at_X6_pieceOf_0 rfl ?_
                    refine E_iload_n at_X6_pieceOf_1 rfl ?_
                    refine E_callV (v := some (.int (nI 1))) (As := [.ref 65, .int (nI a1k)]) (r0 := []) (cs2 := (ww im lf s d k ls rf rz ra rn rq lt m1 m2 m3 m4 bd fc hd sz el s g fm hm so si sh ce ca td wa kp la bf oo bo pw ow tr)) at_X6_pieceOf_2 rfl rfl (Nat.le_of_ble_eq_true rfl) rfl (ab_rvOf w65 rfl) (L16_X6_isPiece (by omega) (by omega) (by omega) (by omega)) (by decide) rfl ?_
                    refine E_if (t := 15) (b := true) at_X6_pieceOf_5 rfl (by decide) ?_
                    refine E_iload_n at_X6_pieceOf_15 rfl ?_
                    refine E_tsIn (off := 67) (t := 83) at_X6_pieceOf_16 (by decide) rfl rfl ?_
                    refine E_aload_n rfl rfl ?_
                    refine E_iload_n rfl rfl ?_
                    refine E_callV (v := some (.int (nI (qHarm s a1k)))) (As := [.ref 65, .int (nI a1k)]) (r0 := []) (cs2 := (ww im lf s d k ls rf rz ra rn rq lt m1 m2 m3 m4 bd fc hd sz el s g fm hm so si sh ce ca td wa kp la bf oo bo pw ow tr)) rfl rfl rfl (Nat.le_of_ble_eq_true rfl) rfl (ab_rvOf w65 rfl) (mo_harms w_m I (by omega)) (by decide) rfl ?_
                    exact E_iret rfl rfl
                  · exact ⟨I, rfl, hf, iQ, iM, iT, iS, l_el, (lr.1), (lr.2.1), (lr.2.2.1), (lr.2.2.2.1), (lr.2.2.2.2.1), (lr.2.2.2.2.2.1), (lr.2.2.2.2.2.2.1), (lr.2.2.2.2.2.2.2.1), (lr.2.2.2.2.2.2.2.2.1), (lr.2.2.2.2.2.2.2.2.2.1), (lr.2.2.2.2.2.2.2.2.2.2.1), (lr.2.2.2.2.2.2.2.2.2.2.2.1), (lr.2.2.2.2.2.2.2.2.2.2.2.2.1), (lr.2.2.2.2.2.2.2.2.2.2.2.2.2.1), (lr.2.2.2.2.2.2.2.2.2.2.2.2.2.2.1), (lr.2.2.2.2.2.2.2.2.2.2.2.2.2.2.2.1), (lr.2.2.2.2.2.2.2.2.2.2.2.2.2.2.2.2.1), (lr.2.2.2.2.2.2.2.2.2.2.2.2.2.2.2.2.2.1), (lr.2.2.2.2.2.2.2.2.2.2.2.2.2.2.2.2.2.2.1), (lr.2.2.2.2.2.2.2.2.2.2.2.2.2.2.2.2.2.2.2.1), (lr.2.2.2.2.2.2.2.2.2.2.2.2.2.2.2.2.2.2.2.2)⟩
                · by_cases f8 : a2k = 5
                  · subst f8
                    have := I1 a1k (by omega)
                    refine ⟨(nI ((qP s).getD a1k 0)), (im, lf, s, d, k, ls, rf, rz, ra, rn, rq, lt, m1, m2, m3, m4, bd, fc, hd, sz, el, s, g, fm, hm, so, si, sh, ce, ca, td, wa, kp, la, bf, oo, bo, pw, ow, tr), (im, lf, s, d, k, ls, rf, rz, ra, rn, rq, lt, m1, m2, m3, m4, bd, fc, hd, sz, el, s, g, fm, hm, so, si, sh, ce, ca, td, wa, kp, la, bf, oo, bo, pw, ow, tr), ?_, ?_, ?_⟩
                    · show Ev ab_Z0 3 88 [.ref 0, .int (nI a1k), .int (nI 5)] (ww im lf s d k ls rf rz ra rn rq lt m1 m2 m3 m4 bd fc hd sz el s g fm hm so si sh ce ca td wa kp la bf oo bo pw ow tr) (some (.int (nI ((qP s).getD a1k 0))), (ww im lf s d k ls rf rz ra rn rq lt m1 m2 m3 m4 bd fc hd sz el s g fm hm so si sh ce ca td wa kp la bf oo bo pw ow tr))
                      refine Ef.in (md := mX5_pieceOf) (L := [some (.ref 0), some (.int (nI a1k)), some (.int (nI 5))]) rfl (Nat.le_of_ble_eq_true rfl) rfl ?_
                      refine E_aload_n at_X5_pieceOf_0 rfl ?_
                      refine E_getfield (v := .ref 1) at_X5_pieceOf_1 w0 rfl (by decide) rfl ?_
                      refine E_iload_n at_X5_pieceOf_4 rfl ?_
                      refine E_callV (v := some (.int (nI 1))) (As := [.ref 1, .int (nI a1k)]) (r0 := []) (cs2 := (ww im lf s d k ls rf rz ra rn rq lt m1 m2 m3 m4 bd fc hd sz el s g fm hm so si sh ce ca td wa kp la bf oo bo pw ow tr)) at_X5_pieceOf_5 rfl rfl (Nat.le_of_ble_eq_true rfl) rfl (ab_rvOf w1 rfl) (L15_X4_isPiece (by omega) (by omega) (by omega) (by omega)) (by decide) rfl ?_
                      refine E_if (t := 17) (b := true) at_X5_pieceOf_8 rfl (by decide) ?_
                      refine E_iload_n at_X5_pieceOf_17 rfl ?_
                      refine E_tsIn (off := 86) (t := 104) at_X5_pieceOf_18 (by decide) rfl rfl ?_
                      refine E_aload_n rfl rfl ?_
                      refine E_getfield (v := .ref 1) rfl w0 rfl (by decide) rfl ?_
                      refine E_getfield (v := .ref 5) rfl w1 rfl (by decide) rfl ?_
                      refine E_iload_n rfl rfl ?_
                      refine E_ialN (l := qP s) (v := (qP s).getD a1k 0) rfl w5 (by omega) (by omega) rfl ?_
                      exact E_iret rfl rfl
                    · show Ev ab_Z0 2 154 [.ref 65, .int (nI a1k), .int (nI 5)] (ww im lf s d k ls rf rz ra rn rq lt m1 m2 m3 m4 bd fc hd sz el s g fm hm so si sh ce ca td wa kp la bf oo bo pw ow tr) (some (.int (nI ((qP s).getD a1k 0))), (ww im lf s d k ls rf rz ra rn rq lt m1 m2 m3 m4 bd fc hd sz el s g fm hm so si sh ce ca td wa kp la bf oo bo pw ow tr))
                      refine Ef.in (md := mX6_pieceOf) (L := [some (.ref 65), some (.int (nI a1k)), some (.int (nI 5))]) rfl (Nat.le_of_ble_eq_true rfl) rfl ?_
                      refine E_aload_n at_X6_pieceOf_0 rfl ?_
                      refine E_iload_n at_X6_pieceOf_1 rfl ?_
                      refine E_callV (v := some (.int (nI 1))) (As := [.ref 65, .int (nI a1k)]) (r0 := []) (cs2 := (ww im lf s d k ls rf rz ra rn rq lt m1 m2 m3 m4 bd fc hd sz el s g fm hm so si sh ce ca td wa kp la bf oo bo pw ow tr)) at_X6_pieceOf_2 rfl rfl (Nat.le_of_ble_eq_true rfl) rfl (ab_rvOf w65 rfl) (L16_X6_isPiece (by omega) (by omega) (by omega) (by omega)) (by decide) rfl ?_
                      refine E_if (t := 15) (b := true) at_X6_pieceOf_5 rfl (by decide) ?_
                      refine E_iload_n at_X6_pieceOf_15 rfl ?_
                      refine E_tsIn (off := 73) (t := 89) at_X6_pieceOf_16 (by decide) rfl rfl ?_
                      refine E_aload_n rfl rfl ?_
                      refine E_getfield (v := .ref 70) rfl w65 rfl (by decide) rfl ?_
                      refine E_iload_n rfl rfl ?_
                      refine E_ialN (l := qP s) (v := (qP s).getD a1k 0) rfl w70 (by omega) (by omega) rfl ?_
                      exact E_iret rfl rfl
                    · exact ⟨I, rfl, hf, iQ, iM, iT, iS, l_el, (lr.1), (lr.2.1), (lr.2.2.1), (lr.2.2.2.1), (lr.2.2.2.2.1), (lr.2.2.2.2.2.1), (lr.2.2.2.2.2.2.1), (lr.2.2.2.2.2.2.2.1), (lr.2.2.2.2.2.2.2.2.1), (lr.2.2.2.2.2.2.2.2.2.1), (lr.2.2.2.2.2.2.2.2.2.2.1), (lr.2.2.2.2.2.2.2.2.2.2.2.1), (lr.2.2.2.2.2.2.2.2.2.2.2.2.1), (lr.2.2.2.2.2.2.2.2.2.2.2.2.2.1), (lr.2.2.2.2.2.2.2.2.2.2.2.2.2.2.1), (lr.2.2.2.2.2.2.2.2.2.2.2.2.2.2.2.1), (lr.2.2.2.2.2.2.2.2.2.2.2.2.2.2.2.2.1), (lr.2.2.2.2.2.2.2.2.2.2.2.2.2.2.2.2.2.1), (lr.2.2.2.2.2.2.2.2.2.2.2.2.2.2.2.2.2.2.1), (lr.2.2.2.2.2.2.2.2.2.2.2.2.2.2.2.2.2.2.2.1), (lr.2.2.2.2.2.2.2.2.2.2.2.2.2.2.2.2.2.2.2.2)⟩
                  · refine ⟨(-5), (im, lf, s, d, k, ls, rf, rz, ra, rn, rq, lt, m1, m2, m3, m4, bd, (fc.set 5 ((fc.getD 5 0) + (nI 1))), hd, sz, el, s, g, fm, hm, so, si, sh, ce, ca, td, wa, kp, la, bf, oo, bo, pw, ow, tr), (im, lf, s, d, k, ls, rf, rz, ra, rn, rq, lt, m1, m2, m3, m4, bd, (fc.set 5 ((fc.getD 5 0) + (nI 1))), hd, sz, el, s, g, (fm.set 5 ((fm.getD 5 0) + (nI 1))), hm, so, si, sh, ce, ca, td, wa, kp, la, bf, oo, bo, pw, ow, tr), ?_, ?_, ?_⟩
                    · show Ev ab_Z0 3 88 [.ref 0, .int (nI a1k), .int (nI a2k)] (ww im lf s d k ls rf rz ra rn rq lt m1 m2 m3 m4 bd fc hd sz el s g fm hm so si sh ce ca td wa kp la bf oo bo pw ow tr) (some (.int (-5)), (ww im lf s d k ls rf rz ra rn rq lt m1 m2 m3 m4 bd (fc.set 5 ((fc.getD 5 0) + (nI 1))) hd sz el s g fm hm so si sh ce ca td wa kp la bf oo bo pw ow tr))
                      refine Ef.in (md := mX5_pieceOf) (L := [some (.ref 0), some (.int (nI a1k)), some (.int (nI a2k))]) rfl (Nat.le_of_ble_eq_true rfl) rfl ?_
                      refine E_aload_n at_X5_pieceOf_0 rfl ?_
                      refine E_getfield (v := .ref 1) at_X5_pieceOf_1 w0 rfl (by decide) rfl ?_
                      refine E_iload_n at_X5_pieceOf_4 rfl ?_
                      refine E_callV (v := some (.int (nI 1))) (As := [.ref 1, .int (nI a1k)]) (r0 := []) (cs2 := (ww im lf s d k ls rf rz ra rn rq lt m1 m2 m3 m4 bd fc hd sz el s g fm hm so si sh ce ca td wa kp la bf oo bo pw ow tr)) at_X5_pieceOf_5 rfl rfl (Nat.le_of_ble_eq_true rfl) rfl (ab_rvOf w1 rfl) (L15_X4_isPiece (by omega) (by omega) (by omega) (by omega)) (by decide) rfl ?_
                      refine E_if (t := 17) (b := true) at_X5_pieceOf_8 rfl (by decide) ?_
                      refine E_iload_n at_X5_pieceOf_17 rfl ?_
                      refine E_tsOut (t := 114) at_X5_pieceOf_18 (ab_tsO (nI_toInt (by omega)) (by omega)) rfl ?_
                      refine E_aload_n rfl rfl ?_
                      refine E_iconst (x := nI 5) rfl (by decide) ?_
                      refine E_callV (v := some (.int (-5))) (As := [.ref 0, .int (nI 5)]) (r0 := []) (cs2 := (ww im lf s d k ls rf rz ra rn rq lt m1 m2 m3 m4 bd (fc.set 5 ((fc.getD 5 0) + (nI 1))) hd sz el s g fm hm so si sh ce ca td wa kp la bf oo bo pw ow tr)) rfl rfl rfl (Nat.le_of_ble_eq_true rfl) rfl (ab_rvOf w0 rfl) (L18_X5_refuse (by omega)) (by decide) w_lens ?_
                      exact E_iret rfl rfl
                    · show Ev ab_Z0 2 154 [.ref 65, .int (nI a1k), .int (nI a2k)] (ww im lf s d k ls rf rz ra rn rq lt m1 m2 m3 m4 bd (fc.set 5 ((fc.getD 5 0) + (nI 1))) hd sz el s g fm hm so si sh ce ca td wa kp la bf oo bo pw ow tr) (some (.int (-5)), (ww im lf s d k ls rf rz ra rn rq lt m1 m2 m3 m4 bd (fc.set 5 ((fc.getD 5 0) + (nI 1))) hd sz el s g (fm.set 5 ((fm.getD 5 0) + (nI 1))) hm so si sh ce ca td wa kp la bf oo bo pw ow tr))
                      refine Ef.in (md := mX6_pieceOf) (L := [some (.ref 65), some (.int (nI a1k)), some (.int (nI a2k))]) rfl (Nat.le_of_ble_eq_true rfl) rfl ?_
                      refine E_aload_n at_X6_pieceOf_0 rfl ?_
                      refine E_iload_n at_X6_pieceOf_1 rfl ?_
                      refine E_callV (v := some (.int (nI 1))) (As := [.ref 65, .int (nI a1k)]) (r0 := []) (cs2 := (ww im lf s d k ls rf rz ra rn rq lt m1 m2 m3 m4 bd (fc.set 5 ((fc.getD 5 0) + (nI 1))) hd sz el s g fm hm so si sh ce ca td wa kp la bf oo bo pw ow tr)) at_X6_pieceOf_2 rfl rfl (Nat.le_of_ble_eq_true rfl) rfl (ab_rvOf w65 rfl) (L16_X6_isPiece (by omega) (by omega) (by omega) (by omega)) (by decide) rfl ?_
                      refine E_if (t := 15) (b := true) at_X6_pieceOf_5 rfl (by decide) ?_
                      refine E_iload_n at_X6_pieceOf_15 rfl ?_
                      refine E_tsOut (t := 96) at_X6_pieceOf_16 (ab_tsO (nI_toInt (by omega)) (by omega)) rfl ?_
                      refine E_aload_n rfl rfl ?_
                      refine E_bipush (x := (-5)) rfl (by decide) ?_
                      refine E_callV (v := some (.int (-5))) (As := [.ref 65, .int (-5)]) (r0 := []) (cs2 := (ww im lf s d k ls rf rz ra rn rq lt m1 m2 m3 m4 bd (fc.set 5 ((fc.getD 5 0) + (nI 1))) hd sz el s g (fm.set 5 ((fm.getD 5 0) + (nI 1))) hm so si sh ce ca td wa kp la bf oo bo pw ow tr)) rfl rfl rfl (Nat.le_of_ble_eq_true rfl) rfl (ab_rvOf w65 rfl) (L19_X6_no (by omega)) (by decide) w_lens ?_
                      exact E_iret rfl rfl
                    · exact ⟨I, rfl, hf, iQ, iM, iT, iS, l_el, (lr.1), (lr.2.1), (lr.2.2.1), (by simp only [List.length_set]; exact (lr.2.2.2.1)), (by simp only [List.length_set]; exact (lr.2.2.2.2.1)), (lr.2.2.2.2.2.1), (lr.2.2.2.2.2.2.1), (lr.2.2.2.2.2.2.2.1), (lr.2.2.2.2.2.2.2.2.1), (lr.2.2.2.2.2.2.2.2.2.1), (lr.2.2.2.2.2.2.2.2.2.2.1), (lr.2.2.2.2.2.2.2.2.2.2.2.1), (lr.2.2.2.2.2.2.2.2.2.2.2.2.1), (lr.2.2.2.2.2.2.2.2.2.2.2.2.2.1), (lr.2.2.2.2.2.2.2.2.2.2.2.2.2.2.1), (lr.2.2.2.2.2.2.2.2.2.2.2.2.2.2.2.1), (lr.2.2.2.2.2.2.2.2.2.2.2.2.2.2.2.2.1), (lr.2.2.2.2.2.2.2.2.2.2.2.2.2.2.2.2.2.1), (lr.2.2.2.2.2.2.2.2.2.2.2.2.2.2.2.2.2.2.1), (lr.2.2.2.2.2.2.2.2.2.2.2.2.2.2.2.2.2.2.2.1), (lr.2.2.2.2.2.2.2.2.2.2.2.2.2.2.2.2.2.2.2.2)⟩
      · refine ⟨(-5), (im, lf, s, d, k, ls, rf, rz, ra, rn, rq, lt, m1, m2, m3, m4, bd, (fc.set 5 ((fc.getD 5 0) + (nI 1))), hd, sz, el, s, g, fm, hm, so, si, sh, ce, ca, td, wa, kp, la, bf, oo, bo, pw, ow, tr), (im, lf, s, d, k, ls, rf, rz, ra, rn, rq, lt, m1, m2, m3, m4, bd, (fc.set 5 ((fc.getD 5 0) + (nI 1))), hd, sz, el, s, g, (fm.set 5 ((fm.getD 5 0) + (nI 1))), hm, so, si, sh, ce, ca, td, wa, kp, la, bf, oo, bo, pw, ow, tr), ?_, ?_, ?_⟩
        · show Ev ab_Z0 3 88 [.ref 0, .int (nI a1k), .int a2] (ww im lf s d k ls rf rz ra rn rq lt m1 m2 m3 m4 bd fc hd sz el s g fm hm so si sh ce ca td wa kp la bf oo bo pw ow tr) (some (.int (-5)), (ww im lf s d k ls rf rz ra rn rq lt m1 m2 m3 m4 bd (fc.set 5 ((fc.getD 5 0) + (nI 1))) hd sz el s g fm hm so si sh ce ca td wa kp la bf oo bo pw ow tr))
          refine Ef.in (md := mX5_pieceOf) (L := [some (.ref 0), some (.int (nI a1k)), some (.int a2)]) rfl (Nat.le_of_ble_eq_true rfl) rfl ?_
          refine E_aload_n at_X5_pieceOf_0 rfl ?_
          refine E_getfield (v := .ref 1) at_X5_pieceOf_1 w0 rfl (by decide) rfl ?_
          refine E_iload_n at_X5_pieceOf_4 rfl ?_
          refine E_callV (v := some (.int (nI 1))) (As := [.ref 1, .int (nI a1k)]) (r0 := []) (cs2 := (ww im lf s d k ls rf rz ra rn rq lt m1 m2 m3 m4 bd fc hd sz el s g fm hm so si sh ce ca td wa kp la bf oo bo pw ow tr)) at_X5_pieceOf_5 rfl rfl (Nat.le_of_ble_eq_true rfl) rfl (ab_rvOf w1 rfl) (L15_X4_isPiece (by omega) (by omega) (by omega) (by omega)) (by decide) rfl ?_
          refine E_if (t := 17) (b := true) at_X5_pieceOf_8 rfl (by decide) ?_
          refine E_iload_n at_X5_pieceOf_17 rfl ?_
          refine E_tsOut (t := 114) at_X5_pieceOf_18 (ab_tsO rfl (by omega)) rfl ?_
          refine E_aload_n rfl rfl ?_
          refine E_iconst (x := nI 5) rfl (by decide) ?_
          refine E_callV (v := some (.int (-5))) (As := [.ref 0, .int (nI 5)]) (r0 := []) (cs2 := (ww im lf s d k ls rf rz ra rn rq lt m1 m2 m3 m4 bd (fc.set 5 ((fc.getD 5 0) + (nI 1))) hd sz el s g fm hm so si sh ce ca td wa kp la bf oo bo pw ow tr)) rfl rfl rfl (Nat.le_of_ble_eq_true rfl) rfl (ab_rvOf w0 rfl) (L18_X5_refuse (by omega)) (by decide) w_lens ?_
          exact E_iret rfl rfl
        · show Ev ab_Z0 2 154 [.ref 65, .int (nI a1k), .int a2] (ww im lf s d k ls rf rz ra rn rq lt m1 m2 m3 m4 bd (fc.set 5 ((fc.getD 5 0) + (nI 1))) hd sz el s g fm hm so si sh ce ca td wa kp la bf oo bo pw ow tr) (some (.int (-5)), (ww im lf s d k ls rf rz ra rn rq lt m1 m2 m3 m4 bd (fc.set 5 ((fc.getD 5 0) + (nI 1))) hd sz el s g (fm.set 5 ((fm.getD 5 0) + (nI 1))) hm so si sh ce ca td wa kp la bf oo bo pw ow tr))
          refine Ef.in (md := mX6_pieceOf) (L := [some (.ref 65), some (.int (nI a1k)), some (.int a2)]) rfl (Nat.le_of_ble_eq_true rfl) rfl ?_
          refine E_aload_n at_X6_pieceOf_0 rfl ?_
          refine E_iload_n at_X6_pieceOf_1 rfl ?_
          refine E_callV (v := some (.int (nI 1))) (As := [.ref 65, .int (nI a1k)]) (r0 := []) (cs2 := (ww im lf s d k ls rf rz ra rn rq lt m1 m2 m3 m4 bd (fc.set 5 ((fc.getD 5 0) + (nI 1))) hd sz el s g fm hm so si sh ce ca td wa kp la bf oo bo pw ow tr)) at_X6_pieceOf_2 rfl rfl (Nat.le_of_ble_eq_true rfl) rfl (ab_rvOf w65 rfl) (L16_X6_isPiece (by omega) (by omega) (by omega) (by omega)) (by decide) rfl ?_
          refine E_if (t := 15) (b := true) at_X6_pieceOf_5 rfl (by decide) ?_
          refine E_iload_n at_X6_pieceOf_15 rfl ?_
          refine E_tsOut (t := 96) at_X6_pieceOf_16 (ab_tsO rfl (by omega)) rfl ?_
          refine E_aload_n rfl rfl ?_
          refine E_bipush (x := (-5)) rfl (by decide) ?_
          refine E_callV (v := some (.int (-5))) (As := [.ref 65, .int (-5)]) (r0 := []) (cs2 := (ww im lf s d k ls rf rz ra rn rq lt m1 m2 m3 m4 bd (fc.set 5 ((fc.getD 5 0) + (nI 1))) hd sz el s g (fm.set 5 ((fm.getD 5 0) + (nI 1))) hm so si sh ce ca td wa kp la bf oo bo pw ow tr)) rfl rfl rfl (Nat.le_of_ble_eq_true rfl) rfl (ab_rvOf w65 rfl) (L19_X6_no (by omega)) (by decide) w_lens ?_
          exact E_iret rfl rfl
        · exact ⟨I, rfl, hf, iQ, iM, iT, iS, l_el, (lr.1), (lr.2.1), (lr.2.2.1), (by simp only [List.length_set]; exact (lr.2.2.2.1)), (by simp only [List.length_set]; exact (lr.2.2.2.2.1)), (lr.2.2.2.2.2.1), (lr.2.2.2.2.2.2.1), (lr.2.2.2.2.2.2.2.1), (lr.2.2.2.2.2.2.2.2.1), (lr.2.2.2.2.2.2.2.2.2.1), (lr.2.2.2.2.2.2.2.2.2.2.1), (lr.2.2.2.2.2.2.2.2.2.2.2.1), (lr.2.2.2.2.2.2.2.2.2.2.2.2.1), (lr.2.2.2.2.2.2.2.2.2.2.2.2.2.1), (lr.2.2.2.2.2.2.2.2.2.2.2.2.2.2.1), (lr.2.2.2.2.2.2.2.2.2.2.2.2.2.2.2.1), (lr.2.2.2.2.2.2.2.2.2.2.2.2.2.2.2.2.1), (lr.2.2.2.2.2.2.2.2.2.2.2.2.2.2.2.2.2.1), (lr.2.2.2.2.2.2.2.2.2.2.2.2.2.2.2.2.2.2.1), (lr.2.2.2.2.2.2.2.2.2.2.2.2.2.2.2.2.2.2.2.1), (lr.2.2.2.2.2.2.2.2.2.2.2.2.2.2.2.2.2.2.2.2)⟩
    · refine ⟨(-5), (im, lf, s, d, k, ls, rf, rz, ra, rn, rq, lt, m1, m2, m3, m4, bd, (fc.set 5 ((fc.getD 5 0) + (nI 1))), hd, sz, el, s, g, fm, hm, so, si, sh, ce, ca, td, wa, kp, la, bf, oo, bo, pw, ow, tr), (im, lf, s, d, k, ls, rf, rz, ra, rn, rq, lt, m1, m2, m3, m4, bd, (fc.set 5 ((fc.getD 5 0) + (nI 1))), hd, sz, el, s, g, (fm.set 5 ((fm.getD 5 0) + (nI 1))), hm, so, si, sh, ce, ca, td, wa, kp, la, bf, oo, bo, pw, ow, tr), ?_, ?_, ?_⟩
      · show Ev ab_Z0 3 88 [.ref 0, .int (nI a1k), .int a2] (ww im lf s d k ls rf rz ra rn rq lt m1 m2 m3 m4 bd fc hd sz el s g fm hm so si sh ce ca td wa kp la bf oo bo pw ow tr) (some (.int (-5)), (ww im lf s d k ls rf rz ra rn rq lt m1 m2 m3 m4 bd (fc.set 5 ((fc.getD 5 0) + (nI 1))) hd sz el s g fm hm so si sh ce ca td wa kp la bf oo bo pw ow tr))
        refine Ef.in (md := mX5_pieceOf) (L := [some (.ref 0), some (.int (nI a1k)), some (.int a2)]) rfl (Nat.le_of_ble_eq_true rfl) rfl ?_
        refine E_aload_n at_X5_pieceOf_0 rfl ?_
        refine E_getfield (v := .ref 1) at_X5_pieceOf_1 w0 rfl (by decide) rfl ?_
        refine E_iload_n at_X5_pieceOf_4 rfl ?_
        refine E_callV (v := some (.int (nI 0))) (As := [.ref 1, .int (nI a1k)]) (r0 := []) (cs2 := (ww im lf s d k ls rf rz ra rn rq lt m1 m2 m3 m4 bd fc hd sz el s g fm hm so si sh ce ca td wa kp la bf oo bo pw ow tr)) at_X5_pieceOf_5 rfl rfl (Nat.le_of_ble_eq_true rfl) rfl (ab_rvOf w1 rfl) (L20_X4_isPiece (by omega) (by omega) (by omega) (by omega)) (by decide) rfl ?_
        refine E_if (t := 17) (b := false) at_X5_pieceOf_8 rfl (by decide) ?_
        refine E_aload_n rfl rfl ?_
        refine E_iconst (x := nI 5) rfl (by decide) ?_
        refine E_callV (v := some (.int (-5))) (As := [.ref 0, .int (nI 5)]) (r0 := []) (cs2 := (ww im lf s d k ls rf rz ra rn rq lt m1 m2 m3 m4 bd (fc.set 5 ((fc.getD 5 0) + (nI 1))) hd sz el s g fm hm so si sh ce ca td wa kp la bf oo bo pw ow tr)) rfl rfl rfl (Nat.le_of_ble_eq_true rfl) rfl (ab_rvOf w0 rfl) (L18_X5_refuse (by omega)) (by decide) w_lens ?_
        exact E_iret rfl rfl
      · show Ev ab_Z0 2 154 [.ref 65, .int (nI a1k), .int a2] (ww im lf s d k ls rf rz ra rn rq lt m1 m2 m3 m4 bd (fc.set 5 ((fc.getD 5 0) + (nI 1))) hd sz el s g fm hm so si sh ce ca td wa kp la bf oo bo pw ow tr) (some (.int (-5)), (ww im lf s d k ls rf rz ra rn rq lt m1 m2 m3 m4 bd (fc.set 5 ((fc.getD 5 0) + (nI 1))) hd sz el s g (fm.set 5 ((fm.getD 5 0) + (nI 1))) hm so si sh ce ca td wa kp la bf oo bo pw ow tr))
        refine Ef.in (md := mX6_pieceOf) (L := [some (.ref 65), some (.int (nI a1k)), some (.int a2)]) rfl (Nat.le_of_ble_eq_true rfl) rfl ?_
        refine E_aload_n at_X6_pieceOf_0 rfl ?_
        refine E_iload_n at_X6_pieceOf_1 rfl ?_
        refine E_callV (v := some (.int (nI 0))) (As := [.ref 65, .int (nI a1k)]) (r0 := []) (cs2 := (ww im lf s d k ls rf rz ra rn rq lt m1 m2 m3 m4 bd (fc.set 5 ((fc.getD 5 0) + (nI 1))) hd sz el s g fm hm so si sh ce ca td wa kp la bf oo bo pw ow tr)) at_X6_pieceOf_2 rfl rfl (Nat.le_of_ble_eq_true rfl) rfl (ab_rvOf w65 rfl) (L21_X6_isPiece (by omega) (by omega) (by omega) (by omega)) (by decide) rfl ?_
        refine E_if (t := 15) (b := false) at_X6_pieceOf_5 rfl (by decide) ?_
        refine E_aload_n rfl rfl ?_
        refine E_bipush (x := (-5)) rfl (by decide) ?_
        refine E_callV (v := some (.int (-5))) (As := [.ref 65, .int (-5)]) (r0 := []) (cs2 := (ww im lf s d k ls rf rz ra rn rq lt m1 m2 m3 m4 bd (fc.set 5 ((fc.getD 5 0) + (nI 1))) hd sz el s g (fm.set 5 ((fm.getD 5 0) + (nI 1))) hm so si sh ce ca td wa kp la bf oo bo pw ow tr)) rfl rfl rfl (Nat.le_of_ble_eq_true rfl) rfl (ab_rvOf w65 rfl) (L19_X6_no (by omega)) (by decide) w_lens ?_
        exact E_iret rfl rfl
      · exact ⟨I, rfl, hf, iQ, iM, iT, iS, l_el, (lr.1), (lr.2.1), (lr.2.2.1), (by simp only [List.length_set]; exact (lr.2.2.2.1)), (by simp only [List.length_set]; exact (lr.2.2.2.2.1)), (lr.2.2.2.2.2.1), (lr.2.2.2.2.2.2.1), (lr.2.2.2.2.2.2.2.1), (lr.2.2.2.2.2.2.2.2.1), (lr.2.2.2.2.2.2.2.2.2.1), (lr.2.2.2.2.2.2.2.2.2.2.1), (lr.2.2.2.2.2.2.2.2.2.2.2.1), (lr.2.2.2.2.2.2.2.2.2.2.2.2.1), (lr.2.2.2.2.2.2.2.2.2.2.2.2.2.1), (lr.2.2.2.2.2.2.2.2.2.2.2.2.2.2.1), (lr.2.2.2.2.2.2.2.2.2.2.2.2.2.2.2.1), (lr.2.2.2.2.2.2.2.2.2.2.2.2.2.2.2.2.1), (lr.2.2.2.2.2.2.2.2.2.2.2.2.2.2.2.2.2.1), (lr.2.2.2.2.2.2.2.2.2.2.2.2.2.2.2.2.2.2.1), (lr.2.2.2.2.2.2.2.2.2.2.2.2.2.2.2.2.2.2.2.1), (lr.2.2.2.2.2.2.2.2.2.2.2.2.2.2.2.2.2.2.2.2)⟩
  · refine ⟨(-5), (im, lf, s, d, k, ls, rf, rz, ra, rn, rq, lt, m1, m2, m3, m4, bd, (fc.set 5 ((fc.getD 5 0) + (nI 1))), hd, sz, el, s, g, fm, hm, so, si, sh, ce, ca, td, wa, kp, la, bf, oo, bo, pw, ow, tr), (im, lf, s, d, k, ls, rf, rz, ra, rn, rq, lt, m1, m2, m3, m4, bd, (fc.set 5 ((fc.getD 5 0) + (nI 1))), hd, sz, el, s, g, (fm.set 5 ((fm.getD 5 0) + (nI 1))), hm, so, si, sh, ce, ca, td, wa, kp, la, bf, oo, bo, pw, ow, tr), ?_, ?_, ?_⟩
    · show Ev ab_Z0 3 88 [.ref 0, .int a1, .int a2] (ww im lf s d k ls rf rz ra rn rq lt m1 m2 m3 m4 bd fc hd sz el s g fm hm so si sh ce ca td wa kp la bf oo bo pw ow tr) (some (.int (-5)), (ww im lf s d k ls rf rz ra rn rq lt m1 m2 m3 m4 bd (fc.set 5 ((fc.getD 5 0) + (nI 1))) hd sz el s g fm hm so si sh ce ca td wa kp la bf oo bo pw ow tr))
      refine Ef.in (md := mX5_pieceOf) (L := [some (.ref 0), some (.int a1), some (.int a2)]) rfl (Nat.le_of_ble_eq_true rfl) rfl ?_
      refine E_aload_n at_X5_pieceOf_0 rfl ?_
      refine E_getfield (v := .ref 1) at_X5_pieceOf_1 w0 rfl (by decide) rfl ?_
      refine E_iload_n at_X5_pieceOf_4 rfl ?_
      refine E_callV (v := some (.int (nI 0))) (As := [.ref 1, .int a1]) (r0 := []) (cs2 := (ww im lf s d k ls rf rz ra rn rq lt m1 m2 m3 m4 bd fc hd sz el s g fm hm so si sh ce ca td wa kp la bf oo bo pw ow tr)) at_X5_pieceOf_5 rfl rfl (Nat.le_of_ble_eq_true rfl) rfl (ab_rvOf w1 rfl) (L22_X4_isPiece (by omega) (by omega)) (by decide) rfl ?_
      refine E_if (t := 17) (b := false) at_X5_pieceOf_8 rfl (by decide) ?_
      refine E_aload_n rfl rfl ?_
      refine E_iconst (x := nI 5) rfl (by decide) ?_
      refine E_callV (v := some (.int (-5))) (As := [.ref 0, .int (nI 5)]) (r0 := []) (cs2 := (ww im lf s d k ls rf rz ra rn rq lt m1 m2 m3 m4 bd (fc.set 5 ((fc.getD 5 0) + (nI 1))) hd sz el s g fm hm so si sh ce ca td wa kp la bf oo bo pw ow tr)) rfl rfl rfl (Nat.le_of_ble_eq_true rfl) rfl (ab_rvOf w0 rfl) (L18_X5_refuse (by omega)) (by decide) w_lens ?_
      exact E_iret rfl rfl
    · show Ev ab_Z0 2 154 [.ref 65, .int a1, .int a2] (ww im lf s d k ls rf rz ra rn rq lt m1 m2 m3 m4 bd (fc.set 5 ((fc.getD 5 0) + (nI 1))) hd sz el s g fm hm so si sh ce ca td wa kp la bf oo bo pw ow tr) (some (.int (-5)), (ww im lf s d k ls rf rz ra rn rq lt m1 m2 m3 m4 bd (fc.set 5 ((fc.getD 5 0) + (nI 1))) hd sz el s g (fm.set 5 ((fm.getD 5 0) + (nI 1))) hm so si sh ce ca td wa kp la bf oo bo pw ow tr))
      refine Ef.in (md := mX6_pieceOf) (L := [some (.ref 65), some (.int a1), some (.int a2)]) rfl (Nat.le_of_ble_eq_true rfl) rfl ?_
      refine E_aload_n at_X6_pieceOf_0 rfl ?_
      refine E_iload_n at_X6_pieceOf_1 rfl ?_
      refine E_callV (v := some (.int (nI 0))) (As := [.ref 65, .int a1]) (r0 := []) (cs2 := (ww im lf s d k ls rf rz ra rn rq lt m1 m2 m3 m4 bd (fc.set 5 ((fc.getD 5 0) + (nI 1))) hd sz el s g fm hm so si sh ce ca td wa kp la bf oo bo pw ow tr)) at_X6_pieceOf_2 rfl rfl (Nat.le_of_ble_eq_true rfl) rfl (ab_rvOf w65 rfl) (L23_X6_isPiece (by omega) (by omega)) (by decide) rfl ?_
      refine E_if (t := 15) (b := false) at_X6_pieceOf_5 rfl (by decide) ?_
      refine E_aload_n rfl rfl ?_
      refine E_bipush (x := (-5)) rfl (by decide) ?_
      refine E_callV (v := some (.int (-5))) (As := [.ref 65, .int (-5)]) (r0 := []) (cs2 := (ww im lf s d k ls rf rz ra rn rq lt m1 m2 m3 m4 bd (fc.set 5 ((fc.getD 5 0) + (nI 1))) hd sz el s g (fm.set 5 ((fm.getD 5 0) + (nI 1))) hm so si sh ce ca td wa kp la bf oo bo pw ow tr)) rfl rfl rfl (Nat.le_of_ble_eq_true rfl) rfl (ab_rvOf w65 rfl) (L19_X6_no (by omega)) (by decide) w_lens ?_
      exact E_iret rfl rfl
    · exact ⟨I, rfl, hf, iQ, iM, iT, iS, l_el, (lr.1), (lr.2.1), (lr.2.2.1), (by simp only [List.length_set]; exact (lr.2.2.2.1)), (by simp only [List.length_set]; exact (lr.2.2.2.2.1)), (lr.2.2.2.2.2.1), (lr.2.2.2.2.2.2.1), (lr.2.2.2.2.2.2.2.1), (lr.2.2.2.2.2.2.2.2.1), (lr.2.2.2.2.2.2.2.2.2.1), (lr.2.2.2.2.2.2.2.2.2.2.1), (lr.2.2.2.2.2.2.2.2.2.2.2.1), (lr.2.2.2.2.2.2.2.2.2.2.2.2.1), (lr.2.2.2.2.2.2.2.2.2.2.2.2.2.1), (lr.2.2.2.2.2.2.2.2.2.2.2.2.2.2.1), (lr.2.2.2.2.2.2.2.2.2.2.2.2.2.2.2.1), (lr.2.2.2.2.2.2.2.2.2.2.2.2.2.2.2.2.1), (lr.2.2.2.2.2.2.2.2.2.2.2.2.2.2.2.2.2.1), (lr.2.2.2.2.2.2.2.2.2.2.2.2.2.2.2.2.2.2.1), (lr.2.2.2.2.2.2.2.2.2.2.2.2.2.2.2.2.2.2.2.1), (lr.2.2.2.2.2.2.2.2.2.2.2.2.2.2.2.2.2.2.2.2)⟩
