/-! change; by program (wip/tools/op.py) -/
section LM
variable {im : Int32} {lf : Int32} {s : ab_q} {d : ab_q} {k : ab_q} {ls : List Int32} {rf : Int32} {rz : Int32} {ra : Int32} {rn : Int32} {rq : ab_q} {lt : List Int32} {m1 : Int32} {m2 : Int32} {m3 : Int32} {m4 : Int32} {bd : List Int32} {fc : List Int32} {hd : Nat → Int32} {sz : Nat → Int32} {el : Nat → List Int64} {t : ab_q} {g : Nat → Int32} {fm : List Int32} {hm : List Nat} {so : List Nat} {si : List Nat} {sh : List Int32} {ce : List Int64} {ca : List Int64} {td : List Int32} {wa : List Int32} {kp : List Int32} {la : List Int32} {bf : List Int32} {oo : List Int32} {bo : List Int32} {pw : List Int32} {ow : List Int32} {tr : List Int32}
theorem L96_X5_isOneOfTwo  : Ev ab_Z0 1 116 [.int (nI 0)] (ww im lf s d k ls rf rz ra rn rq lt m1 m2 m3 m4 bd fc hd sz el t g fm hm so si sh ce ca td wa kp la bf oo bo pw ow tr) (some (.int (nI 1)), (ww im lf s d k ls rf rz ra rn rq lt m1 m2 m3 m4 bd fc hd sz el t g fm hm so si sh ce ca td wa kp la bf oo bo pw ow tr)) := by
  refine Ef.in (md := mX5_isOneOfTwo) (L := [some (.int (nI 0))]) rfl (Nat.le_of_ble_eq_true rfl) rfl ?_
  refine E_iload_n at_X5_isOneOfTwo_0 rfl ?_
  refine E_if (t := 9) (b := true) at_X5_isOneOfTwo_1 rfl (by decide) ?_
  refine E_iconst (x := nI 1) rfl (by decide) ?_
  refine E_goto (t := 14) rfl rfl ?_
  exact E_iret at_X5_isOneOfTwo_14 rfl
theorem L97_X4_isAmount {x0 : Nat} (h0 : x0 < 2147483648) (h1 : ¬ (x0 < 0)) (h2 : x0 < 100) : Ev ab_Z0 1 48 [.int (nI x0)] (ww im lf s d k ls rf rz ra rn rq lt m1 m2 m3 m4 bd fc hd sz el t g fm hm so si sh ce ca td wa kp la bf oo bo pw ow tr) (some (.int (nI 1)), (ww im lf s d k ls rf rz ra rn rq lt m1 m2 m3 m4 bd fc hd sz el t g fm hm so si sh ce ca td wa kp la bf oo bo pw ow tr)) := by
  refine Ef.in (md := mX4_isAmount) (L := [some (.int (nI x0))]) rfl (Nat.le_of_ble_eq_true rfl) rfl ?_
  refine E_iload_n at_X4_isAmount_0 rfl ?_
  refine E_if (t := 14) (b := false) at_X4_isAmount_1 rfl ((cn_lt (nI_toInt (by omega)) (by decide : (0 : Int32).toInt = 0)).trans (decide_eq_false (by omega))) ?_
  refine E_iload_n at_X4_isAmount_4 rfl ?_
  refine E_bipush (x := nI 100) at_X4_isAmount_5 (by decide) ?_
  refine E_ic (t := 14) (b := false) at_X4_isAmount_7 rfl ((cn_ge (nI_toInt (by omega)) (nI_toInt (by omega))).trans (decide_eq_false (by omega))) ?_
  refine E_iconst (x := nI 1) at_X4_isAmount_10 (by decide) ?_
  refine E_goto (t := 15) at_X4_isAmount_11 rfl ?_
  exact E_iret at_X4_isAmount_15 rfl
theorem L98_X4_isAmount {x0 : Nat} (h0 : x0 < 2147483648) (h1 : ¬ (x0 < 0)) (h2 : ¬ (x0 < 100)) : Ev ab_Z0 1 48 [.int (nI x0)] (ww im lf s d k ls rf rz ra rn rq lt m1 m2 m3 m4 bd fc hd sz el t g fm hm so si sh ce ca td wa kp la bf oo bo pw ow tr) (some (.int (nI 0)), (ww im lf s d k ls rf rz ra rn rq lt m1 m2 m3 m4 bd fc hd sz el t g fm hm so si sh ce ca td wa kp la bf oo bo pw ow tr)) := by
  refine Ef.in (md := mX4_isAmount) (L := [some (.int (nI x0))]) rfl (Nat.le_of_ble_eq_true rfl) rfl ?_
  refine E_iload_n at_X4_isAmount_0 rfl ?_
  refine E_if (t := 14) (b := false) at_X4_isAmount_1 rfl ((cn_lt (nI_toInt (by omega)) (by decide : (0 : Int32).toInt = 0)).trans (decide_eq_false (by omega))) ?_
  refine E_iload_n at_X4_isAmount_4 rfl ?_
  refine E_bipush (x := nI 100) at_X4_isAmount_5 (by decide) ?_
  refine E_ic (t := 14) (b := true) at_X4_isAmount_7 rfl ((cn_ge (nI_toInt (by omega)) (nI_toInt (by omega))).trans (decide_eq_true (by omega))) ?_
  refine E_iconst (x := nI 0) at_X4_isAmount_14 (by decide) ?_
  exact E_iret at_X4_isAmount_15 rfl
theorem L99_X6_noTen  (h0 : fm.length = 8) : Ev ab_Z0 1 130 [.ref 65, .int (-6)] (ww im lf s d k ls rf rz ra rn rq lt m1 m2 m3 m4 bd fc hd sz el t g fm hm so si sh ce ca td wa kp la bf oo bo pw ow tr) (some (.int (-16)), (ww im lf s d k ls rf rz ra rn rq lt m1 m2 m3 m4 bd fc hd sz el t g (fm.set 6 ((fm.getD 6 0) + (nI 1))) hm so si sh ce ca td wa kp la bf oo bo pw ow tr)) := by
  refine Ef.in (md := mX6_noTen) (L := [some (.ref 65), some (.int (-6))]) rfl (Nat.le_of_ble_eq_true rfl) rfl ?_
  refine E_aload_n at_X6_noTen_0 rfl ?_
  refine E_getfield (v := .ref 66) at_X6_noTen_1 w65 rfl (by decide) rfl ?_
  refine E_iload_n at_X6_noTen_4 rfl ?_
  refine E_ineg (z := nI 6) at_X6_noTen_5 (by decide) ?_
  refine E_dup2 at_X6_noTen_6 ⟨rfl, rfl⟩ ?_
  refine E_ialI (l := fm) (v := fm.getD 6 0) at_X6_noTen_7 w66 (by omega) (by omega) rfl ?_
  refine E_iconst (x := nI 1) at_X6_noTen_8 (by decide) ?_
  refine E_iadd (z := (fm.getD 6 0) + (nI 1)) at_X6_noTen_9 rfl ?_
  refine E_iasI (l := fm) (cs2 := (ww im lf s d k ls rf rz ra rn rq lt m1 m2 m3 m4 bd fc hd sz el t g (fm.set 6 ((fm.getD 6 0) + (nI 1))) hm so si sh ce ca td wa kp la bf oo bo pw ow tr)) at_X6_noTen_10 w66 (by omega) (by omega) rfl ?_
  refine E_iload_n at_X6_noTen_11 rfl ?_
  refine E_bipush (x := nI 10) at_X6_noTen_12 (by decide) ?_
  refine E_isub (z := (-16)) at_X6_noTen_14 (by decide) ?_
  exact E_iret at_X6_noTen_15 rfl
theorem L100_X4_isAmount {x0 : Int32} (h0 : x0.toInt < 0) (h1 : x0.toInt < 0) : Ev ab_Z0 1 48 [.int x0] (ww im lf s d k ls rf rz ra rn rq lt m1 m2 m3 m4 bd fc hd sz el t g fm hm so si sh ce ca td wa kp la bf oo bo pw ow tr) (some (.int (nI 0)), (ww im lf s d k ls rf rz ra rn rq lt m1 m2 m3 m4 bd fc hd sz el t g fm hm so si sh ce ca td wa kp la bf oo bo pw ow tr)) := by
  refine Ef.in (md := mX4_isAmount) (L := [some (.int x0)]) rfl (Nat.le_of_ble_eq_true rfl) rfl ?_
  refine E_iload_n at_X4_isAmount_0 rfl ?_
  refine E_if (t := 14) (b := true) at_X4_isAmount_1 rfl ((cn_lt rfl (by decide : (0 : Int32).toInt = 0)).trans (decide_eq_true (by omega))) ?_
  refine E_iconst (x := nI 0) at_X4_isAmount_14 (by decide) ?_
  exact E_iret at_X4_isAmount_15 rfl
theorem L101_X5_isOneOfTwo  : Ev ab_Z0 1 116 [.int (nI 1)] (ww im lf s d k ls rf rz ra rn rq lt m1 m2 m3 m4 bd fc hd sz el t g fm hm so si sh ce ca td wa kp la bf oo bo pw ow tr) (some (.int (nI 1)), (ww im lf s d k ls rf rz ra rn rq lt m1 m2 m3 m4 bd fc hd sz el t g fm hm so si sh ce ca td wa kp la bf oo bo pw ow tr)) := by
  refine Ef.in (md := mX5_isOneOfTwo) (L := [some (.int (nI 1))]) rfl (Nat.le_of_ble_eq_true rfl) rfl ?_
  refine E_iload_n at_X5_isOneOfTwo_0 rfl ?_
  refine E_if (t := 9) (b := false) at_X5_isOneOfTwo_1 rfl (by decide) ?_
  refine E_iload_n rfl rfl ?_
  refine E_iconst (x := nI 1) rfl (by decide) ?_
  refine E_ic (t := 13) (b := false) rfl rfl (by decide) ?_
  refine E_iconst (x := nI 1) rfl (by decide) ?_
  refine E_goto (t := 14) rfl rfl ?_
  exact E_iret at_X5_isOneOfTwo_14 rfl
theorem L102_X5_isOneOfTwo {x0 : Nat} (h0 : x0 < 2147483648) (h1 : ¬ (x0 = 0)) (h2 : ¬ (x0 = 1)) : Ev ab_Z0 1 116 [.int (nI x0)] (ww im lf s d k ls rf rz ra rn rq lt m1 m2 m3 m4 bd fc hd sz el t g fm hm so si sh ce ca td wa kp la bf oo bo pw ow tr) (some (.int (nI 0)), (ww im lf s d k ls rf rz ra rn rq lt m1 m2 m3 m4 bd fc hd sz el t g fm hm so si sh ce ca td wa kp la bf oo bo pw ow tr)) := by
  refine Ef.in (md := mX5_isOneOfTwo) (L := [some (.int (nI x0))]) rfl (Nat.le_of_ble_eq_true rfl) rfl ?_
  refine E_iload_n at_X5_isOneOfTwo_0 rfl ?_
  refine E_if (t := 9) (b := false) at_X5_isOneOfTwo_1 rfl ((cn_eq (nI_toInt (by omega)) (by decide : (0 : Int32).toInt = 0)).trans (decide_eq_false (by omega))) ?_
  refine E_iload_n rfl rfl ?_
  refine E_iconst (x := nI 1) rfl (by decide) ?_
  refine E_ic (t := 13) (b := true) rfl rfl ((cn_ne (nI_toInt (by omega)) (nI_toInt (by omega))).trans (decide_eq_true (by omega))) ?_
  refine E_iconst (x := nI 0) rfl (by decide) ?_
  exact E_iret at_X5_isOneOfTwo_14 rfl
theorem L103_X6_noTen  (h0 : fm.length = 8) : Ev ab_Z0 1 130 [.ref 65, .int (-5)] (ww im lf s d k ls rf rz ra rn rq lt m1 m2 m3 m4 bd fc hd sz el t g fm hm so si sh ce ca td wa kp la bf oo bo pw ow tr) (some (.int (-15)), (ww im lf s d k ls rf rz ra rn rq lt m1 m2 m3 m4 bd fc hd sz el t g (fm.set 5 ((fm.getD 5 0) + (nI 1))) hm so si sh ce ca td wa kp la bf oo bo pw ow tr)) := by
  refine Ef.in (md := mX6_noTen) (L := [some (.ref 65), some (.int (-5))]) rfl (Nat.le_of_ble_eq_true rfl) rfl ?_
  refine E_aload_n at_X6_noTen_0 rfl ?_
  refine E_getfield (v := .ref 66) at_X6_noTen_1 w65 rfl (by decide) rfl ?_
  refine E_iload_n at_X6_noTen_4 rfl ?_
  refine E_ineg (z := nI 5) at_X6_noTen_5 (by decide) ?_
  refine E_dup2 at_X6_noTen_6 ⟨rfl, rfl⟩ ?_
  refine E_ialI (l := fm) (v := fm.getD 5 0) at_X6_noTen_7 w66 (by omega) (by omega) rfl ?_
  refine E_iconst (x := nI 1) at_X6_noTen_8 (by decide) ?_
  refine E_iadd (z := (fm.getD 5 0) + (nI 1)) at_X6_noTen_9 rfl ?_
  refine E_iasI (l := fm) (cs2 := (ww im lf s d k ls rf rz ra rn rq lt m1 m2 m3 m4 bd fc hd sz el t g (fm.set 5 ((fm.getD 5 0) + (nI 1))) hm so si sh ce ca td wa kp la bf oo bo pw ow tr)) at_X6_noTen_10 w66 (by omega) (by omega) rfl ?_
  refine E_iload_n at_X6_noTen_11 rfl ?_
  refine E_bipush (x := nI 10) at_X6_noTen_12 (by decide) ?_
  refine E_isub (z := (-15)) at_X6_noTen_14 (by decide) ?_
  exact E_iret at_X6_noTen_15 rfl
theorem L104_X5_isOneOfTwo {x0 : Int32} (h0 : x0.toInt < 0) (h1 : ¬ (x0.toInt = 0)) (h2 : ¬ (x0.toInt = 1)) : Ev ab_Z0 1 116 [.int x0] (ww im lf s d k ls rf rz ra rn rq lt m1 m2 m3 m4 bd fc hd sz el t g fm hm so si sh ce ca td wa kp la bf oo bo pw ow tr) (some (.int (nI 0)), (ww im lf s d k ls rf rz ra rn rq lt m1 m2 m3 m4 bd fc hd sz el t g fm hm so si sh ce ca td wa kp la bf oo bo pw ow tr)) := by
  refine Ef.in (md := mX5_isOneOfTwo) (L := [some (.int x0)]) rfl (Nat.le_of_ble_eq_true rfl) rfl ?_
  refine E_iload_n at_X5_isOneOfTwo_0 rfl ?_
  refine E_if (t := 9) (b := false) at_X5_isOneOfTwo_1 rfl ((cn_eq rfl (by decide : (0 : Int32).toInt = 0)).trans (decide_eq_false (by omega))) ?_
  refine E_iload_n rfl rfl ?_
  refine E_iconst (x := nI 1) rfl (by decide) ?_
  refine E_ic (t := 13) (b := true) rfl rfl ((cn_ne rfl (nI_toInt (by omega))).trans (decide_eq_true (by omega))) ?_
  refine E_iconst (x := nI 0) rfl (by decide) ?_
  exact E_iret at_X5_isOneOfTwo_14 rfl
end LM
set_option maxHeartbeats 4000000 in
theorem op_change (x : St) (hx : wI x) (a1 : Int32) (a2 : Int32) : ∃ (r : Int32) (x1 x2 : St), Ev ab_Z0 5 93 [.ref 0, .int a1, .int a2] (wt x) (some (.int r), wt x1) ∧ Ev ab_Z0 4 173 [.ref 65, .int a1, .int a2] (wt x1) (some (.int r), wt x2) ∧ wI x2 := by
  obtain ⟨im, lf, s, d, k, ls, rf, rz, ra, rn, rq, lt, m1, m2, m3, m4, bd, fc, hd, sz, el, t, g, fm, hm, so, si, sh, ce, ca, td, wa, kp, la, bf, oo, bo, pw, ow, tr⟩ := x
  obtain ⟨I, ts, hf, iQ, iM, iT, iS, l_el, lr⟩ := hx
  replace lr : Hd _ := lr
  have l_fc := lr.2.2.2.1
  have l_fm := lr.2.2.2.2.1
  subst ts
  obtain ⟨⟨i0, i1, i2, i3⟩, ⟨i4, i5, i6, i7, i8⟩, ⟨i9, i10⟩, I1, I2, I3, I4⟩ := id I
  rcases ab_int a2 with ⟨a2k, f0, rfl⟩ | f0
  · by_cases f1 : a2k = 0
    · subst f1
      rcases ab_int a1 with ⟨a1k, f2, rfl⟩ | f2
      · by_cases f3 : a1k < 100
        · rcases wgh_bst s (qPs s 99 (qN s)) (qN s) a1k with ⟨eb0, fb0⟩ | ⟨B0, hB0, hs0, hw0, hb0, hk0⟩
          · have := qPs_in s 99 (i := qN s) (by omega)
            have := lsF_len (wgh s (qPs s 99 (qN s)) (qN s))
            have := lsF_len (bst s (qPs s 99 (qN s)) (qN s) (2 ^ qN s))
            refine ⟨(-1), (im, lf, s, d, k, (lsF (wgh s (qPs s 99 (qN s)) (qN s))), rf, rz, ra, rn, rq, lt, m1, m2, m3, m4, bd, fc, hd, sz, el, s, g, fm, hm, so, si, sh, ce, ca, td, wa, kp, la, bf, oo, bo, pw, ow, tr), (im, lf, s, d, k, (lsF (wgh s (qPs s 99 (qN s)) (qN s))), rf, rz, ra, rn, rq, lt, m1, m2, m3, m4, bd, fc, hd, sz, el, s, g, fm, hm, so, si, sh, ce, ca, td, wa, kp, la, (lsF (bst s (qPs s 99 (qN s)) (qN s) (2 ^ qN s))), oo, bo, pw, ow, tr), ?_, ?_, ?_⟩
            · show Ev ab_Z0 5 93 [.ref 0, .int (nI a1k), .int (nI 0)] (ww im lf s d k ls rf rz ra rn rq lt m1 m2 m3 m4 bd fc hd sz el s g fm hm so si sh ce ca td wa kp la bf oo bo pw ow tr) (some (.int (-1)), (ww im lf s d k (lsF (wgh s (qPs s 99 (qN s)) (qN s))) rf rz ra rn rq lt m1 m2 m3 m4 bd fc hd sz el s g fm hm so si sh ce ca td wa kp la bf oo bo pw ow tr))
              refine Ef.in (md := mX5_change) (L := [some (.ref 0), some (.int (nI a1k)), some (.int (nI 0))]) rfl (Nat.le_of_ble_eq_true rfl) rfl ?_
              refine E_iload_n at_X5_change_0 rfl ?_
              refine E_callS (v := some (.int (nI 1))) (As := [.int (nI 0)]) (r0 := []) (cs2 := (ww im lf s d k ls rf rz ra rn rq lt m1 m2 m3 m4 bd fc hd sz el s g fm hm so si sh ce ca td wa kp la bf oo bo pw ow tr)) at_X5_change_1 rfl rfl (Nat.le_of_ble_eq_true rfl) rfl (L96_X5_isOneOfTwo) (by decide) rfl ?_
              refine E_if (t := 16) (b := true) at_X5_change_4 rfl (by decide) ?_
              refine E_iload_n at_X5_change_16 rfl ?_
              refine E_callS (v := some (.int (nI 1))) (As := [.int (nI a1k)]) (r0 := []) (cs2 := (ww im lf s d k ls rf rz ra rn rq lt m1 m2 m3 m4 bd fc hd sz el s g fm hm so si sh ce ca td wa kp la bf oo bo pw ow tr)) at_X5_change_17 rfl rfl (Nat.le_of_ble_eq_true rfl) rfl (L97_X4_isAmount (by omega) (by omega) (by omega)) (by decide) rfl ?_
              refine E_if (t := 33) (b := true) at_X5_change_20 rfl (by decide) ?_
              refine E_aload_n rfl rfl ?_
              refine E_getfield (v := .ref 32) rfl w0 rfl (by decide) rfl ?_
              refine E_aload_n rfl rfl ?_
              refine E_getfield (v := .ref 1) rfl w0 rfl (by decide) rfl ?_
              refine E_iload_n rfl rfl ?_
              refine E_iload_n rfl rfl ?_
              have e2 : Ev ab_Z0 3 1 [.ref 32, .ref 1, .int (nI 0), .int (nI a1k)] (ww im lf s d k ls rf rz ra rn rq lt m1 m2 m3 m4 bd fc hd sz el s g fm hm so si sh ce ca td wa kp la bf oo bo pw ow tr) (some (.int (-1)), (ww im lf s d k (lsF (wgh s (qPs s 99 (qN s)) (qN s))) rf rz ra rn rq lt m1 m2 m3 m4 bd fc hd sz el s g fm hm so si sh ce ca td wa kp la bf oo bo pw ow tr)) := by
                refine Ef.in (md := mX0_bitsBy) (L := [some (.ref 32), some (.ref 1), some (.int (nI 0)), some (.int (nI a1k))]) rfl (Nat.le_of_ble_eq_true rfl) rfl ?_
                refine E_iload_n at_X0_bitsBy_0 rfl ?_
                refine E_iconst (x := nI 1) at_X0_bitsBy_1 (by decide) ?_
                refine E_ic (t := 11) (b := true) at_X0_bitsBy_2 rfl (by decide) ?_
                refine E_aload_n at_X0_bitsBy_11 rfl ?_
                refine E_aload_n at_X0_bitsBy_12 rfl ?_
                refine E_aload_n at_X0_bitsBy_13 rfl ?_
                refine E_callV (v := some (.int (nI (qPs s 99 (qN s))))) (As := [.ref 1]) (r0 := [.ref 1, .ref 32]) (cs2 := (ww im lf s d k ls rf rz ra rn rq lt m1 m2 m3 m4 bd fc hd sz el s g fm hm so si sh ce ca td wa kp la bf oo bo pw ow tr)) at_X0_bitsBy_14 rfl rfl (Nat.le_of_ble_eq_true rfl) rfl (ab_rvOf w1 rfl) (sq_basin w_q1 I) (by decide) rfl ?_
                refine E_callV (v := none) (As := [.ref 32, .ref 1, .int (nI (qPs s 99 (qN s)))]) (r0 := []) (cs2 := (ww im lf s d k (lsF (wgh s (qPs s 99 (qN s)) (qN s))) rf rz ra rn rq lt m1 m2 m3 m4 bd fc hd sz el s g fm hm so si sh ce ca td wa kp la bf oo bo pw ow tr)) at_X0_bitsBy_17 rfl rfl (Nat.le_of_ble_eq_true rfl) rfl (ab_rvOf w32 rfl) (w_weigh1 (m := qPs s 99 (qN s)) I (by omega) (lr.1)) (by decide) w_lens ?_
                refine E_aload_n at_X0_bitsBy_20 rfl ?_
                refine E_iload_n at_X0_bitsBy_21 rfl ?_
                have e1 : Ev ab_Z0 2 4 [.ref 32, .int (nI a1k)] (ww im lf s d k (lsF (wgh s (qPs s 99 (qN s)) (qN s))) rf rz ra rn rq lt m1 m2 m3 m4 bd fc hd sz el s g fm hm so si sh ce ca td wa kp la bf oo bo pw ow tr) (some (.int (-1)), (ww im lf s d k (lsF (wgh s (qPs s 99 (qN s)) (qN s))) rf rz ra rn rq lt m1 m2 m3 m4 bd fc hd sz el s g fm hm so si sh ce ca td wa kp la bf oo bo pw ow tr)) := by
                  refine Ef.in (md := mX0_fewestFor) (L := [some (.ref 32), some (.int (nI a1k))]) rfl (Nat.le_of_ble_eq_true rfl) rfl ?_
                  refine E_iload_n at_X0_fewestFor_0 rfl ?_
                  refine E_callS (v := some (.int (nI 1))) (As := [.int (nI a1k)]) (r0 := []) (cs2 := (ww im lf s d k (lsF (wgh s (qPs s 99 (qN s)) (qN s))) rf rz ra rn rq lt m1 m2 m3 m4 bd fc hd sz el s g fm hm so si sh ce ca td wa kp la bf oo bo pw ow tr)) at_X0_fewestFor_1 rfl rfl (Nat.le_of_ble_eq_true rfl) rfl (L97_X4_isAmount (by omega) (by omega) (by omega)) (by decide) rfl ?_
                  refine E_if (t := 17) (b := false) at_X0_fewestFor_4 rfl (by decide) ?_
                  refine E_aload_n at_X0_fewestFor_7 rfl ?_
                  refine E_getfield (v := .ref 33) at_X0_fewestFor_8 w32 rfl (by decide) rfl ?_
                  refine E_iload_n at_X0_fewestFor_11 rfl ?_
                  refine E_ialI (l := (lsF (wgh s (qPs s 99 (qN s)) (qN s)))) (v := (-1)) at_X0_fewestFor_12 w33 (by omega) (by omega) (by rw [lsF_get (by omega), eb0]; rfl) ?_
                  refine E_iconst (x := (-1)) at_X0_fewestFor_13 (by decide) ?_
                  refine E_ic (t := 19) (b := false) at_X0_fewestFor_14 rfl (by decide) ?_
                  refine E_iconst (x := (-1)) at_X0_fewestFor_17 (by decide) ?_
                  exact E_iret at_X0_fewestFor_18 rfl
                refine E_callV (v := some (.int (-1))) (As := [.ref 32, .int (nI a1k)]) (r0 := []) (cs2 := (ww im lf s d k (lsF (wgh s (qPs s 99 (qN s)) (qN s))) rf rz ra rn rq lt m1 m2 m3 m4 bd fc hd sz el s g fm hm so si sh ce ca td wa kp la bf oo bo pw ow tr)) at_X0_bitsBy_22 rfl rfl (Nat.le_of_ble_eq_true rfl) rfl (ab_rvOf w32 rfl) e1 (by decide) rfl ?_
                exact E_iret at_X0_bitsBy_25 rfl
              refine E_callV (v := some (.int (-1))) (As := [.ref 32, .ref 1, .int (nI 0), .int (nI a1k)]) (r0 := []) (cs2 := (ww im lf s d k (lsF (wgh s (qPs s 99 (qN s)) (qN s))) rf rz ra rn rq lt m1 m2 m3 m4 bd fc hd sz el s g fm hm so si sh ce ca td wa kp la bf oo bo pw ow tr)) rfl rfl rfl (Nat.le_of_ble_eq_true rfl) rfl (ab_rvOf w32 rfl) e2 (by decide) w_lens ?_
              exact E_iret rfl rfl
            · show Ev ab_Z0 4 173 [.ref 65, .int (nI a1k), .int (nI 0)] (ww im lf s d k (lsF (wgh s (qPs s 99 (qN s)) (qN s))) rf rz ra rn rq lt m1 m2 m3 m4 bd fc hd sz el s g fm hm so si sh ce ca td wa kp la bf oo bo pw ow tr) (some (.int (-1)), (ww im lf s d k (lsF (wgh s (qPs s 99 (qN s)) (qN s))) rf rz ra rn rq lt m1 m2 m3 m4 bd fc hd sz el s g fm hm so si sh ce ca td wa kp la (lsF (bst s (qPs s 99 (qN s)) (qN s) (2 ^ qN s))) oo bo pw ow tr))
              refine Ef.in (md := mX6_change) (L := [some (.ref 65), some (.int (nI a1k)), some (.int (nI 0))]) rfl (Nat.le_of_ble_eq_true rfl) rfl ?_
              refine E_iload_n at_X6_change_0 rfl ?_
              refine E_if (t := 9) (b := false) at_X6_change_1 rfl (by decide) ?_
              refine E_iload_n at_X6_change_4 rfl ?_
              refine E_iconst (x := nI 1) at_X6_change_5 (by decide) ?_
              refine E_ic (t := 16) (b := true) at_X6_change_6 rfl (by decide) ?_
              refine E_aload_n at_X6_change_16 rfl ?_
              refine E_iload_n at_X6_change_17 rfl ?_
              refine E_iconst (x := nI 0) at_X6_change_18 (by decide) ?_
              refine E_bipush (x := nI 99) at_X6_change_19 (by decide) ?_
              refine E_callV (v := some (.int (nI 1))) (As := [.ref 65, .int (nI a1k), .int (nI 0), .int (nI 99)]) (r0 := []) (cs2 := (ww im lf s d k (lsF (wgh s (qPs s 99 (qN s)) (qN s))) rf rz ra rn rq lt m1 m2 m3 m4 bd fc hd sz el s g fm hm so si sh ce ca td wa kp la bf oo bo pw ow tr)) at_X6_change_21 rfl rfl (Nat.le_of_ble_eq_true rfl) rfl (ab_rvOf w65 rfl) (L85_X6_isFrom (by omega) (by omega) (by omega)) (by decide) rfl ?_
              refine E_if (t := 34) (b := true) at_X6_change_24 rfl (by decide) ?_
              refine E_aload_n rfl rfl ?_
              refine E_aload_n rfl rfl ?_
              refine E_bipush (x := nI 99) rfl (by decide) ?_
              refine E_callV (v := some (.int (nI (qPs s 99 (qN s))))) (As := [.ref 65, .int (nI 99)]) (r0 := [.ref 65]) (cs2 := (ww im lf s d k (lsF (wgh s (qPs s 99 (qN s)) (qN s))) rf rz ra rn rq lt m1 m2 m3 m4 bd fc hd sz el s g fm hm so si sh ce ca td wa kp la bf oo bo pw ow tr)) rfl rfl rfl (Nat.le_of_ble_eq_true rfl) rfl (ab_rvOf w65 rfl) (mo_piecesOf w_m I (by omega)) (by decide) rfl ?_
              refine E_callV (v := none) (As := [.ref 65, .int (nI (qPs s 99 (qN s)))]) (r0 := []) (cs2 := (ww im lf s d k (lsF (wgh s (qPs s 99 (qN s)) (qN s))) rf rz ra rn rq lt m1 m2 m3 m4 bd fc hd sz el s g fm hm so si sh ce ca td wa kp la (lsF (bst s (qPs s 99 (qN s)) (qN s) (2 ^ qN s))) oo bo pw ow tr)) rfl rfl rfl (Nat.le_of_ble_eq_true rfl) rfl (ab_rvOf w65 rfl) (w_best (m := qPs s 99 (qN s)) I (by omega) (lr.2.2.2.2.2.2.2.2.2.2.2.2.2.2.2.1)) (by decide) w_lens ?_
              refine E_iload_n rfl rfl ?_
              refine E_if (t := 57) (b := false) rfl rfl (by decide) ?_
              refine E_aload_n rfl rfl ?_
              refine E_getfield (v := .ref 89) rfl w65 rfl (by decide) rfl ?_
              refine E_iload_n rfl rfl ?_
              refine E_ialI (l := (lsF (bst s (qPs s 99 (qN s)) (qN s) (2 ^ qN s)))) (v := (-1)) rfl w89 (by omega) (by omega) (by rw [lsF_get (by omega), fb0]; rfl) ?_
              refine E_goto (t := 62) rfl rfl ?_
              exact E_iret rfl rfl
            · exact ⟨I, rfl, hf, iQ, iM, iT, iS, l_el, (lsF_len _), (lr.2.1), (lr.2.2.1), (lr.2.2.2.1), (lr.2.2.2.2.1), (lr.2.2.2.2.2.1), (lr.2.2.2.2.2.2.1), (lr.2.2.2.2.2.2.2.1), (lr.2.2.2.2.2.2.2.2.1), (lr.2.2.2.2.2.2.2.2.2.1), (lr.2.2.2.2.2.2.2.2.2.2.1), (lr.2.2.2.2.2.2.2.2.2.2.2.1), (lr.2.2.2.2.2.2.2.2.2.2.2.2.1), (lr.2.2.2.2.2.2.2.2.2.2.2.2.2.1), (lr.2.2.2.2.2.2.2.2.2.2.2.2.2.2.1), (lsF_len _), (lr.2.2.2.2.2.2.2.2.2.2.2.2.2.2.2.2.1), (lr.2.2.2.2.2.2.2.2.2.2.2.2.2.2.2.2.2.1), (lr.2.2.2.2.2.2.2.2.2.2.2.2.2.2.2.2.2.2.1), (lr.2.2.2.2.2.2.2.2.2.2.2.2.2.2.2.2.2.2.2.1), (lr.2.2.2.2.2.2.2.2.2.2.2.2.2.2.2.2.2.2.2.2)⟩
          · have := qPs_in s 99 (i := qN s) (by omega)
            have := lsF_len (wgh s (qPs s 99 (qN s)) (qN s))
            have w9 : 2 ^ qN s ≤ 2 ^ 9 := Nat.pow_le_pow_right (by decide) (by omega)
            have kb0 := kAt_bits I hB0
            have := lsF_len (bst s (qPs s 99 (qN s)) (qN s) (2 ^ qN s))
            refine ⟨(nI B0), (im, lf, s, d, k, (lsF (wgh s (qPs s 99 (qN s)) (qN s))), rf, rz, ra, rn, rq, lt, m1, m2, m3, m4, bd, fc, hd, sz, el, s, g, fm, hm, so, si, sh, ce, ca, td, wa, kp, la, bf, oo, bo, pw, ow, tr), (im, lf, s, d, k, (lsF (wgh s (qPs s 99 (qN s)) (qN s))), rf, rz, ra, rn, rq, lt, m1, m2, m3, m4, bd, fc, hd, sz, el, s, g, fm, hm, so, si, sh, ce, ca, td, wa, kp, la, (lsF (bst s (qPs s 99 (qN s)) (qN s) (2 ^ qN s))), oo, bo, pw, ow, tr), ?_, ?_, ?_⟩
            · show Ev ab_Z0 5 93 [.ref 0, .int (nI a1k), .int (nI 0)] (ww im lf s d k ls rf rz ra rn rq lt m1 m2 m3 m4 bd fc hd sz el s g fm hm so si sh ce ca td wa kp la bf oo bo pw ow tr) (some (.int (nI B0)), (ww im lf s d k (lsF (wgh s (qPs s 99 (qN s)) (qN s))) rf rz ra rn rq lt m1 m2 m3 m4 bd fc hd sz el s g fm hm so si sh ce ca td wa kp la bf oo bo pw ow tr))
              refine Ef.in (md := mX5_change) (L := [some (.ref 0), some (.int (nI a1k)), some (.int (nI 0))]) rfl (Nat.le_of_ble_eq_true rfl) rfl ?_
              refine E_iload_n at_X5_change_0 rfl ?_
              refine E_callS (v := some (.int (nI 1))) (As := [.int (nI 0)]) (r0 := []) (cs2 := (ww im lf s d k ls rf rz ra rn rq lt m1 m2 m3 m4 bd fc hd sz el s g fm hm so si sh ce ca td wa kp la bf oo bo pw ow tr)) at_X5_change_1 rfl rfl (Nat.le_of_ble_eq_true rfl) rfl (L96_X5_isOneOfTwo) (by decide) rfl ?_
              refine E_if (t := 16) (b := true) at_X5_change_4 rfl (by decide) ?_
              refine E_iload_n at_X5_change_16 rfl ?_
              refine E_callS (v := some (.int (nI 1))) (As := [.int (nI a1k)]) (r0 := []) (cs2 := (ww im lf s d k ls rf rz ra rn rq lt m1 m2 m3 m4 bd fc hd sz el s g fm hm so si sh ce ca td wa kp la bf oo bo pw ow tr)) at_X5_change_17 rfl rfl (Nat.le_of_ble_eq_true rfl) rfl (L97_X4_isAmount (by omega) (by omega) (by omega)) (by decide) rfl ?_
              refine E_if (t := 33) (b := true) at_X5_change_20 rfl (by decide) ?_
              refine E_aload_n rfl rfl ?_
              refine E_getfield (v := .ref 32) rfl w0 rfl (by decide) rfl ?_
              refine E_aload_n rfl rfl ?_
              refine E_getfield (v := .ref 1) rfl w0 rfl (by decide) rfl ?_
              refine E_iload_n rfl rfl ?_
              refine E_iload_n rfl rfl ?_
              have e2 : Ev ab_Z0 3 1 [.ref 32, .ref 1, .int (nI 0), .int (nI a1k)] (ww im lf s d k ls rf rz ra rn rq lt m1 m2 m3 m4 bd fc hd sz el s g fm hm so si sh ce ca td wa kp la bf oo bo pw ow tr) (some (.int (nI B0)), (ww im lf s d k (lsF (wgh s (qPs s 99 (qN s)) (qN s))) rf rz ra rn rq lt m1 m2 m3 m4 bd fc hd sz el s g fm hm so si sh ce ca td wa kp la bf oo bo pw ow tr)) := by
                refine Ef.in (md := mX0_bitsBy) (L := [some (.ref 32), some (.ref 1), some (.int (nI 0)), some (.int (nI a1k))]) rfl (Nat.le_of_ble_eq_true rfl) rfl ?_
                refine E_iload_n at_X0_bitsBy_0 rfl ?_
                refine E_iconst (x := nI 1) at_X0_bitsBy_1 (by decide) ?_
                refine E_ic (t := 11) (b := true) at_X0_bitsBy_2 rfl (by decide) ?_
                refine E_aload_n at_X0_bitsBy_11 rfl ?_
                refine E_aload_n at_X0_bitsBy_12 rfl ?_
                refine E_aload_n at_X0_bitsBy_13 rfl ?_
                refine E_callV (v := some (.int (nI (qPs s 99 (qN s))))) (As := [.ref 1]) (r0 := [.ref 1, .ref 32]) (cs2 := (ww im lf s d k ls rf rz ra rn rq lt m1 m2 m3 m4 bd fc hd sz el s g fm hm so si sh ce ca td wa kp la bf oo bo pw ow tr)) at_X0_bitsBy_14 rfl rfl (Nat.le_of_ble_eq_true rfl) rfl (ab_rvOf w1 rfl) (sq_basin w_q1 I) (by decide) rfl ?_
                refine E_callV (v := none) (As := [.ref 32, .ref 1, .int (nI (qPs s 99 (qN s)))]) (r0 := []) (cs2 := (ww im lf s d k (lsF (wgh s (qPs s 99 (qN s)) (qN s))) rf rz ra rn rq lt m1 m2 m3 m4 bd fc hd sz el s g fm hm so si sh ce ca td wa kp la bf oo bo pw ow tr)) at_X0_bitsBy_17 rfl rfl (Nat.le_of_ble_eq_true rfl) rfl (ab_rvOf w32 rfl) (w_weigh1 (m := qPs s 99 (qN s)) I (by omega) (lr.1)) (by decide) w_lens ?_
                refine E_aload_n at_X0_bitsBy_20 rfl ?_
                refine E_iload_n at_X0_bitsBy_21 rfl ?_
                have e1 : Ev ab_Z0 2 4 [.ref 32, .int (nI a1k)] (ww im lf s d k (lsF (wgh s (qPs s 99 (qN s)) (qN s))) rf rz ra rn rq lt m1 m2 m3 m4 bd fc hd sz el s g fm hm so si sh ce ca td wa kp la bf oo bo pw ow tr) (some (.int (nI B0)), (ww im lf s d k (lsF (wgh s (qPs s 99 (qN s)) (qN s))) rf rz ra rn rq lt m1 m2 m3 m4 bd fc hd sz el s g fm hm so si sh ce ca td wa kp la bf oo bo pw ow tr)) := by
                  refine Ef.in (md := mX0_fewestFor) (L := [some (.ref 32), some (.int (nI a1k))]) rfl (Nat.le_of_ble_eq_true rfl) rfl ?_
                  refine E_iload_n at_X0_fewestFor_0 rfl ?_
                  refine E_callS (v := some (.int (nI 1))) (As := [.int (nI a1k)]) (r0 := []) (cs2 := (ww im lf s d k (lsF (wgh s (qPs s 99 (qN s)) (qN s))) rf rz ra rn rq lt m1 m2 m3 m4 bd fc hd sz el s g fm hm so si sh ce ca td wa kp la bf oo bo pw ow tr)) at_X0_fewestFor_1 rfl rfl (Nat.le_of_ble_eq_true rfl) rfl (L97_X4_isAmount (by omega) (by omega) (by omega)) (by decide) rfl ?_
                  refine E_if (t := 17) (b := false) at_X0_fewestFor_4 rfl (by decide) ?_
                  refine E_aload_n at_X0_fewestFor_7 rfl ?_
                  refine E_getfield (v := .ref 33) at_X0_fewestFor_8 w32 rfl (by decide) rfl ?_
                  refine E_iload_n at_X0_fewestFor_11 rfl ?_
                  refine E_ialI (l := (lsF (wgh s (qPs s 99 (qN s)) (qN s)))) (v := nI (kAt s B0 (qN s))) at_X0_fewestFor_12 w33 (by omega) (by omega) (by rw [lsF_get (by omega), hk0]; exact qE_s _) ?_
                  refine E_iconst (x := (-1)) at_X0_fewestFor_13 (by decide) ?_
                  refine E_ic (t := 19) (b := true) at_X0_fewestFor_14 rfl ((cn_ne (nI_toInt (by omega)) (by decide : (-1 : Int32).toInt = -1)).trans (decide_eq_true (by omega))) ?_
                  refine E_aload_n at_X0_fewestFor_19 rfl ?_
                  refine E_getfield (v := .ref 33) at_X0_fewestFor_20 w32 rfl (by decide) rfl ?_
                  refine E_iload_n at_X0_fewestFor_23 rfl ?_
                  refine E_ialI (l := (lsF (wgh s (qPs s 99 (qN s)) (qN s)))) (v := nI (kAt s B0 (qN s))) at_X0_fewestFor_24 w33 (by omega) (by omega) (by rw [lsF_get (by omega), hk0]; exact qE_s _) ?_
                  refine E_sipush (x := nI 1023) at_X0_fewestFor_25 (by decide) ?_
                  refine E_iand (z := nI B0) at_X0_fewestFor_28 (kAt_and I hB0) ?_
                  exact E_iret at_X0_fewestFor_29 rfl
                refine E_callV (v := some (.int (nI B0))) (As := [.ref 32, .int (nI a1k)]) (r0 := []) (cs2 := (ww im lf s d k (lsF (wgh s (qPs s 99 (qN s)) (qN s))) rf rz ra rn rq lt m1 m2 m3 m4 bd fc hd sz el s g fm hm so si sh ce ca td wa kp la bf oo bo pw ow tr)) at_X0_bitsBy_22 rfl rfl (Nat.le_of_ble_eq_true rfl) rfl (ab_rvOf w32 rfl) e1 (by decide) rfl ?_
                exact E_iret at_X0_bitsBy_25 rfl
              refine E_callV (v := some (.int (nI B0))) (As := [.ref 32, .ref 1, .int (nI 0), .int (nI a1k)]) (r0 := []) (cs2 := (ww im lf s d k (lsF (wgh s (qPs s 99 (qN s)) (qN s))) rf rz ra rn rq lt m1 m2 m3 m4 bd fc hd sz el s g fm hm so si sh ce ca td wa kp la bf oo bo pw ow tr)) rfl rfl rfl (Nat.le_of_ble_eq_true rfl) rfl (ab_rvOf w32 rfl) e2 (by decide) w_lens ?_
              exact E_iret rfl rfl
            · show Ev ab_Z0 4 173 [.ref 65, .int (nI a1k), .int (nI 0)] (ww im lf s d k (lsF (wgh s (qPs s 99 (qN s)) (qN s))) rf rz ra rn rq lt m1 m2 m3 m4 bd fc hd sz el s g fm hm so si sh ce ca td wa kp la bf oo bo pw ow tr) (some (.int (nI B0)), (ww im lf s d k (lsF (wgh s (qPs s 99 (qN s)) (qN s))) rf rz ra rn rq lt m1 m2 m3 m4 bd fc hd sz el s g fm hm so si sh ce ca td wa kp la (lsF (bst s (qPs s 99 (qN s)) (qN s) (2 ^ qN s))) oo bo pw ow tr))
              refine Ef.in (md := mX6_change) (L := [some (.ref 65), some (.int (nI a1k)), some (.int (nI 0))]) rfl (Nat.le_of_ble_eq_true rfl) rfl ?_
              refine E_iload_n at_X6_change_0 rfl ?_
              refine E_if (t := 9) (b := false) at_X6_change_1 rfl (by decide) ?_
              refine E_iload_n at_X6_change_4 rfl ?_
              refine E_iconst (x := nI 1) at_X6_change_5 (by decide) ?_
              refine E_ic (t := 16) (b := true) at_X6_change_6 rfl (by decide) ?_
              refine E_aload_n at_X6_change_16 rfl ?_
              refine E_iload_n at_X6_change_17 rfl ?_
              refine E_iconst (x := nI 0) at_X6_change_18 (by decide) ?_
              refine E_bipush (x := nI 99) at_X6_change_19 (by decide) ?_
              refine E_callV (v := some (.int (nI 1))) (As := [.ref 65, .int (nI a1k), .int (nI 0), .int (nI 99)]) (r0 := []) (cs2 := (ww im lf s d k (lsF (wgh s (qPs s 99 (qN s)) (qN s))) rf rz ra rn rq lt m1 m2 m3 m4 bd fc hd sz el s g fm hm so si sh ce ca td wa kp la bf oo bo pw ow tr)) at_X6_change_21 rfl rfl (Nat.le_of_ble_eq_true rfl) rfl (ab_rvOf w65 rfl) (L85_X6_isFrom (by omega) (by omega) (by omega)) (by decide) rfl ?_
              refine E_if (t := 34) (b := true) at_X6_change_24 rfl (by decide) ?_
              refine E_aload_n rfl rfl ?_
              refine E_aload_n rfl rfl ?_
              refine E_bipush (x := nI 99) rfl (by decide) ?_
              refine E_callV (v := some (.int (nI (qPs s 99 (qN s))))) (As := [.ref 65, .int (nI 99)]) (r0 := [.ref 65]) (cs2 := (ww im lf s d k (lsF (wgh s (qPs s 99 (qN s)) (qN s))) rf rz ra rn rq lt m1 m2 m3 m4 bd fc hd sz el s g fm hm so si sh ce ca td wa kp la bf oo bo pw ow tr)) rfl rfl rfl (Nat.le_of_ble_eq_true rfl) rfl (ab_rvOf w65 rfl) (mo_piecesOf w_m I (by omega)) (by decide) rfl ?_
              refine E_callV (v := none) (As := [.ref 65, .int (nI (qPs s 99 (qN s)))]) (r0 := []) (cs2 := (ww im lf s d k (lsF (wgh s (qPs s 99 (qN s)) (qN s))) rf rz ra rn rq lt m1 m2 m3 m4 bd fc hd sz el s g fm hm so si sh ce ca td wa kp la (lsF (bst s (qPs s 99 (qN s)) (qN s) (2 ^ qN s))) oo bo pw ow tr)) rfl rfl rfl (Nat.le_of_ble_eq_true rfl) rfl (ab_rvOf w65 rfl) (w_best (m := qPs s 99 (qN s)) I (by omega) (lr.2.2.2.2.2.2.2.2.2.2.2.2.2.2.2.1)) (by decide) w_lens ?_
              refine E_iload_n rfl rfl ?_
              refine E_if (t := 57) (b := false) rfl rfl (by decide) ?_
              refine E_aload_n rfl rfl ?_
              refine E_getfield (v := .ref 89) rfl w65 rfl (by decide) rfl ?_
              refine E_iload_n rfl rfl ?_
              refine E_ialI (l := (lsF (bst s (qPs s 99 (qN s)) (qN s) (2 ^ qN s)))) (v := nI B0) rfl w89 (by omega) (by omega) (by rw [lsF_get (by omega), hb0]; rfl) ?_
              refine E_goto (t := 62) rfl rfl ?_
              exact E_iret rfl rfl
            · exact ⟨I, rfl, hf, iQ, iM, iT, iS, l_el, (lsF_len _), (lr.2.1), (lr.2.2.1), (lr.2.2.2.1), (lr.2.2.2.2.1), (lr.2.2.2.2.2.1), (lr.2.2.2.2.2.2.1), (lr.2.2.2.2.2.2.2.1), (lr.2.2.2.2.2.2.2.2.1), (lr.2.2.2.2.2.2.2.2.2.1), (lr.2.2.2.2.2.2.2.2.2.2.1), (lr.2.2.2.2.2.2.2.2.2.2.2.1), (lr.2.2.2.2.2.2.2.2.2.2.2.2.1), (lr.2.2.2.2.2.2.2.2.2.2.2.2.2.1), (lr.2.2.2.2.2.2.2.2.2.2.2.2.2.2.1), (lsF_len _), (lr.2.2.2.2.2.2.2.2.2.2.2.2.2.2.2.2.1), (lr.2.2.2.2.2.2.2.2.2.2.2.2.2.2.2.2.2.1), (lr.2.2.2.2.2.2.2.2.2.2.2.2.2.2.2.2.2.2.1), (lr.2.2.2.2.2.2.2.2.2.2.2.2.2.2.2.2.2.2.2.1), (lr.2.2.2.2.2.2.2.2.2.2.2.2.2.2.2.2.2.2.2.2)⟩
        · refine ⟨(-16), (im, lf, s, d, k, ls, rf, rz, ra, rn, rq, lt, m1, m2, m3, m4, bd, (fc.set 6 ((fc.getD 6 0) + (nI 1))), hd, sz, el, s, g, fm, hm, so, si, sh, ce, ca, td, wa, kp, la, bf, oo, bo, pw, ow, tr), (im, lf, s, d, k, ls, rf, rz, ra, rn, rq, lt, m1, m2, m3, m4, bd, (fc.set 6 ((fc.getD 6 0) + (nI 1))), hd, sz, el, s, g, (fm.set 6 ((fm.getD 6 0) + (nI 1))), hm, so, si, sh, ce, ca, td, wa, kp, la, bf, oo, bo, pw, ow, tr), ?_, ?_, ?_⟩
          · show Ev ab_Z0 5 93 [.ref 0, .int (nI a1k), .int (nI 0)] (ww im lf s d k ls rf rz ra rn rq lt m1 m2 m3 m4 bd fc hd sz el s g fm hm so si sh ce ca td wa kp la bf oo bo pw ow tr) (some (.int (-16)), (ww im lf s d k ls rf rz ra rn rq lt m1 m2 m3 m4 bd (fc.set 6 ((fc.getD 6 0) + (nI 1))) hd sz el s g fm hm so si sh ce ca td wa kp la bf oo bo pw ow tr))
            refine Ef.in (md := mX5_change) (L := [some (.ref 0), some (.int (nI a1k)), some (.int (nI 0))]) rfl (Nat.le_of_ble_eq_true rfl) rfl ?_
            refine E_iload_n at_X5_change_0 rfl ?_
            refine E_callS (v := some (.int (nI 1))) (As := [.int (nI 0)]) (r0 := []) (cs2 := (ww im lf s d k ls rf rz ra rn rq lt m1 m2 m3 m4 bd fc hd sz el s g fm hm so si sh ce ca td wa kp la bf oo bo pw ow tr)) at_X5_change_1 rfl rfl (Nat.le_of_ble_eq_true rfl) rfl (L96_X5_isOneOfTwo) (by decide) rfl ?_
            refine E_if (t := 16) (b := true) at_X5_change_4 rfl (by decide) ?_
            refine E_iload_n at_X5_change_16 rfl ?_
            refine E_callS (v := some (.int (nI 0))) (As := [.int (nI a1k)]) (r0 := []) (cs2 := (ww im lf s d k ls rf rz ra rn rq lt m1 m2 m3 m4 bd fc hd sz el s g fm hm so si sh ce ca td wa kp la bf oo bo pw ow tr)) at_X5_change_17 rfl rfl (Nat.le_of_ble_eq_true rfl) rfl (L98_X4_isAmount (by omega) (by omega) (by omega)) (by decide) rfl ?_
            refine E_if (t := 33) (b := false) at_X5_change_20 rfl (by decide) ?_
            refine E_aload_n at_X5_change_23 rfl ?_
            refine E_bipush (x := nI 6) at_X5_change_24 (by decide) ?_
            refine E_callV (v := some (.int (-6))) (As := [.ref 0, .int (nI 6)]) (r0 := []) (cs2 := (ww im lf s d k ls rf rz ra rn rq lt m1 m2 m3 m4 bd (fc.set 6 ((fc.getD 6 0) + (nI 1))) hd sz el s g fm hm so si sh ce ca td wa kp la bf oo bo pw ow tr)) at_X5_change_26 rfl rfl (Nat.le_of_ble_eq_true rfl) rfl (ab_rvOf w0 rfl) (L26_X5_refuse (by omega)) (by decide) w_lens ?_
            refine E_bipush (x := nI 10) at_X5_change_29 (by decide) ?_
            refine E_isub (z := (-16)) at_X5_change_31 (by decide) ?_
            exact E_iret at_X5_change_32 rfl
          · show Ev ab_Z0 4 173 [.ref 65, .int (nI a1k), .int (nI 0)] (ww im lf s d k ls rf rz ra rn rq lt m1 m2 m3 m4 bd (fc.set 6 ((fc.getD 6 0) + (nI 1))) hd sz el s g fm hm so si sh ce ca td wa kp la bf oo bo pw ow tr) (some (.int (-16)), (ww im lf s d k ls rf rz ra rn rq lt m1 m2 m3 m4 bd (fc.set 6 ((fc.getD 6 0) + (nI 1))) hd sz el s g (fm.set 6 ((fm.getD 6 0) + (nI 1))) hm so si sh ce ca td wa kp la bf oo bo pw ow tr))
            refine Ef.in (md := mX6_change) (L := [some (.ref 65), some (.int (nI a1k)), some (.int (nI 0))]) rfl (Nat.le_of_ble_eq_true rfl) rfl ?_
            refine E_iload_n at_X6_change_0 rfl ?_
            refine E_if (t := 9) (b := false) at_X6_change_1 rfl (by decide) ?_
            refine E_iload_n at_X6_change_4 rfl ?_
            refine E_iconst (x := nI 1) at_X6_change_5 (by decide) ?_
            refine E_ic (t := 16) (b := true) at_X6_change_6 rfl (by decide) ?_
            refine E_aload_n at_X6_change_16 rfl ?_
            refine E_iload_n at_X6_change_17 rfl ?_
            refine E_iconst (x := nI 0) at_X6_change_18 (by decide) ?_
            refine E_bipush (x := nI 99) at_X6_change_19 (by decide) ?_
            refine E_callV (v := some (.int (nI 0))) (As := [.ref 65, .int (nI a1k), .int (nI 0), .int (nI 99)]) (r0 := []) (cs2 := (ww im lf s d k ls rf rz ra rn rq lt m1 m2 m3 m4 bd (fc.set 6 ((fc.getD 6 0) + (nI 1))) hd sz el s g fm hm so si sh ce ca td wa kp la bf oo bo pw ow tr)) at_X6_change_21 rfl rfl (Nat.le_of_ble_eq_true rfl) rfl (ab_rvOf w65 rfl) (L83_X6_isFrom (by omega) (by omega) (by omega)) (by decide) rfl ?_
            refine E_if (t := 34) (b := false) at_X6_change_24 rfl (by decide) ?_
            refine E_aload_n at_X6_change_27 rfl ?_
            refine E_bipush (x := (-6)) at_X6_change_28 (by decide) ?_
            refine E_callV (v := some (.int (-16))) (As := [.ref 65, .int (-6)]) (r0 := []) (cs2 := (ww im lf s d k ls rf rz ra rn rq lt m1 m2 m3 m4 bd (fc.set 6 ((fc.getD 6 0) + (nI 1))) hd sz el s g (fm.set 6 ((fm.getD 6 0) + (nI 1))) hm so si sh ce ca td wa kp la bf oo bo pw ow tr)) at_X6_change_30 rfl rfl (Nat.le_of_ble_eq_true rfl) rfl (ab_rvOf w65 rfl) (L99_X6_noTen (by omega)) (by decide) w_lens ?_
            exact E_iret at_X6_change_33 rfl
          · exact ⟨I, rfl, hf, iQ, iM, iT, iS, l_el, (lr.1), (lr.2.1), (lr.2.2.1), (by simp only [List.length_set]; exact (lr.2.2.2.1)), (by simp only [List.length_set]; exact (lr.2.2.2.2.1)), (lr.2.2.2.2.2.1), (lr.2.2.2.2.2.2.1), (lr.2.2.2.2.2.2.2.1), (lr.2.2.2.2.2.2.2.2.1), (lr.2.2.2.2.2.2.2.2.2.1), (lr.2.2.2.2.2.2.2.2.2.2.1), (lr.2.2.2.2.2.2.2.2.2.2.2.1), (lr.2.2.2.2.2.2.2.2.2.2.2.2.1), (lr.2.2.2.2.2.2.2.2.2.2.2.2.2.1), (lr.2.2.2.2.2.2.2.2.2.2.2.2.2.2.1), (lr.2.2.2.2.2.2.2.2.2.2.2.2.2.2.2.1), (lr.2.2.2.2.2.2.2.2.2.2.2.2.2.2.2.2.1), (lr.2.2.2.2.2.2.2.2.2.2.2.2.2.2.2.2.2.1), (lr.2.2.2.2.2.2.2.2.2.2.2.2.2.2.2.2.2.2.1), (lr.2.2.2.2.2.2.2.2.2.2.2.2.2.2.2.2.2.2.2.1), (lr.2.2.2.2.2.2.2.2.2.2.2.2.2.2.2.2.2.2.2.2)⟩
      · refine ⟨(-16), (im, lf, s, d, k, ls, rf, rz, ra, rn, rq, lt, m1, m2, m3, m4, bd, (fc.set 6 ((fc.getD 6 0) + (nI 1))), hd, sz, el, s, g, fm, hm, so, si, sh, ce, ca, td, wa, kp, la, bf, oo, bo, pw, ow, tr), (im, lf, s, d, k, ls, rf, rz, ra, rn, rq, lt, m1, m2, m3, m4, bd, (fc.set 6 ((fc.getD 6 0) + (nI 1))), hd, sz, el, s, g, (fm.set 6 ((fm.getD 6 0) + (nI 1))), hm, so, si, sh, ce, ca, td, wa, kp, la, bf, oo, bo, pw, ow, tr), ?_, ?_, ?_⟩
        · show Ev ab_Z0 5 93 [.ref 0, .int a1, .int (nI 0)] (ww im lf s d k ls rf rz ra rn rq lt m1 m2 m3 m4 bd fc hd sz el s g fm hm so si sh ce ca td wa kp la bf oo bo pw ow tr) (some (.int (-16)), (ww im lf s d k ls rf rz ra rn rq lt m1 m2 m3 m4 bd (fc.set 6 ((fc.getD 6 0) + (nI 1))) hd sz el s g fm hm so si sh ce ca td wa kp la bf oo bo pw ow tr))
          refine Ef.in (md := mX5_change) (L := [some (.ref 0), some (.int a1), some (.int (nI 0))]) rfl (Nat.le_of_ble_eq_true rfl) rfl ?_
          refine E_iload_n at_X5_change_0 rfl ?_
          refine E_callS (v := some (.int (nI 1))) (As := [.int (nI 0)]) (r0 := []) (cs2 := (ww im lf s d k ls rf rz ra rn rq lt m1 m2 m3 m4 bd fc hd sz el s g fm hm so si sh ce ca td wa kp la bf oo bo pw ow tr)) at_X5_change_1 rfl rfl (Nat.le_of_ble_eq_true rfl) rfl (L96_X5_isOneOfTwo) (by decide) rfl ?_
          refine E_if (t := 16) (b := true) at_X5_change_4 rfl (by decide) ?_
          refine E_iload_n at_X5_change_16 rfl ?_
          refine E_callS (v := some (.int (nI 0))) (As := [.int a1]) (r0 := []) (cs2 := (ww im lf s d k ls rf rz ra rn rq lt m1 m2 m3 m4 bd fc hd sz el s g fm hm so si sh ce ca td wa kp la bf oo bo pw ow tr)) at_X5_change_17 rfl rfl (Nat.le_of_ble_eq_true rfl) rfl (L100_X4_isAmount (by omega) (by omega)) (by decide) rfl ?_
          refine E_if (t := 33) (b := false) at_X5_change_20 rfl (by decide) ?_
          refine E_aload_n at_X5_change_23 rfl ?_
          refine E_bipush (x := nI 6) at_X5_change_24 (by decide) ?_
          refine E_callV (v := some (.int (-6))) (As := [.ref 0, .int (nI 6)]) (r0 := []) (cs2 := (ww im lf s d k ls rf rz ra rn rq lt m1 m2 m3 m4 bd (fc.set 6 ((fc.getD 6 0) + (nI 1))) hd sz el s g fm hm so si sh ce ca td wa kp la bf oo bo pw ow tr)) at_X5_change_26 rfl rfl (Nat.le_of_ble_eq_true rfl) rfl (ab_rvOf w0 rfl) (L26_X5_refuse (by omega)) (by decide) w_lens ?_
          refine E_bipush (x := nI 10) at_X5_change_29 (by decide) ?_
          refine E_isub (z := (-16)) at_X5_change_31 (by decide) ?_
          exact E_iret at_X5_change_32 rfl
        · show Ev ab_Z0 4 173 [.ref 65, .int a1, .int (nI 0)] (ww im lf s d k ls rf rz ra rn rq lt m1 m2 m3 m4 bd (fc.set 6 ((fc.getD 6 0) + (nI 1))) hd sz el s g fm hm so si sh ce ca td wa kp la bf oo bo pw ow tr) (some (.int (-16)), (ww im lf s d k ls rf rz ra rn rq lt m1 m2 m3 m4 bd (fc.set 6 ((fc.getD 6 0) + (nI 1))) hd sz el s g (fm.set 6 ((fm.getD 6 0) + (nI 1))) hm so si sh ce ca td wa kp la bf oo bo pw ow tr))
          refine Ef.in (md := mX6_change) (L := [some (.ref 65), some (.int a1), some (.int (nI 0))]) rfl (Nat.le_of_ble_eq_true rfl) rfl ?_
          refine E_iload_n at_X6_change_0 rfl ?_
          refine E_if (t := 9) (b := false) at_X6_change_1 rfl (by decide) ?_
          refine E_iload_n at_X6_change_4 rfl ?_
          refine E_iconst (x := nI 1) at_X6_change_5 (by decide) ?_
          refine E_ic (t := 16) (b := true) at_X6_change_6 rfl (by decide) ?_
          refine E_aload_n at_X6_change_16 rfl ?_
          refine E_iload_n at_X6_change_17 rfl ?_
          refine E_iconst (x := nI 0) at_X6_change_18 (by decide) ?_
          refine E_bipush (x := nI 99) at_X6_change_19 (by decide) ?_
          refine E_callV (v := some (.int (nI 0))) (As := [.ref 65, .int a1, .int (nI 0), .int (nI 99)]) (r0 := []) (cs2 := (ww im lf s d k ls rf rz ra rn rq lt m1 m2 m3 m4 bd (fc.set 6 ((fc.getD 6 0) + (nI 1))) hd sz el s g fm hm so si sh ce ca td wa kp la bf oo bo pw ow tr)) at_X6_change_21 rfl rfl (Nat.le_of_ble_eq_true rfl) rfl (ab_rvOf w65 rfl) (L89_X6_isFrom (by omega) (by omega)) (by decide) rfl ?_
          refine E_if (t := 34) (b := false) at_X6_change_24 rfl (by decide) ?_
          refine E_aload_n at_X6_change_27 rfl ?_
          refine E_bipush (x := (-6)) at_X6_change_28 (by decide) ?_
          refine E_callV (v := some (.int (-16))) (As := [.ref 65, .int (-6)]) (r0 := []) (cs2 := (ww im lf s d k ls rf rz ra rn rq lt m1 m2 m3 m4 bd (fc.set 6 ((fc.getD 6 0) + (nI 1))) hd sz el s g (fm.set 6 ((fm.getD 6 0) + (nI 1))) hm so si sh ce ca td wa kp la bf oo bo pw ow tr)) at_X6_change_30 rfl rfl (Nat.le_of_ble_eq_true rfl) rfl (ab_rvOf w65 rfl) (L99_X6_noTen (by omega)) (by decide) w_lens ?_
          exact E_iret at_X6_change_33 rfl
        · exact ⟨I, rfl, hf, iQ, iM, iT, iS, l_el, (lr.1), (lr.2.1), (lr.2.2.1), (by simp only [List.length_set]; exact (lr.2.2.2.1)), (by simp only [List.length_set]; exact (lr.2.2.2.2.1)), (lr.2.2.2.2.2.1), (lr.2.2.2.2.2.2.1), (lr.2.2.2.2.2.2.2.1), (lr.2.2.2.2.2.2.2.2.1), (lr.2.2.2.2.2.2.2.2.2.1), (lr.2.2.2.2.2.2.2.2.2.2.1), (lr.2.2.2.2.2.2.2.2.2.2.2.1), (lr.2.2.2.2.2.2.2.2.2.2.2.2.1), (lr.2.2.2.2.2.2.2.2.2.2.2.2.2.1), (lr.2.2.2.2.2.2.2.2.2.2.2.2.2.2.1), (lr.2.2.2.2.2.2.2.2.2.2.2.2.2.2.2.1), (lr.2.2.2.2.2.2.2.2.2.2.2.2.2.2.2.2.1), (lr.2.2.2.2.2.2.2.2.2.2.2.2.2.2.2.2.2.1), (lr.2.2.2.2.2.2.2.2.2.2.2.2.2.2.2.2.2.2.1), (lr.2.2.2.2.2.2.2.2.2.2.2.2.2.2.2.2.2.2.2.1), (lr.2.2.2.2.2.2.2.2.2.2.2.2.2.2.2.2.2.2.2.2)⟩
    · by_cases f2 : a2k = 1
      · subst f2
        rcases ab_int a1 with ⟨a1k, f3, rfl⟩ | f3
        · by_cases f4 : a1k < 100
          · have := qPs_in s 99 (i := qN s) (by omega)
            refine ⟨(qE (qGreedy s a1k)), (im, lf, s, d, k, ls, rf, rz, ra, rn, rq, lt, m1, m2, m3, m4, bd, fc, hd, sz, el, s, g, fm, hm, so, si, sh, ce, ca, td, wa, kp, la, bf, oo, bo, pw, ow, tr), (im, lf, s, d, k, ls, rf, rz, ra, rn, rq, lt, m1, m2, m3, m4, bd, fc, hd, sz, el, s, g, fm, hm, so, si, sh, ce, ca, td, wa, kp, la, (lsF (bst s (qPs s 99 (qN s)) (qN s) (2 ^ qN s))), oo, bo, pw, ow, tr), ?_, ?_, ?_⟩
            · show Ev ab_Z0 5 93 [.ref 0, .int (nI a1k), .int (nI 1)] (ww im lf s d k ls rf rz ra rn rq lt m1 m2 m3 m4 bd fc hd sz el s g fm hm so si sh ce ca td wa kp la bf oo bo pw ow tr) (some (.int (qE (qGreedy s a1k))), (ww im lf s d k ls rf rz ra rn rq lt m1 m2 m3 m4 bd fc hd sz el s g fm hm so si sh ce ca td wa kp la bf oo bo pw ow tr))
              refine Ef.in (md := mX5_change) (L := [some (.ref 0), some (.int (nI a1k)), some (.int (nI 1))]) rfl (Nat.le_of_ble_eq_true rfl) rfl ?_
              refine E_iload_n at_X5_change_0 rfl ?_
              refine E_callS (v := some (.int (nI 1))) (As := [.int (nI 1)]) (r0 := []) (cs2 := (ww im lf s d k ls rf rz ra rn rq lt m1 m2 m3 m4 bd fc hd sz el s g fm hm so si sh ce ca td wa kp la bf oo bo pw ow tr)) at_X5_change_1 rfl rfl (Nat.le_of_ble_eq_true rfl) rfl (L101_X5_isOneOfTwo) (by decide) rfl ?_
              refine E_if (t := 16) (b := true) at_X5_change_4 rfl (by decide) ?_
              refine E_iload_n at_X5_change_16 rfl ?_
              refine E_callS (v := some (.int (nI 1))) (As := [.int (nI a1k)]) (r0 := []) (cs2 := (ww im lf s d k ls rf rz ra rn rq lt m1 m2 m3 m4 bd fc hd sz el s g fm hm so si sh ce ca td wa kp la bf oo bo pw ow tr)) at_X5_change_17 rfl rfl (Nat.le_of_ble_eq_true rfl) rfl (L97_X4_isAmount (by omega) (by omega) (by omega)) (by decide) rfl ?_
              refine E_if (t := 33) (b := true) at_X5_change_20 rfl (by decide) ?_
              refine E_aload_n rfl rfl ?_
              refine E_getfield (v := .ref 32) rfl w0 rfl (by decide) rfl ?_
              refine E_aload_n rfl rfl ?_
              refine E_getfield (v := .ref 1) rfl w0 rfl (by decide) rfl ?_
              refine E_iload_n rfl rfl ?_
              refine E_iload_n rfl rfl ?_
              have e1 : Ev ab_Z0 4 1 [.ref 32, .ref 1, .int (nI 1), .int (nI a1k)] (ww im lf s d k ls rf rz ra rn rq lt m1 m2 m3 m4 bd fc hd sz el s g fm hm so si sh ce ca td wa kp la bf oo bo pw ow tr) (some (.int (qE (qGreedy s a1k))), (ww im lf s d k ls rf rz ra rn rq lt m1 m2 m3 m4 bd fc hd sz el s g fm hm so si sh ce ca td wa kp la bf oo bo pw ow tr)) := by
                refine Ef.in (md := mX0_bitsBy) (L := [some (.ref 32), some (.ref 1), some (.int (nI 1)), some (.int (nI a1k))]) rfl (Nat.le_of_ble_eq_true rfl) rfl ?_
                refine E_iload_n at_X0_bitsBy_0 rfl ?_
                refine E_iconst (x := nI 1) at_X0_bitsBy_1 (by decide) ?_
                refine E_ic (t := 11) (b := false) at_X0_bitsBy_2 rfl (by decide) ?_
                refine E_aload_n at_X0_bitsBy_5 rfl ?_
                refine E_iload_n at_X0_bitsBy_6 rfl ?_
                refine E_callV (v := some (.int (qE (qGreedy s a1k)))) (As := [.ref 1, .int (nI a1k)]) (r0 := []) (cs2 := (ww im lf s d k ls rf rz ra rn rq lt m1 m2 m3 m4 bd fc hd sz el s g fm hm so si sh ce ca td wa kp la bf oo bo pw ow tr)) at_X0_bitsBy_7 rfl rfl (Nat.le_of_ble_eq_true rfl) rfl (ab_rvOf w1 rfl) (sq_greedyFor w_q1 I (by omega)) (by decide) rfl ?_
                exact E_iret at_X0_bitsBy_10 rfl
              refine E_callV (v := some (.int (qE (qGreedy s a1k)))) (As := [.ref 32, .ref 1, .int (nI 1), .int (nI a1k)]) (r0 := []) (cs2 := (ww im lf s d k ls rf rz ra rn rq lt m1 m2 m3 m4 bd fc hd sz el s g fm hm so si sh ce ca td wa kp la bf oo bo pw ow tr)) rfl rfl rfl (Nat.le_of_ble_eq_true rfl) rfl (ab_rvOf w32 rfl) e1 (by decide) rfl ?_
              exact E_iret rfl rfl
            · show Ev ab_Z0 4 173 [.ref 65, .int (nI a1k), .int (nI 1)] (ww im lf s d k ls rf rz ra rn rq lt m1 m2 m3 m4 bd fc hd sz el s g fm hm so si sh ce ca td wa kp la bf oo bo pw ow tr) (some (.int (qE (qGreedy s a1k))), (ww im lf s d k ls rf rz ra rn rq lt m1 m2 m3 m4 bd fc hd sz el s g fm hm so si sh ce ca td wa kp la (lsF (bst s (qPs s 99 (qN s)) (qN s) (2 ^ qN s))) oo bo pw ow tr))
              refine Ef.in (md := mX6_change) (L := [some (.ref 65), some (.int (nI a1k)), some (.int (nI 1))]) rfl (Nat.le_of_ble_eq_true rfl) rfl ?_
              refine E_iload_n at_X6_change_0 rfl ?_
              refine E_if (t := 9) (b := false) at_X6_change_1 rfl (by decide) ?_
              refine E_iload_n at_X6_change_4 rfl ?_
              refine E_iconst (x := nI 1) at_X6_change_5 (by decide) ?_
              refine E_ic (t := 16) (b := true) at_X6_change_6 rfl (by decide) ?_
              refine E_aload_n at_X6_change_16 rfl ?_
              refine E_iload_n at_X6_change_17 rfl ?_
              refine E_iconst (x := nI 0) at_X6_change_18 (by decide) ?_
              refine E_bipush (x := nI 99) at_X6_change_19 (by decide) ?_
              refine E_callV (v := some (.int (nI 1))) (As := [.ref 65, .int (nI a1k), .int (nI 0), .int (nI 99)]) (r0 := []) (cs2 := (ww im lf s d k ls rf rz ra rn rq lt m1 m2 m3 m4 bd fc hd sz el s g fm hm so si sh ce ca td wa kp la bf oo bo pw ow tr)) at_X6_change_21 rfl rfl (Nat.le_of_ble_eq_true rfl) rfl (ab_rvOf w65 rfl) (L85_X6_isFrom (by omega) (by omega) (by omega)) (by decide) rfl ?_
              refine E_if (t := 34) (b := true) at_X6_change_24 rfl (by decide) ?_
              refine E_aload_n rfl rfl ?_
              refine E_aload_n rfl rfl ?_
              refine E_bipush (x := nI 99) rfl (by decide) ?_
              refine E_callV (v := some (.int (nI (qPs s 99 (qN s))))) (As := [.ref 65, .int (nI 99)]) (r0 := [.ref 65]) (cs2 := (ww im lf s d k ls rf rz ra rn rq lt m1 m2 m3 m4 bd fc hd sz el s g fm hm so si sh ce ca td wa kp la bf oo bo pw ow tr)) rfl rfl rfl (Nat.le_of_ble_eq_true rfl) rfl (ab_rvOf w65 rfl) (mo_piecesOf w_m I (by omega)) (by decide) rfl ?_
              refine E_callV (v := none) (As := [.ref 65, .int (nI (qPs s 99 (qN s)))]) (r0 := []) (cs2 := (ww im lf s d k ls rf rz ra rn rq lt m1 m2 m3 m4 bd fc hd sz el s g fm hm so si sh ce ca td wa kp la (lsF (bst s (qPs s 99 (qN s)) (qN s) (2 ^ qN s))) oo bo pw ow tr)) rfl rfl rfl (Nat.le_of_ble_eq_true rfl) rfl (ab_rvOf w65 rfl) (w_best (m := qPs s 99 (qN s)) I (by omega) (lr.2.2.2.2.2.2.2.2.2.2.2.2.2.2.2.1)) (by decide) w_lens ?_
              refine E_iload_n rfl rfl ?_
              refine E_if (t := 57) (b := true) rfl rfl (by decide) ?_
              refine E_aload_n rfl rfl ?_
              refine E_iload_n rfl rfl ?_
              refine E_callV (v := some (.int (qE (qGreedy s a1k)))) (As := [.ref 65, .int (nI a1k)]) (r0 := []) (cs2 := (ww im lf s d k ls rf rz ra rn rq lt m1 m2 m3 m4 bd fc hd sz el s g fm hm so si sh ce ca td wa kp la (lsF (bst s (qPs s 99 (qN s)) (qN s) (2 ^ qN s))) oo bo pw ow tr)) rfl rfl rfl (Nat.le_of_ble_eq_true rfl) rfl (ab_rvOf w65 rfl) (mo_greedyFor w_m I (by omega)) (by decide) rfl ?_
              exact E_iret rfl rfl
            · exact ⟨I, rfl, hf, iQ, iM, iT, iS, l_el, (lr.1), (lr.2.1), (lr.2.2.1), (lr.2.2.2.1), (lr.2.2.2.2.1), (lr.2.2.2.2.2.1), (lr.2.2.2.2.2.2.1), (lr.2.2.2.2.2.2.2.1), (lr.2.2.2.2.2.2.2.2.1), (lr.2.2.2.2.2.2.2.2.2.1), (lr.2.2.2.2.2.2.2.2.2.2.1), (lr.2.2.2.2.2.2.2.2.2.2.2.1), (lr.2.2.2.2.2.2.2.2.2.2.2.2.1), (lr.2.2.2.2.2.2.2.2.2.2.2.2.2.1), (lr.2.2.2.2.2.2.2.2.2.2.2.2.2.2.1), (lsF_len _), (lr.2.2.2.2.2.2.2.2.2.2.2.2.2.2.2.2.1), (lr.2.2.2.2.2.2.2.2.2.2.2.2.2.2.2.2.2.1), (lr.2.2.2.2.2.2.2.2.2.2.2.2.2.2.2.2.2.2.1), (lr.2.2.2.2.2.2.2.2.2.2.2.2.2.2.2.2.2.2.2.1), (lr.2.2.2.2.2.2.2.2.2.2.2.2.2.2.2.2.2.2.2.2)⟩
          · refine ⟨(-16), (im, lf, s, d, k, ls, rf, rz, ra, rn, rq, lt, m1, m2, m3, m4, bd, (fc.set 6 ((fc.getD 6 0) + (nI 1))), hd, sz, el, s, g, fm, hm, so, si, sh, ce, ca, td, wa, kp, la, bf, oo, bo, pw, ow, tr), (im, lf, s, d, k, ls, rf, rz, ra, rn, rq, lt, m1, m2, m3, m4, bd, (fc.set 6 ((fc.getD 6 0) + (nI 1))), hd, sz, el, s, g, (fm.set 6 ((fm.getD 6 0) + (nI 1))), hm, so, si, sh, ce, ca, td, wa, kp, la, bf, oo, bo, pw, ow, tr), ?_, ?_, ?_⟩
            · show Ev ab_Z0 5 93 [.ref 0, .int (nI a1k), .int (nI 1)] (ww im lf s d k ls rf rz ra rn rq lt m1 m2 m3 m4 bd fc hd sz el s g fm hm so si sh ce ca td wa kp la bf oo bo pw ow tr) (some (.int (-16)), (ww im lf s d k ls rf rz ra rn rq lt m1 m2 m3 m4 bd (fc.set 6 ((fc.getD 6 0) + (nI 1))) hd sz el s g fm hm so si sh ce ca td wa kp la bf oo bo pw ow tr))
              refine Ef.in (md := mX5_change) (L := [some (.ref 0), some (.int (nI a1k)), some (.int (nI 1))]) rfl (Nat.le_of_ble_eq_true rfl) rfl ?_
              refine E_iload_n at_X5_change_0 rfl ?_
              refine E_callS (v := some (.int (nI 1))) (As := [.int (nI 1)]) (r0 := []) (cs2 := (ww im lf s d k ls rf rz ra rn rq lt m1 m2 m3 m4 bd fc hd sz el s g fm hm so si sh ce ca td wa kp la bf oo bo pw ow tr)) at_X5_change_1 rfl rfl (Nat.le_of_ble_eq_true rfl) rfl (L101_X5_isOneOfTwo) (by decide) rfl ?_
              refine E_if (t := 16) (b := true) at_X5_change_4 rfl (by decide) ?_
              refine E_iload_n at_X5_change_16 rfl ?_
              refine E_callS (v := some (.int (nI 0))) (As := [.int (nI a1k)]) (r0 := []) (cs2 := (ww im lf s d k ls rf rz ra rn rq lt m1 m2 m3 m4 bd fc hd sz el s g fm hm so si sh ce ca td wa kp la bf oo bo pw ow tr)) at_X5_change_17 rfl rfl (Nat.le_of_ble_eq_true rfl) rfl (L98_X4_isAmount (by omega) (by omega) (by omega)) (by decide) rfl ?_
              refine E_if (t := 33) (b := false) at_X5_change_20 rfl (by decide) ?_
              refine E_aload_n at_X5_change_23 rfl ?_
              refine E_bipush (x := nI 6) at_X5_change_24 (by decide) ?_
              refine E_callV (v := some (.int (-6))) (As := [.ref 0, .int (nI 6)]) (r0 := []) (cs2 := (ww im lf s d k ls rf rz ra rn rq lt m1 m2 m3 m4 bd (fc.set 6 ((fc.getD 6 0) + (nI 1))) hd sz el s g fm hm so si sh ce ca td wa kp la bf oo bo pw ow tr)) at_X5_change_26 rfl rfl (Nat.le_of_ble_eq_true rfl) rfl (ab_rvOf w0 rfl) (L26_X5_refuse (by omega)) (by decide) w_lens ?_
              refine E_bipush (x := nI 10) at_X5_change_29 (by decide) ?_
              refine E_isub (z := (-16)) at_X5_change_31 (by decide) ?_
              exact E_iret at_X5_change_32 rfl
            · show Ev ab_Z0 4 173 [.ref 65, .int (nI a1k), .int (nI 1)] (ww im lf s d k ls rf rz ra rn rq lt m1 m2 m3 m4 bd (fc.set 6 ((fc.getD 6 0) + (nI 1))) hd sz el s g fm hm so si sh ce ca td wa kp la bf oo bo pw ow tr) (some (.int (-16)), (ww im lf s d k ls rf rz ra rn rq lt m1 m2 m3 m4 bd (fc.set 6 ((fc.getD 6 0) + (nI 1))) hd sz el s g (fm.set 6 ((fm.getD 6 0) + (nI 1))) hm so si sh ce ca td wa kp la bf oo bo pw ow tr))
              refine Ef.in (md := mX6_change) (L := [some (.ref 65), some (.int (nI a1k)), some (.int (nI 1))]) rfl (Nat.le_of_ble_eq_true rfl) rfl ?_
              refine E_iload_n at_X6_change_0 rfl ?_
              refine E_if (t := 9) (b := false) at_X6_change_1 rfl (by decide) ?_
              refine E_iload_n at_X6_change_4 rfl ?_
              refine E_iconst (x := nI 1) at_X6_change_5 (by decide) ?_
              refine E_ic (t := 16) (b := true) at_X6_change_6 rfl (by decide) ?_
              refine E_aload_n at_X6_change_16 rfl ?_
              refine E_iload_n at_X6_change_17 rfl ?_
              refine E_iconst (x := nI 0) at_X6_change_18 (by decide) ?_
              refine E_bipush (x := nI 99) at_X6_change_19 (by decide) ?_
              refine E_callV (v := some (.int (nI 0))) (As := [.ref 65, .int (nI a1k), .int (nI 0), .int (nI 99)]) (r0 := []) (cs2 := (ww im lf s d k ls rf rz ra rn rq lt m1 m2 m3 m4 bd (fc.set 6 ((fc.getD 6 0) + (nI 1))) hd sz el s g fm hm so si sh ce ca td wa kp la bf oo bo pw ow tr)) at_X6_change_21 rfl rfl (Nat.le_of_ble_eq_true rfl) rfl (ab_rvOf w65 rfl) (L83_X6_isFrom (by omega) (by omega) (by omega)) (by decide) rfl ?_
              refine E_if (t := 34) (b := false) at_X6_change_24 rfl (by decide) ?_
              refine E_aload_n at_X6_change_27 rfl ?_
              refine E_bipush (x := (-6)) at_X6_change_28 (by decide) ?_
              refine E_callV (v := some (.int (-16))) (As := [.ref 65, .int (-6)]) (r0 := []) (cs2 := (ww im lf s d k ls rf rz ra rn rq lt m1 m2 m3 m4 bd (fc.set 6 ((fc.getD 6 0) + (nI 1))) hd sz el s g (fm.set 6 ((fm.getD 6 0) + (nI 1))) hm so si sh ce ca td wa kp la bf oo bo pw ow tr)) at_X6_change_30 rfl rfl (Nat.le_of_ble_eq_true rfl) rfl (ab_rvOf w65 rfl) (L99_X6_noTen (by omega)) (by decide) w_lens ?_
              exact E_iret at_X6_change_33 rfl
            · exact ⟨I, rfl, hf, iQ, iM, iT, iS, l_el, (lr.1), (lr.2.1), (lr.2.2.1), (by simp only [List.length_set]; exact (lr.2.2.2.1)), (by simp only [List.length_set]; exact (lr.2.2.2.2.1)), (lr.2.2.2.2.2.1), (lr.2.2.2.2.2.2.1), (lr.2.2.2.2.2.2.2.1), (lr.2.2.2.2.2.2.2.2.1), (lr.2.2.2.2.2.2.2.2.2.1), (lr.2.2.2.2.2.2.2.2.2.2.1), (lr.2.2.2.2.2.2.2.2.2.2.2.1), (lr.2.2.2.2.2.2.2.2.2.2.2.2.1), (lr.2.2.2.2.2.2.2.2.2.2.2.2.2.1), (lr.2.2.2.2.2.2.2.2.2.2.2.2.2.2.1), (lr.2.2.2.2.2.2.2.2.2.2.2.2.2.2.2.1), (lr.2.2.2.2.2.2.2.2.2.2.2.2.2.2.2.2.1), (lr.2.2.2.2.2.2.2.2.2.2.2.2.2.2.2.2.2.1), (lr.2.2.2.2.2.2.2.2.2.2.2.2.2.2.2.2.2.2.1), (lr.2.2.2.2.2.2.2.2.2.2.2.2.2.2.2.2.2.2.2.1), (lr.2.2.2.2.2.2.2.2.2.2.2.2.2.2.2.2.2.2.2.2)⟩
        · refine ⟨(-16), (im, lf, s, d, k, ls, rf, rz, ra, rn, rq, lt, m1, m2, m3, m4, bd, (fc.set 6 ((fc.getD 6 0) + (nI 1))), hd, sz, el, s, g, fm, hm, so, si, sh, ce, ca, td, wa, kp, la, bf, oo, bo, pw, ow, tr), (im, lf, s, d, k, ls, rf, rz, ra, rn, rq, lt, m1, m2, m3, m4, bd, (fc.set 6 ((fc.getD 6 0) + (nI 1))), hd, sz, el, s, g, (fm.set 6 ((fm.getD 6 0) + (nI 1))), hm, so, si, sh, ce, ca, td, wa, kp, la, bf, oo, bo, pw, ow, tr), ?_, ?_, ?_⟩
          · show Ev ab_Z0 5 93 [.ref 0, .int a1, .int (nI 1)] (ww im lf s d k ls rf rz ra rn rq lt m1 m2 m3 m4 bd fc hd sz el s g fm hm so si sh ce ca td wa kp la bf oo bo pw ow tr) (some (.int (-16)), (ww im lf s d k ls rf rz ra rn rq lt m1 m2 m3 m4 bd (fc.set 6 ((fc.getD 6 0) + (nI 1))) hd sz el s g fm hm so si sh ce ca td wa kp la bf oo bo pw ow tr))
            refine Ef.in (md := mX5_change) (L := [some (.ref 0), some (.int a1), some (.int (nI 1))]) rfl (Nat.le_of_ble_eq_true rfl) rfl ?_
            refine E_iload_n at_X5_change_0 rfl ?_
            refine E_callS (v := some (.int (nI 1))) (As := [.int (nI 1)]) (r0 := []) (cs2 := (ww im lf s d k ls rf rz ra rn rq lt m1 m2 m3 m4 bd fc hd sz el s g fm hm so si sh ce ca td wa kp la bf oo bo pw ow tr)) at_X5_change_1 rfl rfl (Nat.le_of_ble_eq_true rfl) rfl (L101_X5_isOneOfTwo) (by decide) rfl ?_
            refine E_if (t := 16) (b := true) at_X5_change_4 rfl (by decide) ?_
            refine E_iload_n at_X5_change_16 rfl ?_
            refine E_callS (v := some (.int (nI 0))) (As := [.int a1]) (r0 := []) (cs2 := (ww im lf s d k ls rf rz ra rn rq lt m1 m2 m3 m4 bd fc hd sz el s g fm hm so si sh ce ca td wa kp la bf oo bo pw ow tr)) at_X5_change_17 rfl rfl (Nat.le_of_ble_eq_true rfl) rfl (L100_X4_isAmount (by omega) (by omega)) (by decide) rfl ?_
            refine E_if (t := 33) (b := false) at_X5_change_20 rfl (by decide) ?_
            refine E_aload_n at_X5_change_23 rfl ?_
            refine E_bipush (x := nI 6) at_X5_change_24 (by decide) ?_
            refine E_callV (v := some (.int (-6))) (As := [.ref 0, .int (nI 6)]) (r0 := []) (cs2 := (ww im lf s d k ls rf rz ra rn rq lt m1 m2 m3 m4 bd (fc.set 6 ((fc.getD 6 0) + (nI 1))) hd sz el s g fm hm so si sh ce ca td wa kp la bf oo bo pw ow tr)) at_X5_change_26 rfl rfl (Nat.le_of_ble_eq_true rfl) rfl (ab_rvOf w0 rfl) (L26_X5_refuse (by omega)) (by decide) w_lens ?_
            refine E_bipush (x := nI 10) at_X5_change_29 (by decide) ?_
            refine E_isub (z := (-16)) at_X5_change_31 (by decide) ?_
            exact E_iret at_X5_change_32 rfl
          · show Ev ab_Z0 4 173 [.ref 65, .int a1, .int (nI 1)] (ww im lf s d k ls rf rz ra rn rq lt m1 m2 m3 m4 bd (fc.set 6 ((fc.getD 6 0) + (nI 1))) hd sz el s g fm hm so si sh ce ca td wa kp la bf oo bo pw ow tr) (some (.int (-16)), (ww im lf s d k ls rf rz ra rn rq lt m1 m2 m3 m4 bd (fc.set 6 ((fc.getD 6 0) + (nI 1))) hd sz el s g (fm.set 6 ((fm.getD 6 0) + (nI 1))) hm so si sh ce ca td wa kp la bf oo bo pw ow tr))
            refine Ef.in (md := mX6_change) (L := [some (.ref 65), some (.int a1), some (.int (nI 1))]) rfl (Nat.le_of_ble_eq_true rfl) rfl ?_
            refine E_iload_n at_X6_change_0 rfl ?_
            refine E_if (t := 9) (b := false) at_X6_change_1 rfl (by decide) ?_
            refine E_iload_n at_X6_change_4 rfl ?_
            refine E_iconst (x := nI 1) at_X6_change_5 (by decide) ?_
            refine E_ic (t := 16) (b := true) at_X6_change_6 rfl (by decide) ?_
            refine E_aload_n at_X6_change_16 rfl ?_
            refine E_iload_n at_X6_change_17 rfl ?_
            refine E_iconst (x := nI 0) at_X6_change_18 (by decide) ?_
            refine E_bipush (x := nI 99) at_X6_change_19 (by decide) ?_
            refine E_callV (v := some (.int (nI 0))) (As := [.ref 65, .int a1, .int (nI 0), .int (nI 99)]) (r0 := []) (cs2 := (ww im lf s d k ls rf rz ra rn rq lt m1 m2 m3 m4 bd (fc.set 6 ((fc.getD 6 0) + (nI 1))) hd sz el s g fm hm so si sh ce ca td wa kp la bf oo bo pw ow tr)) at_X6_change_21 rfl rfl (Nat.le_of_ble_eq_true rfl) rfl (ab_rvOf w65 rfl) (L89_X6_isFrom (by omega) (by omega)) (by decide) rfl ?_
            refine E_if (t := 34) (b := false) at_X6_change_24 rfl (by decide) ?_
            refine E_aload_n at_X6_change_27 rfl ?_
            refine E_bipush (x := (-6)) at_X6_change_28 (by decide) ?_
            refine E_callV (v := some (.int (-16))) (As := [.ref 65, .int (-6)]) (r0 := []) (cs2 := (ww im lf s d k ls rf rz ra rn rq lt m1 m2 m3 m4 bd (fc.set 6 ((fc.getD 6 0) + (nI 1))) hd sz el s g (fm.set 6 ((fm.getD 6 0) + (nI 1))) hm so si sh ce ca td wa kp la bf oo bo pw ow tr)) at_X6_change_30 rfl rfl (Nat.le_of_ble_eq_true rfl) rfl (ab_rvOf w65 rfl) (L99_X6_noTen (by omega)) (by decide) w_lens ?_
            exact E_iret at_X6_change_33 rfl
          · exact ⟨I, rfl, hf, iQ, iM, iT, iS, l_el, (lr.1), (lr.2.1), (lr.2.2.1), (by simp only [List.length_set]; exact (lr.2.2.2.1)), (by simp only [List.length_set]; exact (lr.2.2.2.2.1)), (lr.2.2.2.2.2.1), (lr.2.2.2.2.2.2.1), (lr.2.2.2.2.2.2.2.1), (lr.2.2.2.2.2.2.2.2.1), (lr.2.2.2.2.2.2.2.2.2.1), (lr.2.2.2.2.2.2.2.2.2.2.1), (lr.2.2.2.2.2.2.2.2.2.2.2.1), (lr.2.2.2.2.2.2.2.2.2.2.2.2.1), (lr.2.2.2.2.2.2.2.2.2.2.2.2.2.1), (lr.2.2.2.2.2.2.2.2.2.2.2.2.2.2.1), (lr.2.2.2.2.2.2.2.2.2.2.2.2.2.2.2.1), (lr.2.2.2.2.2.2.2.2.2.2.2.2.2.2.2.2.1), (lr.2.2.2.2.2.2.2.2.2.2.2.2.2.2.2.2.2.1), (lr.2.2.2.2.2.2.2.2.2.2.2.2.2.2.2.2.2.2.1), (lr.2.2.2.2.2.2.2.2.2.2.2.2.2.2.2.2.2.2.2.1), (lr.2.2.2.2.2.2.2.2.2.2.2.2.2.2.2.2.2.2.2.2)⟩
      · refine ⟨(-15), (im, lf, s, d, k, ls, rf, rz, ra, rn, rq, lt, m1, m2, m3, m4, bd, (fc.set 5 ((fc.getD 5 0) + (nI 1))), hd, sz, el, s, g, fm, hm, so, si, sh, ce, ca, td, wa, kp, la, bf, oo, bo, pw, ow, tr), (im, lf, s, d, k, ls, rf, rz, ra, rn, rq, lt, m1, m2, m3, m4, bd, (fc.set 5 ((fc.getD 5 0) + (nI 1))), hd, sz, el, s, g, (fm.set 5 ((fm.getD 5 0) + (nI 1))), hm, so, si, sh, ce, ca, td, wa, kp, la, bf, oo, bo, pw, ow, tr), ?_, ?_, ?_⟩
        · show Ev ab_Z0 5 93 [.ref 0, .int a1, .int (nI a2k)] (ww im lf s d k ls rf rz ra rn rq lt m1 m2 m3 m4 bd fc hd sz el s g fm hm so si sh ce ca td wa kp la bf oo bo pw ow tr) (some (.int (-15)), (ww im lf s d k ls rf rz ra rn rq lt m1 m2 m3 m4 bd (fc.set 5 ((fc.getD 5 0) + (nI 1))) hd sz el s g fm hm so si sh ce ca td wa kp la bf oo bo pw ow tr))
          refine Ef.in (md := mX5_change) (L := [some (.ref 0), some (.int a1), some (.int (nI a2k))]) rfl (Nat.le_of_ble_eq_true rfl) rfl ?_
          refine E_iload_n at_X5_change_0 rfl ?_
          refine E_callS (v := some (.int (nI 0))) (As := [.int (nI a2k)]) (r0 := []) (cs2 := (ww im lf s d k ls rf rz ra rn rq lt m1 m2 m3 m4 bd fc hd sz el s g fm hm so si sh ce ca td wa kp la bf oo bo pw ow tr)) at_X5_change_1 rfl rfl (Nat.le_of_ble_eq_true rfl) rfl (L102_X5_isOneOfTwo (by omega) (by omega) (by omega)) (by decide) rfl ?_
          refine E_if (t := 16) (b := false) at_X5_change_4 rfl (by decide) ?_
          refine E_aload_n rfl rfl ?_
          refine E_iconst (x := nI 5) rfl (by decide) ?_
          refine E_callV (v := some (.int (-5))) (As := [.ref 0, .int (nI 5)]) (r0 := []) (cs2 := (ww im lf s d k ls rf rz ra rn rq lt m1 m2 m3 m4 bd (fc.set 5 ((fc.getD 5 0) + (nI 1))) hd sz el s g fm hm so si sh ce ca td wa kp la bf oo bo pw ow tr)) rfl rfl rfl (Nat.le_of_ble_eq_true rfl) rfl (ab_rvOf w0 rfl) (L18_X5_refuse (by omega)) (by decide) w_lens ?_
          refine E_bipush (x := nI 10) rfl (by decide) ?_
          refine E_isub (z := (-15)) rfl (by decide) ?_
          exact E_iret rfl rfl
        · show Ev ab_Z0 4 173 [.ref 65, .int a1, .int (nI a2k)] (ww im lf s d k ls rf rz ra rn rq lt m1 m2 m3 m4 bd (fc.set 5 ((fc.getD 5 0) + (nI 1))) hd sz el s g fm hm so si sh ce ca td wa kp la bf oo bo pw ow tr) (some (.int (-15)), (ww im lf s d k ls rf rz ra rn rq lt m1 m2 m3 m4 bd (fc.set 5 ((fc.getD 5 0) + (nI 1))) hd sz el s g (fm.set 5 ((fm.getD 5 0) + (nI 1))) hm so si sh ce ca td wa kp la bf oo bo pw ow tr))
          refine Ef.in (md := mX6_change) (L := [some (.ref 65), some (.int a1), some (.int (nI a2k))]) rfl (Nat.le_of_ble_eq_true rfl) rfl ?_
          refine E_iload_n at_X6_change_0 rfl ?_
          refine E_if (t := 9) (b := false) at_X6_change_1 rfl ((cn_lt (nI_toInt (by omega)) (by decide : (0 : Int32).toInt = 0)).trans (decide_eq_false (by omega))) ?_
          refine E_iload_n at_X6_change_4 rfl ?_
          refine E_iconst (x := nI 1) at_X6_change_5 (by decide) ?_
          refine E_ic (t := 16) (b := false) at_X6_change_6 rfl ((cn_le (nI_toInt (by omega)) (nI_toInt (by omega))).trans (decide_eq_false (by omega))) ?_
          refine E_aload_n rfl rfl ?_
          refine E_bipush (x := (-5)) rfl (by decide) ?_
          refine E_callV (v := some (.int (-15))) (As := [.ref 65, .int (-5)]) (r0 := []) (cs2 := (ww im lf s d k ls rf rz ra rn rq lt m1 m2 m3 m4 bd (fc.set 5 ((fc.getD 5 0) + (nI 1))) hd sz el s g (fm.set 5 ((fm.getD 5 0) + (nI 1))) hm so si sh ce ca td wa kp la bf oo bo pw ow tr)) rfl rfl rfl (Nat.le_of_ble_eq_true rfl) rfl (ab_rvOf w65 rfl) (L103_X6_noTen (by omega)) (by decide) w_lens ?_
          exact E_iret rfl rfl
        · exact ⟨I, rfl, hf, iQ, iM, iT, iS, l_el, (lr.1), (lr.2.1), (lr.2.2.1), (by simp only [List.length_set]; exact (lr.2.2.2.1)), (by simp only [List.length_set]; exact (lr.2.2.2.2.1)), (lr.2.2.2.2.2.1), (lr.2.2.2.2.2.2.1), (lr.2.2.2.2.2.2.2.1), (lr.2.2.2.2.2.2.2.2.1), (lr.2.2.2.2.2.2.2.2.2.1), (lr.2.2.2.2.2.2.2.2.2.2.1), (lr.2.2.2.2.2.2.2.2.2.2.2.1), (lr.2.2.2.2.2.2.2.2.2.2.2.2.1), (lr.2.2.2.2.2.2.2.2.2.2.2.2.2.1), (lr.2.2.2.2.2.2.2.2.2.2.2.2.2.2.1), (lr.2.2.2.2.2.2.2.2.2.2.2.2.2.2.2.1), (lr.2.2.2.2.2.2.2.2.2.2.2.2.2.2.2.2.1), (lr.2.2.2.2.2.2.2.2.2.2.2.2.2.2.2.2.2.1), (lr.2.2.2.2.2.2.2.2.2.2.2.2.2.2.2.2.2.2.1), (lr.2.2.2.2.2.2.2.2.2.2.2.2.2.2.2.2.2.2.2.1), (lr.2.2.2.2.2.2.2.2.2.2.2.2.2.2.2.2.2.2.2.2)⟩
  · refine ⟨(-15), (im, lf, s, d, k, ls, rf, rz, ra, rn, rq, lt, m1, m2, m3, m4, bd, (fc.set 5 ((fc.getD 5 0) + (nI 1))), hd, sz, el, s, g, fm, hm, so, si, sh, ce, ca, td, wa, kp, la, bf, oo, bo, pw, ow, tr), (im, lf, s, d, k, ls, rf, rz, ra, rn, rq, lt, m1, m2, m3, m4, bd, (fc.set 5 ((fc.getD 5 0) + (nI 1))), hd, sz, el, s, g, (fm.set 5 ((fm.getD 5 0) + (nI 1))), hm, so, si, sh, ce, ca, td, wa, kp, la, bf, oo, bo, pw, ow, tr), ?_, ?_, ?_⟩
    · show Ev ab_Z0 5 93 [.ref 0, .int a1, .int a2] (ww im lf s d k ls rf rz ra rn rq lt m1 m2 m3 m4 bd fc hd sz el s g fm hm so si sh ce ca td wa kp la bf oo bo pw ow tr) (some (.int (-15)), (ww im lf s d k ls rf rz ra rn rq lt m1 m2 m3 m4 bd (fc.set 5 ((fc.getD 5 0) + (nI 1))) hd sz el s g fm hm so si sh ce ca td wa kp la bf oo bo pw ow tr))
      refine Ef.in (md := mX5_change) (L := [some (.ref 0), some (.int a1), some (.int a2)]) rfl (Nat.le_of_ble_eq_true rfl) rfl ?_
      refine E_iload_n at_X5_change_0 rfl ?_
      refine E_callS (v := some (.int (nI 0))) (As := [.int a2]) (r0 := []) (cs2 := (ww im lf s d k ls rf rz ra rn rq lt m1 m2 m3 m4 bd fc hd sz el s g fm hm so si sh ce ca td wa kp la bf oo bo pw ow tr)) at_X5_change_1 rfl rfl (Nat.le_of_ble_eq_true rfl) rfl (L104_X5_isOneOfTwo (by omega) (by omega) (by omega)) (by decide) rfl ?_
      refine E_if (t := 16) (b := false) at_X5_change_4 rfl (by decide) ?_
      refine E_aload_n rfl rfl ?_
      refine E_iconst (x := nI 5) rfl (by decide) ?_
      refine E_callV (v := some (.int (-5))) (As := [.ref 0, .int (nI 5)]) (r0 := []) (cs2 := (ww im lf s d k ls rf rz ra rn rq lt m1 m2 m3 m4 bd (fc.set 5 ((fc.getD 5 0) + (nI 1))) hd sz el s g fm hm so si sh ce ca td wa kp la bf oo bo pw ow tr)) rfl rfl rfl (Nat.le_of_ble_eq_true rfl) rfl (ab_rvOf w0 rfl) (L18_X5_refuse (by omega)) (by decide) w_lens ?_
      refine E_bipush (x := nI 10) rfl (by decide) ?_
      refine E_isub (z := (-15)) rfl (by decide) ?_
      exact E_iret rfl rfl
    · show Ev ab_Z0 4 173 [.ref 65, .int a1, .int a2] (ww im lf s d k ls rf rz ra rn rq lt m1 m2 m3 m4 bd (fc.set 5 ((fc.getD 5 0) + (nI 1))) hd sz el s g fm hm so si sh ce ca td wa kp la bf oo bo pw ow tr) (some (.int (-15)), (ww im lf s d k ls rf rz ra rn rq lt m1 m2 m3 m4 bd (fc.set 5 ((fc.getD 5 0) + (nI 1))) hd sz el s g (fm.set 5 ((fm.getD 5 0) + (nI 1))) hm so si sh ce ca td wa kp la bf oo bo pw ow tr))
      refine Ef.in (md := mX6_change) (L := [some (.ref 65), some (.int a1), some (.int a2)]) rfl (Nat.le_of_ble_eq_true rfl) rfl ?_
      refine E_iload_n at_X6_change_0 rfl ?_
      refine E_if (t := 9) (b := true) at_X6_change_1 rfl ((cn_lt rfl (by decide : (0 : Int32).toInt = 0)).trans (decide_eq_true (by omega))) ?_
      refine E_aload_n rfl rfl ?_
      refine E_bipush (x := (-5)) rfl (by decide) ?_
      refine E_callV (v := some (.int (-15))) (As := [.ref 65, .int (-5)]) (r0 := []) (cs2 := (ww im lf s d k ls rf rz ra rn rq lt m1 m2 m3 m4 bd (fc.set 5 ((fc.getD 5 0) + (nI 1))) hd sz el s g (fm.set 5 ((fm.getD 5 0) + (nI 1))) hm so si sh ce ca td wa kp la bf oo bo pw ow tr)) rfl rfl rfl (Nat.le_of_ble_eq_true rfl) rfl (ab_rvOf w65 rfl) (L103_X6_noTen (by omega)) (by decide) w_lens ?_
      exact E_iret rfl rfl
    · exact ⟨I, rfl, hf, iQ, iM, iT, iS, l_el, (lr.1), (lr.2.1), (lr.2.2.1), (by simp only [List.length_set]; exact (lr.2.2.2.1)), (by simp only [List.length_set]; exact (lr.2.2.2.2.1)), (lr.2.2.2.2.2.1), (lr.2.2.2.2.2.2.1), (lr.2.2.2.2.2.2.2.1), (lr.2.2.2.2.2.2.2.2.1), (lr.2.2.2.2.2.2.2.2.2.1), (lr.2.2.2.2.2.2.2.2.2.2.1), (lr.2.2.2.2.2.2.2.2.2.2.2.1), (lr.2.2.2.2.2.2.2.2.2.2.2.2.1), (lr.2.2.2.2.2.2.2.2.2.2.2.2.2.1), (lr.2.2.2.2.2.2.2.2.2.2.2.2.2.2.1), (lr.2.2.2.2.2.2.2.2.2.2.2.2.2.2.2.1), (lr.2.2.2.2.2.2.2.2.2.2.2.2.2.2.2.2.1), (lr.2.2.2.2.2.2.2.2.2.2.2.2.2.2.2.2.2.1), (lr.2.2.2.2.2.2.2.2.2.2.2.2.2.2.2.2.2.2.1), (lr.2.2.2.2.2.2.2.2.2.2.2.2.2.2.2.2.2.2.2.1), (lr.2.2.2.2.2.2.2.2.2.2.2.2.2.2.2.2.2.2.2.2)⟩
