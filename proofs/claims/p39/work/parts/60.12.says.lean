/-! says; by program (wip/tools/op.py) -/
section LM
variable {im : Int32} {lf : Int32} {s : ab_q} {d : ab_q} {k : ab_q} {ls : List Int32} {rf : Int32} {rz : Int32} {ra : Int32} {rn : Int32} {rq : ab_q} {lt : List Int32} {m1 : Int32} {m2 : Int32} {m3 : Int32} {m4 : Int32} {bd : List Int32} {fc : List Int32} {hd : Nat → Int32} {sz : Nat → Int32} {el : Nat → List Int64} {t : ab_q} {g : Nat → Int32} {fm : List Int32} {hm : List Nat} {so : List Nat} {si : List Nat} {sh : List Int32} {ce : List Int64} {ca : List Int64} {td : List Int32} {wa : List Int32} {kp : List Int32} {la : List Int32} {bf : List Int32} {oo : List Int32} {bo : List Int32} {pw : List Int32} {ow : List Int32} {tr : List Int32}
theorem L57_X4_isKind {x0 : Nat} (h0 : x0 < 2147483648) (h1 : ¬ (x0 < 0)) (h2 : x0 < 7) : Ev ab_Z0 1 46 [.int (nI x0)] (ww im lf s d k ls rf rz ra rn rq lt m1 m2 m3 m4 bd fc hd sz el t g fm hm so si sh ce ca td wa kp la bf oo bo pw ow tr) (some (.int (nI 1)), (ww im lf s d k ls rf rz ra rn rq lt m1 m2 m3 m4 bd fc hd sz el t g fm hm so si sh ce ca td wa kp la bf oo bo pw ow tr)) := by
  refine Ef.in (md := mX4_isKind) (L := [some (.int (nI x0))]) rfl (Nat.le_of_ble_eq_true rfl) rfl ?_
  refine E_iload_n at_X4_isKind_0 rfl ?_
  refine E_if (t := 14) (b := false) at_X4_isKind_1 rfl ((cn_lt (nI_toInt (by omega)) (by decide : (0 : Int32).toInt = 0)).trans (decide_eq_false (by omega))) ?_
  refine E_iload_n at_X4_isKind_4 rfl ?_
  refine E_bipush (x := nI 7) at_X4_isKind_5 (by decide) ?_
  refine E_ic (t := 14) (b := false) at_X4_isKind_7 rfl ((cn_ge (nI_toInt (by omega)) (nI_toInt (by omega))).trans (decide_eq_false (by omega))) ?_
  refine E_iconst (x := nI 1) at_X4_isKind_10 (by decide) ?_
  refine E_goto (t := 15) at_X4_isKind_11 rfl ?_
  exact E_iret at_X4_isKind_15 rfl
theorem L58_X4_isKind  : Ev ab_Z0 1 46 [.int (nI 1)] (ww im lf s d k ls rf rz ra rn rq lt m1 m2 m3 m4 bd fc hd sz el t g fm hm so si sh ce ca td wa kp la bf oo bo pw ow tr) (some (.int (nI 1)), (ww im lf s d k ls rf rz ra rn rq lt m1 m2 m3 m4 bd fc hd sz el t g fm hm so si sh ce ca td wa kp la bf oo bo pw ow tr)) := by
  refine Ef.in (md := mX4_isKind) (L := [some (.int (nI 1))]) rfl (Nat.le_of_ble_eq_true rfl) rfl ?_
  refine E_iload_n at_X4_isKind_0 rfl ?_
  refine E_if (t := 14) (b := false) at_X4_isKind_1 rfl (by decide) ?_
  refine E_iload_n at_X4_isKind_4 rfl ?_
  refine E_bipush (x := nI 7) at_X4_isKind_5 (by decide) ?_
  refine E_ic (t := 14) (b := false) at_X4_isKind_7 rfl (by decide) ?_
  refine E_iconst (x := nI 1) at_X4_isKind_10 (by decide) ?_
  refine E_goto (t := 15) at_X4_isKind_11 rfl ?_
  exact E_iret at_X4_isKind_15 rfl
theorem L59_X4_isKind  : Ev ab_Z0 1 46 [.int (nI 2)] (ww im lf s d k ls rf rz ra rn rq lt m1 m2 m3 m4 bd fc hd sz el t g fm hm so si sh ce ca td wa kp la bf oo bo pw ow tr) (some (.int (nI 1)), (ww im lf s d k ls rf rz ra rn rq lt m1 m2 m3 m4 bd fc hd sz el t g fm hm so si sh ce ca td wa kp la bf oo bo pw ow tr)) := by
  refine Ef.in (md := mX4_isKind) (L := [some (.int (nI 2))]) rfl (Nat.le_of_ble_eq_true rfl) rfl ?_
  refine E_iload_n at_X4_isKind_0 rfl ?_
  refine E_if (t := 14) (b := false) at_X4_isKind_1 rfl (by decide) ?_
  refine E_iload_n at_X4_isKind_4 rfl ?_
  refine E_bipush (x := nI 7) at_X4_isKind_5 (by decide) ?_
  refine E_ic (t := 14) (b := false) at_X4_isKind_7 rfl (by decide) ?_
  refine E_iconst (x := nI 1) at_X4_isKind_10 (by decide) ?_
  refine E_goto (t := 15) at_X4_isKind_11 rfl ?_
  exact E_iret at_X4_isKind_15 rfl
theorem L60_X4_isKind  : Ev ab_Z0 1 46 [.int (nI 4)] (ww im lf s d k ls rf rz ra rn rq lt m1 m2 m3 m4 bd fc hd sz el t g fm hm so si sh ce ca td wa kp la bf oo bo pw ow tr) (some (.int (nI 1)), (ww im lf s d k ls rf rz ra rn rq lt m1 m2 m3 m4 bd fc hd sz el t g fm hm so si sh ce ca td wa kp la bf oo bo pw ow tr)) := by
  refine Ef.in (md := mX4_isKind) (L := [some (.int (nI 4))]) rfl (Nat.le_of_ble_eq_true rfl) rfl ?_
  refine E_iload_n at_X4_isKind_0 rfl ?_
  refine E_if (t := 14) (b := false) at_X4_isKind_1 rfl (by decide) ?_
  refine E_iload_n at_X4_isKind_4 rfl ?_
  refine E_bipush (x := nI 7) at_X4_isKind_5 (by decide) ?_
  refine E_ic (t := 14) (b := false) at_X4_isKind_7 rfl (by decide) ?_
  refine E_iconst (x := nI 1) at_X4_isKind_10 (by decide) ?_
  refine E_goto (t := 15) at_X4_isKind_11 rfl ?_
  exact E_iret at_X4_isKind_15 rfl
theorem L61_X4_isKind  : Ev ab_Z0 1 46 [.int (nI 0)] (ww im lf s d k ls rf rz ra rn rq lt m1 m2 m3 m4 bd fc hd sz el t g fm hm so si sh ce ca td wa kp la bf oo bo pw ow tr) (some (.int (nI 1)), (ww im lf s d k ls rf rz ra rn rq lt m1 m2 m3 m4 bd fc hd sz el t g fm hm so si sh ce ca td wa kp la bf oo bo pw ow tr)) := by
  refine Ef.in (md := mX4_isKind) (L := [some (.int (nI 0))]) rfl (Nat.le_of_ble_eq_true rfl) rfl ?_
  refine E_iload_n at_X4_isKind_0 rfl ?_
  refine E_if (t := 14) (b := false) at_X4_isKind_1 rfl (by decide) ?_
  refine E_iload_n at_X4_isKind_4 rfl ?_
  refine E_bipush (x := nI 7) at_X4_isKind_5 (by decide) ?_
  refine E_ic (t := 14) (b := false) at_X4_isKind_7 rfl (by decide) ?_
  refine E_iconst (x := nI 1) at_X4_isKind_10 (by decide) ?_
  refine E_goto (t := 15) at_X4_isKind_11 rfl ?_
  exact E_iret at_X4_isKind_15 rfl
theorem L62_X4_isKind  : Ev ab_Z0 1 46 [.int (nI 3)] (ww im lf s d k ls rf rz ra rn rq lt m1 m2 m3 m4 bd fc hd sz el t g fm hm so si sh ce ca td wa kp la bf oo bo pw ow tr) (some (.int (nI 1)), (ww im lf s d k ls rf rz ra rn rq lt m1 m2 m3 m4 bd fc hd sz el t g fm hm so si sh ce ca td wa kp la bf oo bo pw ow tr)) := by
  refine Ef.in (md := mX4_isKind) (L := [some (.int (nI 3))]) rfl (Nat.le_of_ble_eq_true rfl) rfl ?_
  refine E_iload_n at_X4_isKind_0 rfl ?_
  refine E_if (t := 14) (b := false) at_X4_isKind_1 rfl (by decide) ?_
  refine E_iload_n at_X4_isKind_4 rfl ?_
  refine E_bipush (x := nI 7) at_X4_isKind_5 (by decide) ?_
  refine E_ic (t := 14) (b := false) at_X4_isKind_7 rfl (by decide) ?_
  refine E_iconst (x := nI 1) at_X4_isKind_10 (by decide) ?_
  refine E_goto (t := 15) at_X4_isKind_11 rfl ?_
  exact E_iret at_X4_isKind_15 rfl
theorem L63_X4_isKind  : Ev ab_Z0 1 46 [.int (nI 5)] (ww im lf s d k ls rf rz ra rn rq lt m1 m2 m3 m4 bd fc hd sz el t g fm hm so si sh ce ca td wa kp la bf oo bo pw ow tr) (some (.int (nI 1)), (ww im lf s d k ls rf rz ra rn rq lt m1 m2 m3 m4 bd fc hd sz el t g fm hm so si sh ce ca td wa kp la bf oo bo pw ow tr)) := by
  refine Ef.in (md := mX4_isKind) (L := [some (.int (nI 5))]) rfl (Nat.le_of_ble_eq_true rfl) rfl ?_
  refine E_iload_n at_X4_isKind_0 rfl ?_
  refine E_if (t := 14) (b := false) at_X4_isKind_1 rfl (by decide) ?_
  refine E_iload_n at_X4_isKind_4 rfl ?_
  refine E_bipush (x := nI 7) at_X4_isKind_5 (by decide) ?_
  refine E_ic (t := 14) (b := false) at_X4_isKind_7 rfl (by decide) ?_
  refine E_iconst (x := nI 1) at_X4_isKind_10 (by decide) ?_
  refine E_goto (t := 15) at_X4_isKind_11 rfl ?_
  exact E_iret at_X4_isKind_15 rfl
theorem L64_X4_isKind {x0 : Nat} (h0 : x0 < 2147483648) (h1 : ¬ (x0 < 0)) (h2 : ¬ (x0 < 7)) : Ev ab_Z0 1 46 [.int (nI x0)] (ww im lf s d k ls rf rz ra rn rq lt m1 m2 m3 m4 bd fc hd sz el t g fm hm so si sh ce ca td wa kp la bf oo bo pw ow tr) (some (.int (nI 0)), (ww im lf s d k ls rf rz ra rn rq lt m1 m2 m3 m4 bd fc hd sz el t g fm hm so si sh ce ca td wa kp la bf oo bo pw ow tr)) := by
  refine Ef.in (md := mX4_isKind) (L := [some (.int (nI x0))]) rfl (Nat.le_of_ble_eq_true rfl) rfl ?_
  refine E_iload_n at_X4_isKind_0 rfl ?_
  refine E_if (t := 14) (b := false) at_X4_isKind_1 rfl ((cn_lt (nI_toInt (by omega)) (by decide : (0 : Int32).toInt = 0)).trans (decide_eq_false (by omega))) ?_
  refine E_iload_n at_X4_isKind_4 rfl ?_
  refine E_bipush (x := nI 7) at_X4_isKind_5 (by decide) ?_
  refine E_ic (t := 14) (b := true) at_X4_isKind_7 rfl ((cn_ge (nI_toInt (by omega)) (nI_toInt (by omega))).trans (decide_eq_true (by omega))) ?_
  refine E_iconst (x := nI 0) at_X4_isKind_14 (by decide) ?_
  exact E_iret at_X4_isKind_15 rfl
theorem L65_X4_isKind {x0 : Int32} (h0 : x0.toInt < 0) (h1 : x0.toInt < 0) : Ev ab_Z0 1 46 [.int x0] (ww im lf s d k ls rf rz ra rn rq lt m1 m2 m3 m4 bd fc hd sz el t g fm hm so si sh ce ca td wa kp la bf oo bo pw ow tr) (some (.int (nI 0)), (ww im lf s d k ls rf rz ra rn rq lt m1 m2 m3 m4 bd fc hd sz el t g fm hm so si sh ce ca td wa kp la bf oo bo pw ow tr)) := by
  refine Ef.in (md := mX4_isKind) (L := [some (.int x0)]) rfl (Nat.le_of_ble_eq_true rfl) rfl ?_
  refine E_iload_n at_X4_isKind_0 rfl ?_
  refine E_if (t := 14) (b := true) at_X4_isKind_1 rfl ((cn_lt rfl (by decide : (0 : Int32).toInt = 0)).trans (decide_eq_true (by omega))) ?_
  refine E_iconst (x := nI 0) at_X4_isKind_14 (by decide) ?_
  exact E_iret at_X4_isKind_15 rfl
end LM
set_option maxHeartbeats 4000000 in
theorem op_says (x : St) (hx : wI x) (a1 : Int32) (a2 : Int32) : ∃ (r : Int32) (x1 x2 : St), Ev ab_Z0 3 82 [.ref 0, .int a1, .int a2] (wt x) (some (.int r), wt x1) ∧ Ev ab_Z0 2 141 [.ref 65, .int a1, .int a2] (wt x1) (some (.int r), wt x2) ∧ wI x2 := by
  obtain ⟨im, lf, s, d, k, ls, rf, rz, ra, rn, rq, lt, m1, m2, m3, m4, bd, fc, hd, sz, el, t, g, fm, hm, so, si, sh, ce, ca, td, wa, kp, la, bf, oo, bo, pw, ow, tr⟩ := x
  obtain ⟨I, ts, hf, iQ, iM, iT, iS, l_el, lr⟩ := hx
  replace lr : Hd _ := lr
  have l_fc := lr.2.2.2.1
  have l_fm := lr.2.2.2.2.1
  have l_hm := lr.2.2.2.2.2.1
  have l_sh := lr.2.2.2.2.2.2.2.2.1
  subst ts
  obtain ⟨⟨i0, i1, i2, i3⟩, ⟨i4, i5, i6, i7, i8⟩, ⟨i9, i10⟩, I1, I2, I3, I4⟩ := id I
  rcases ab_int a1 with ⟨a1k, f0, rfl⟩ | f0
  · by_cases f1 : a1k < 8
    · rcases ab_int a2 with ⟨a2k, f2, rfl⟩ | f2
      · by_cases f3 : a2k < 7
        · rcases iS a1k (by omega) with ⟨u1, u2, u3⟩ | ⟨xq, u1, u2, u3, u4, u5⟩ | ⟨u1, u2, u3, u4, u5, u6⟩
          · refine ⟨(-3), (im, lf, s, d, k, ls, rf, rz, ra, rn, rq, lt, m1, m2, m3, m4, bd, (fc.set 3 ((fc.getD 3 0) + (nI 1))), hd, sz, el, s, g, fm, hm, so, si, sh, ce, ca, td, wa, kp, la, bf, oo, bo, pw, ow, tr), (im, lf, s, d, k, ls, rf, rz, ra, rn, rq, lt, m1, m2, m3, m4, bd, (fc.set 3 ((fc.getD 3 0) + (nI 1))), hd, sz, el, s, g, (fm.set 3 ((fm.getD 3 0) + (nI 1))), hm, so, si, sh, ce, ca, td, wa, kp, la, bf, oo, bo, pw, ow, tr), ?_, ?_, ?_⟩
            · show Ev ab_Z0 3 82 [.ref 0, .int (nI a1k), .int (nI a2k)] (ww im lf s d k ls rf rz ra rn rq lt m1 m2 m3 m4 bd fc hd sz el s g fm hm so si sh ce ca td wa kp la bf oo bo pw ow tr) (some (.int (-3)), (ww im lf s d k ls rf rz ra rn rq lt m1 m2 m3 m4 bd (fc.set 3 ((fc.getD 3 0) + (nI 1))) hd sz el s g fm hm so si sh ce ca td wa kp la bf oo bo pw ow tr))
              refine Ef.in (md := mX5_says) (L := [some (.ref 0), some (.int (nI a1k)), some (.int (nI a2k)), none, none]) rfl (Nat.le_of_ble_eq_true rfl) rfl ?_
              refine E_iload_n at_X5_says_0 rfl ?_
              refine E_callS (v := some (.int (nI 1))) (As := [.int (nI a1k)]) (r0 := []) (cs2 := (ww im lf s d k ls rf rz ra rn rq lt m1 m2 m3 m4 bd fc hd sz el s g fm hm so si sh ce ca td wa kp la bf oo bo pw ow tr)) at_X5_says_1 rfl rfl (Nat.le_of_ble_eq_true rfl) rfl (L39_X5_isShelf (by omega) (by omega) (by omega)) (by decide) rfl ?_
              refine E_if (t := 14) (b := false) at_X5_says_4 rfl (by decide) ?_
              refine E_iload_n at_X5_says_7 rfl ?_
              refine E_callS (v := some (.int (nI 1))) (As := [.int (nI a2k)]) (r0 := []) (cs2 := (ww im lf s d k ls rf rz ra rn rq lt m1 m2 m3 m4 bd fc hd sz el s g fm hm so si sh ce ca td wa kp la bf oo bo pw ow tr)) at_X5_says_8 rfl rfl (Nat.le_of_ble_eq_true rfl) rfl (L57_X4_isKind (by omega) (by omega) (by omega)) (by decide) rfl ?_
              refine E_if (t := 20) (b := true) at_X5_says_11 rfl (by decide) ?_
              refine E_aload_n at_X5_says_20 rfl ?_
              refine E_getfield (v := .ref 31) at_X5_says_21 w0 rfl (by decide) rfl ?_
              refine E_iload_n at_X5_says_24 rfl ?_
              refine E_aalN (b := 49 + 2 * a1k) at_X5_says_25 w31 (by omega) (w_shs (by omega)) ?_
              refine E_astore_n (L2 := [some (.ref 0), some (.int (nI a1k)), some (.int (nI a2k)), some (.ref (49 + 2 * a1k)), none]) at_X5_says_26 rfl ?_
              refine E_aload_n at_X5_says_27 rfl ?_
              have e1 : Ev ab_Z0 1 32 [.ref (49 + 2 * a1k)] (ww im lf s d k ls rf rz ra rn rq lt m1 m2 m3 m4 bd fc hd sz el s g fm hm so si sh ce ca td wa kp la bf oo bo pw ow tr) (some (.int (nI 1)), (ww im lf s d k ls rf rz ra rn rq lt m1 m2 m3 m4 bd fc hd sz el s g fm hm so si sh ce ca td wa kp la bf oo bo pw ow tr)) := by
                refine Ef.in (md := mX3_isEmpty) (L := [some (.ref (49 + 2 * a1k))]) rfl (Nat.le_of_ble_eq_true rfl) rfl ?_
                refine E_aload_n at_X3_isEmpty_0 rfl ?_
                refine E_getfield (v := .int (-1)) at_X3_isEmpty_1 (w_shv (j := a1k) (by omega) u1 u2) rfl (by decide) rfl ?_
                refine E_iconst (x := (-1)) at_X3_isEmpty_4 (by decide) ?_
                refine E_ic (t := 12) (b := false) at_X3_isEmpty_5 rfl (by decide) ?_
                refine E_iconst (x := nI 1) at_X3_isEmpty_8 (by decide) ?_
                refine E_goto (t := 13) at_X3_isEmpty_9 rfl ?_
                exact E_iret at_X3_isEmpty_13 rfl
              refine E_callV (v := some (.int (nI 1))) (As := [.ref (49 + 2 * a1k)]) (r0 := []) (cs2 := (ww im lf s d k ls rf rz ra rn rq lt m1 m2 m3 m4 bd fc hd sz el s g fm hm so si sh ce ca td wa kp la bf oo bo pw ow tr)) at_X5_says_28 rfl rfl (Nat.le_of_ble_eq_true rfl) rfl (ab_rvOf (w_shv (j := a1k) (by omega) u1 u2) rfl) e1 (by decide) rfl ?_
              refine E_if (t := 40) (b := false) at_X5_says_31 rfl (by decide) ?_
              refine E_aload_n rfl rfl ?_
              refine E_iconst (x := nI 3) rfl (by decide) ?_
              refine E_callV (v := some (.int (-3))) (As := [.ref 0, .int (nI 3)]) (r0 := []) (cs2 := (ww im lf s d k ls rf rz ra rn rq lt m1 m2 m3 m4 bd (fc.set 3 ((fc.getD 3 0) + (nI 1))) hd sz el s g fm hm so si sh ce ca td wa kp la bf oo bo pw ow tr)) rfl rfl rfl (Nat.le_of_ble_eq_true rfl) rfl (ab_rvOf w0 rfl) (L52_X5_refuse (by omega)) (by decide) w_lens ?_
              exact E_iret rfl rfl
            · show Ev ab_Z0 2 141 [.ref 65, .int (nI a1k), .int (nI a2k)] (ww im lf s d k ls rf rz ra rn rq lt m1 m2 m3 m4 bd (fc.set 3 ((fc.getD 3 0) + (nI 1))) hd sz el s g fm hm so si sh ce ca td wa kp la bf oo bo pw ow tr) (some (.int (-3)), (ww im lf s d k ls rf rz ra rn rq lt m1 m2 m3 m4 bd (fc.set 3 ((fc.getD 3 0) + (nI 1))) hd sz el s g (fm.set 3 ((fm.getD 3 0) + (nI 1))) hm so si sh ce ca td wa kp la bf oo bo pw ow tr))
              refine Ef.in (md := mX6_says) (L := [some (.ref 65), some (.int (nI a1k)), some (.int (nI a2k)), none, none, none]) rfl (Nat.le_of_ble_eq_true rfl) rfl ?_
              refine E_aload_n at_X6_says_0 rfl ?_
              refine E_iload_n at_X6_says_1 rfl ?_
              refine E_callV (v := some (.int (nI 1))) (As := [.ref 65, .int (nI a1k)]) (r0 := []) (cs2 := (ww im lf s d k ls rf rz ra rn rq lt m1 m2 m3 m4 bd (fc.set 3 ((fc.getD 3 0) + (nI 1))) hd sz el s g fm hm so si sh ce ca td wa kp la bf oo bo pw ow tr)) at_X6_says_2 rfl rfl (Nat.le_of_ble_eq_true rfl) rfl (ab_rvOf w65 rfl) (L40_X6_isShelf (by omega) (by omega) (by omega)) (by decide) rfl ?_
              refine E_if (t := 18) (b := false) at_X6_says_5 rfl (by decide) ?_
              refine E_iload_n at_X6_says_8 rfl ?_
              refine E_if (t := 18) (b := false) at_X6_says_9 rfl ((cn_lt (nI_toInt (by omega)) (by decide : (0 : Int32).toInt = 0)).trans (decide_eq_false (by omega))) ?_
              refine E_iload_n at_X6_says_12 rfl ?_
              refine E_bipush (x := nI 6) at_X6_says_13 (by decide) ?_
              refine E_ic (t := 24) (b := true) at_X6_says_15 rfl ((cn_le (nI_toInt (by omega)) (nI_toInt (by omega))).trans (decide_eq_true (by omega))) ?_
              refine E_aload_n at_X6_says_24 rfl ?_
              refine E_getfield (v := .ref 76) at_X6_says_25 w65 rfl (by decide) rfl ?_
              refine E_iload_n at_X6_says_28 rfl ?_
              refine E_ialN (l := hm) (v := hm.getD a1k 0) at_X6_says_29 w76 (by omega) (by omega) rfl ?_
              refine E_iconst (x := nI 1) at_X6_says_30 (by decide) ?_
              refine E_ic (t := 41) (b := true) at_X6_says_31 rfl ((cn_ne (nI_toInt (by omega)) (nI_toInt (by omega))).trans (decide_eq_true (by omega))) ?_
              refine E_aload_n at_X6_says_41 rfl ?_
              refine E_getfield (v := .ref 76) at_X6_says_42 w65 rfl (by decide) rfl ?_
              refine E_iload_n at_X6_says_45 rfl ?_
              refine E_ialN (l := hm) (v := hm.getD a1k 0) at_X6_says_46 w76 (by omega) (by omega) rfl ?_
              refine E_if (t := 57) (b := false) at_X6_says_47 rfl ((cn_ne (nI_toInt (by omega)) (by decide : (0 : Int32).toInt = 0)).trans (decide_eq_false (by omega))) ?_
              refine E_aload_n rfl rfl ?_
              refine E_bipush (x := (-3)) rfl (by decide) ?_
              refine E_callV (v := some (.int (-3))) (As := [.ref 65, .int (-3)]) (r0 := []) (cs2 := (ww im lf s d k ls rf rz ra rn rq lt m1 m2 m3 m4 bd (fc.set 3 ((fc.getD 3 0) + (nI 1))) hd sz el s g (fm.set 3 ((fm.getD 3 0) + (nI 1))) hm so si sh ce ca td wa kp la bf oo bo pw ow tr)) rfl rfl rfl (Nat.le_of_ble_eq_true rfl) rfl (ab_rvOf w65 rfl) (L53_X6_no (by omega)) (by decide) w_lens ?_
              exact E_iret rfl rfl
            · exact ⟨I, rfl, hf, iQ, iM, iT, iS, l_el, (lr.1), (lr.2.1), (lr.2.2.1), (by simp only [List.length_set]; exact (lr.2.2.2.1)), (by simp only [List.length_set]; exact (lr.2.2.2.2.1)), (lr.2.2.2.2.2.1), (lr.2.2.2.2.2.2.1), (lr.2.2.2.2.2.2.2.1), (lr.2.2.2.2.2.2.2.2.1), (lr.2.2.2.2.2.2.2.2.2.1), (lr.2.2.2.2.2.2.2.2.2.2.1), (lr.2.2.2.2.2.2.2.2.2.2.2.1), (lr.2.2.2.2.2.2.2.2.2.2.2.2.1), (lr.2.2.2.2.2.2.2.2.2.2.2.2.2.1), (lr.2.2.2.2.2.2.2.2.2.2.2.2.2.2.1), (lr.2.2.2.2.2.2.2.2.2.2.2.2.2.2.2.1), (lr.2.2.2.2.2.2.2.2.2.2.2.2.2.2.2.2.1), (lr.2.2.2.2.2.2.2.2.2.2.2.2.2.2.2.2.2.1), (lr.2.2.2.2.2.2.2.2.2.2.2.2.2.2.2.2.2.2.1), (lr.2.2.2.2.2.2.2.2.2.2.2.2.2.2.2.2.2.2.2.1), (lr.2.2.2.2.2.2.2.2.2.2.2.2.2.2.2.2.2.2.2.2)⟩
          · by_cases f5 : (qOf ((qK s).getD xq 0) a2k) = 0
            · by_cases f6 : a2k = 1
              · subst f6
                by_cases f7 : (qOf ((qK s).getD xq 0) 1) = 0
                · by_cases f8 : ((qK s).getD xq 0) = 3
                  · have := I1 xq (by omega)
                    have := qOf_spec ((qK s).getD xq 0) 1
                    have := qHarm_in I (x := xq) (by omega)
                    exfalso; omega
                  · by_cases f9 : 1 = ((qK s).getD xq 0)
                    · have := I1 xq (by omega)
                      have := qOf_spec ((qK s).getD xq 0) 1
                      have := qHarm_in I (x := xq) (by omega)
                      exfalso; omega
                    · have := I1 xq (by omega)
                      have := qOf_spec ((qK s).getD xq 0) 1
                      refine ⟨(-2), (im, lf, s, d, k, ls, rf, rz, ra, rn, rq, lt, m1, m2, m3, m4, bd, (fc.set 2 ((fc.getD 2 0) + (nI 1))), hd, sz, el, s, g, fm, hm, so, si, sh, ce, ca, td, wa, kp, la, bf, oo, bo, pw, ow, tr), (im, lf, s, d, k, ls, rf, rz, ra, rn, rq, lt, m1, m2, m3, m4, bd, (fc.set 2 ((fc.getD 2 0) + (nI 1))), hd, sz, el, s, g, (fm.set 2 ((fm.getD 2 0) + (nI 1))), hm, so, si, sh, ce, ca, td, wa, kp, la, bf, oo, bo, pw, ow, tr), ?_, ?_, ?_⟩
                      · show Ev ab_Z0 3 82 [.ref 0, .int (nI a1k), .int (nI 1)] (ww im lf s d k ls rf rz ra rn rq lt m1 m2 m3 m4 bd fc hd sz el s g fm hm so si sh ce ca td wa kp la bf oo bo pw ow tr) (some (.int (-2)), (ww im lf s d k ls rf rz ra rn rq lt m1 m2 m3 m4 bd (fc.set 2 ((fc.getD 2 0) + (nI 1))) hd sz el s g fm hm so si sh ce ca td wa kp la bf oo bo pw ow tr))
                        refine Ef.in (md := mX5_says) (L := [some (.ref 0), some (.int (nI a1k)), some (.int (nI 1)), none, none]) rfl (Nat.le_of_ble_eq_true rfl) rfl ?_
                        refine E_iload_n at_X5_says_0 rfl ?_
                        refine E_callS (v := some (.int (nI 1))) (As := [.int (nI a1k)]) (r0 := []) (cs2 := (ww im lf s d k ls rf rz ra rn rq lt m1 m2 m3 m4 bd fc hd sz el s g fm hm so si sh ce ca td wa kp la bf oo bo pw ow tr)) at_X5_says_1 rfl rfl (Nat.le_of_ble_eq_true rfl) rfl (L39_X5_isShelf (by omega) (by omega) (by omega)) (by decide) rfl ?_
                        refine E_if (t := 14) (b := false) at_X5_says_4 rfl (by decide) ?_
                        refine E_iload_n at_X5_says_7 rfl ?_
                        refine E_callS (v := some (.int (nI 1))) (As := [.int (nI 1)]) (r0 := []) (cs2 := (ww im lf s d k ls rf rz ra rn rq lt m1 m2 m3 m4 bd fc hd sz el s g fm hm so si sh ce ca td wa kp la bf oo bo pw ow tr)) at_X5_says_8 rfl rfl (Nat.le_of_ble_eq_true rfl) rfl (L58_X4_isKind) (by decide) rfl ?_
                        refine E_if (t := 20) (b := true) at_X5_says_11 rfl (by decide) ?_
                        refine E_aload_n at_X5_says_20 rfl ?_
                        refine E_getfield (v := .ref 31) at_X5_says_21 w0 rfl (by decide) rfl ?_
                        refine E_iload_n at_X5_says_24 rfl ?_
                        refine E_aalN (b := 49 + 2 * a1k) at_X5_says_25 w31 (by omega) (w_shs (by omega)) ?_
                        refine E_astore_n (L2 := [some (.ref 0), some (.int (nI a1k)), some (.int (nI 1)), some (.ref (49 + 2 * a1k)), none]) at_X5_says_26 rfl ?_
                        refine E_aload_n at_X5_says_27 rfl ?_
                        have e1 : Ev ab_Z0 1 32 [.ref (49 + 2 * a1k)] (ww im lf s d k ls rf rz ra rn rq lt m1 m2 m3 m4 bd fc hd sz el s g fm hm so si sh ce ca td wa kp la bf oo bo pw ow tr) (some (.int (nI 0)), (ww im lf s d k ls rf rz ra rn rq lt m1 m2 m3 m4 bd fc hd sz el s g fm hm so si sh ce ca td wa kp la bf oo bo pw ow tr)) := by
                          refine Ef.in (md := mX3_isEmpty) (L := [some (.ref (49 + 2 * a1k))]) rfl (Nat.le_of_ble_eq_true rfl) rfl ?_
                          refine E_aload_n at_X3_isEmpty_0 rfl ?_
                          refine E_getfield (v := .int (nI xq)) at_X3_isEmpty_1 (w_shv (j := a1k) (by omega) u2 u3) rfl (by decide) rfl ?_
                          refine E_iconst (x := (-1)) at_X3_isEmpty_4 (by decide) ?_
                          refine E_ic (t := 12) (b := true) at_X3_isEmpty_5 rfl ((cn_ne (nI_toInt (by omega)) (by decide : (-1 : Int32).toInt = -1)).trans (decide_eq_true (by omega))) ?_
                          refine E_iconst (x := nI 0) at_X3_isEmpty_12 (by decide) ?_
                          exact E_iret at_X3_isEmpty_13 rfl
                        refine E_callV (v := some (.int (nI 0))) (As := [.ref (49 + 2 * a1k)]) (r0 := []) (cs2 := (ww im lf s d k ls rf rz ra rn rq lt m1 m2 m3 m4 bd fc hd sz el s g fm hm so si sh ce ca td wa kp la bf oo bo pw ow tr)) at_X5_says_28 rfl rfl (Nat.le_of_ble_eq_true rfl) rfl (ab_rvOf (w_shv (j := a1k) (by omega) u2 u3) rfl) e1 (by decide) rfl ?_
                        refine E_if (t := 40) (b := true) at_X5_says_31 rfl (by decide) ?_
                        refine E_aload_n at_X5_says_40 rfl ?_
                        refine E_getfield (v := .int (nI xq)) at_X5_says_41 (w_shv (j := a1k) (by omega) u2 u3) rfl (by decide) rfl ?_
                        refine E_istore (L2 := [some (.ref 0), some (.int (nI a1k)), some (.int (nI 1)), some (.ref (49 + 2 * a1k)), some (.int (nI xq))]) at_X5_says_44 rfl ?_
                        refine E_aload_n at_X5_says_46 rfl ?_
                        refine E_getfield (v := .ref 1) at_X5_says_47 w0 rfl (by decide) rfl ?_
                        refine E_iload at_X5_says_50 rfl ?_
                        refine E_callV (v := some (.int (nI 1))) (As := [.ref 1, .int (nI xq)]) (r0 := []) (cs2 := (ww im lf s d k ls rf rz ra rn rq lt m1 m2 m3 m4 bd fc hd sz el s g fm hm so si sh ce ca td wa kp la bf oo bo pw ow tr)) at_X5_says_52 rfl rfl (Nat.le_of_ble_eq_true rfl) rfl (ab_rvOf w1 rfl) (L15_X4_isPiece (by omega) (by omega) (by omega) (by omega)) (by decide) rfl ?_
                        refine E_if (t := 71) (b := false) at_X5_says_55 rfl (by decide) ?_
                        refine E_aload_n at_X5_says_58 rfl ?_
                        refine E_getfield (v := .ref 1) at_X5_says_59 w0 rfl (by decide) rfl ?_
                        refine E_iload at_X5_says_62 rfl ?_
                        refine E_iload_n at_X5_says_64 rfl ?_
                        refine E_callV (v := some (.int (nI (qOf ((qK s).getD xq 0) 1)))) (As := [.ref 1, .int (nI xq), .int (nI 1)]) (r0 := []) (cs2 := (ww im lf s d k ls rf rz ra rn rq lt m1 m2 m3 m4 bd fc hd sz el s g fm hm so si sh ce ca td wa kp la bf oo bo pw ow tr)) at_X5_says_65 rfl rfl (Nat.le_of_ble_eq_true rfl) rfl (ab_rvOf w1 rfl) (sq_isOfKind w_q1 I (w_none 0) (by omega) (by omega)) (by decide) rfl ?_
                        refine E_if (t := 77) (b := false) at_X5_says_68 rfl ((cn_ne (nI_toInt (by omega)) (by decide : (0 : Int32).toInt = 0)).trans (decide_eq_false (by omega))) ?_
                        refine E_aload_n at_X5_says_71 rfl ?_
                        refine E_iconst (x := nI 2) at_X5_says_72 (by decide) ?_
                        refine E_callV (v := some (.int (-2))) (As := [.ref 0, .int (nI 2)]) (r0 := []) (cs2 := (ww im lf s d k ls rf rz ra rn rq lt m1 m2 m3 m4 bd (fc.set 2 ((fc.getD 2 0) + (nI 1))) hd sz el s g fm hm so si sh ce ca td wa kp la bf oo bo pw ow tr)) at_X5_says_73 rfl rfl (Nat.le_of_ble_eq_true rfl) rfl (ab_rvOf w0 rfl) (L55_X5_refuse (by omega)) (by decide) w_lens ?_
                        exact E_iret at_X5_says_76 rfl
                      · show Ev ab_Z0 2 141 [.ref 65, .int (nI a1k), .int (nI 1)] (ww im lf s d k ls rf rz ra rn rq lt m1 m2 m3 m4 bd (fc.set 2 ((fc.getD 2 0) + (nI 1))) hd sz el s g fm hm so si sh ce ca td wa kp la bf oo bo pw ow tr) (some (.int (-2)), (ww im lf s d k ls rf rz ra rn rq lt m1 m2 m3 m4 bd (fc.set 2 ((fc.getD 2 0) + (nI 1))) hd sz el s g (fm.set 2 ((fm.getD 2 0) + (nI 1))) hm so si sh ce ca td wa kp la bf oo bo pw ow tr))
                        refine Ef.in (md := mX6_says) (L := [some (.ref 65), some (.int (nI a1k)), some (.int (nI 1)), none, none, none]) rfl (Nat.le_of_ble_eq_true rfl) rfl ?_
                        refine E_aload_n at_X6_says_0 rfl ?_
                        refine E_iload_n at_X6_says_1 rfl ?_
                        refine E_callV (v := some (.int (nI 1))) (As := [.ref 65, .int (nI a1k)]) (r0 := []) (cs2 := (ww im lf s d k ls rf rz ra rn rq lt m1 m2 m3 m4 bd (fc.set 2 ((fc.getD 2 0) + (nI 1))) hd sz el s g fm hm so si sh ce ca td wa kp la bf oo bo pw ow tr)) at_X6_says_2 rfl rfl (Nat.le_of_ble_eq_true rfl) rfl (ab_rvOf w65 rfl) (L40_X6_isShelf (by omega) (by omega) (by omega)) (by decide) rfl ?_
                        refine E_if (t := 18) (b := false) at_X6_says_5 rfl (by decide) ?_
                        refine E_iload_n at_X6_says_8 rfl ?_
                        refine E_if (t := 18) (b := false) at_X6_says_9 rfl (by decide) ?_
                        refine E_iload_n at_X6_says_12 rfl ?_
                        refine E_bipush (x := nI 6) at_X6_says_13 (by decide) ?_
                        refine E_ic (t := 24) (b := true) at_X6_says_15 rfl (by decide) ?_
                        refine E_aload_n at_X6_says_24 rfl ?_
                        refine E_getfield (v := .ref 76) at_X6_says_25 w65 rfl (by decide) rfl ?_
                        refine E_iload_n at_X6_says_28 rfl ?_
                        refine E_ialN (l := hm) (v := hm.getD a1k 0) at_X6_says_29 w76 (by omega) (by omega) rfl ?_
                        refine E_iconst (x := nI 1) at_X6_says_30 (by decide) ?_
                        refine E_ic (t := 41) (b := true) at_X6_says_31 rfl ((cn_ne (nI_toInt (by omega)) (nI_toInt (by omega))).trans (decide_eq_true (by omega))) ?_
                        refine E_aload_n at_X6_says_41 rfl ?_
                        refine E_getfield (v := .ref 76) at_X6_says_42 w65 rfl (by decide) rfl ?_
                        refine E_iload_n at_X6_says_45 rfl ?_
                        refine E_ialN (l := hm) (v := hm.getD a1k 0) at_X6_says_46 w76 (by omega) (by omega) rfl ?_
                        refine E_if (t := 57) (b := true) at_X6_says_47 rfl ((cn_ne (nI_toInt (by omega)) (by decide : (0 : Int32).toInt = 0)).trans (decide_eq_true (by omega))) ?_
                        refine E_aload_n at_X6_says_57 rfl ?_
                        refine E_getfield (v := .ref 79) at_X6_says_58 w65 rfl (by decide) rfl ?_
                        refine E_iload_n at_X6_says_61 rfl ?_
                        refine E_ialI (l := sh) (v := nI xq) at_X6_says_62 w79 (by omega) (by omega) u5 ?_
                        refine E_istore_n (L2 := [some (.ref 65), some (.int (nI a1k)), some (.int (nI 1)), some (.int (nI xq)), none, none]) at_X6_says_63 rfl ?_
                        refine E_aload_n at_X6_says_64 rfl ?_
                        refine E_getfield (v := .ref 67) at_X6_says_65 w65 rfl (by decide) rfl ?_
                        refine E_iload_n at_X6_says_68 rfl ?_
                        refine E_ialN (l := qK s) (v := (qK s).getD xq 0) at_X6_says_69 w67 (by omega) (by omega) rfl ?_
                        refine E_istore (L2 := [some (.ref 65), some (.int (nI a1k)), some (.int (nI 1)), some (.int (nI xq)), some (.int (nI ((qK s).getD xq 0))), none]) at_X6_says_70 rfl ?_
                        refine E_iload_n at_X6_says_72 rfl ?_
                        refine E_iconst (x := nI 1) at_X6_says_73 (by decide) ?_
                        refine E_ic (t := 83) (b := false) at_X6_says_74 rfl (by decide) ?_
                        refine E_iload at_X6_says_77 rfl ?_
                        refine E_iconst (x := nI 3) at_X6_says_79 (by decide) ?_
                        refine E_ic (t := 106) (b := false) at_X6_says_80 rfl ((cn_eq (nI_toInt (by omega)) (nI_toInt (by omega))).trans (decide_eq_false (by omega))) ?_
                        refine E_iload_n at_X6_says_83 rfl ?_
                        refine E_iconst (x := nI 2) at_X6_says_84 (by decide) ?_
                        refine E_ic (t := 94) (b := true) at_X6_says_85 rfl (by decide) ?_
                        refine E_iload_n at_X6_says_94 rfl ?_
                        refine E_iconst (x := nI 4) at_X6_says_95 (by decide) ?_
                        refine E_ic (t := 110) (b := true) at_X6_says_96 rfl (by decide) ?_
                        refine E_iconst (x := nI 0) at_X6_says_110 (by decide) ?_
                        refine E_istore (L2 := [some (.ref 65), some (.int (nI a1k)), some (.int (nI 1)), some (.int (nI xq)), some (.int (nI ((qK s).getD xq 0))), some (.int (nI 0))]) at_X6_says_111 rfl ?_
                        refine E_iload_n at_X6_says_113 rfl ?_
                        refine E_if (t := 135) (b := false) at_X6_says_114 rfl (by decide) ?_
                        refine E_iload_n at_X6_says_117 rfl ?_
                        refine E_iload at_X6_says_118 rfl ?_
                        refine E_ic (t := 135) (b := false) at_X6_says_120 rfl ((cn_eq (nI_toInt (by omega)) (nI_toInt (by omega))).trans (decide_eq_false (by omega))) ?_
                        refine E_iload at_X6_says_123 rfl ?_
                        refine E_if (t := 135) (b := false) at_X6_says_125 rfl (by decide) ?_
                        refine E_aload_n at_X6_says_128 rfl ?_
                        refine E_bipush (x := (-2)) at_X6_says_129 (by decide) ?_
                        refine E_callV (v := some (.int (-2))) (As := [.ref 65, .int (-2)]) (r0 := []) (cs2 := (ww im lf s d k ls rf rz ra rn rq lt m1 m2 m3 m4 bd (fc.set 2 ((fc.getD 2 0) + (nI 1))) hd sz el s g (fm.set 2 ((fm.getD 2 0) + (nI 1))) hm so si sh ce ca td wa kp la bf oo bo pw ow tr)) at_X6_says_131 rfl rfl (Nat.le_of_ble_eq_true rfl) rfl (ab_rvOf w65 rfl) (L56_X6_no (by omega)) (by decide) w_lens ?_
                        exact E_iret at_X6_says_134 rfl
                      · exact ⟨I, rfl, hf, iQ, iM, iT, iS, l_el, (lr.1), (lr.2.1), (lr.2.2.1), (by simp only [List.length_set]; exact (lr.2.2.2.1)), (by simp only [List.length_set]; exact (lr.2.2.2.2.1)), (lr.2.2.2.2.2.1), (lr.2.2.2.2.2.2.1), (lr.2.2.2.2.2.2.2.1), (lr.2.2.2.2.2.2.2.2.1), (lr.2.2.2.2.2.2.2.2.2.1), (lr.2.2.2.2.2.2.2.2.2.2.1), (lr.2.2.2.2.2.2.2.2.2.2.2.1), (lr.2.2.2.2.2.2.2.2.2.2.2.2.1), (lr.2.2.2.2.2.2.2.2.2.2.2.2.2.1), (lr.2.2.2.2.2.2.2.2.2.2.2.2.2.2.1), (lr.2.2.2.2.2.2.2.2.2.2.2.2.2.2.2.1), (lr.2.2.2.2.2.2.2.2.2.2.2.2.2.2.2.2.1), (lr.2.2.2.2.2.2.2.2.2.2.2.2.2.2.2.2.2.1), (lr.2.2.2.2.2.2.2.2.2.2.2.2.2.2.2.2.2.2.1), (lr.2.2.2.2.2.2.2.2.2.2.2.2.2.2.2.2.2.2.2.1), (lr.2.2.2.2.2.2.2.2.2.2.2.2.2.2.2.2.2.2.2.2)⟩
                · by_cases f8 : ((qK s).getD xq 0) = 3
                  · have := I1 xq (by omega)
                    have := qOf_spec ((qK s).getD xq 0) 1
                    have := qHarm_in I (x := xq) (by omega)
                    refine ⟨(nI (qHarm s xq)), (im, lf, s, d, k, ls, rf, rz, ra, rn, rq, lt, m1, m2, m3, m4, bd, fc, hd, sz, el, s, g, fm, hm, so, si, sh, ce, ca, td, wa, kp, la, bf, oo, bo, pw, ow, tr), (im, lf, s, d, k, ls, rf, rz, ra, rn, rq, lt, m1, m2, m3, m4, bd, fc, hd, sz, el, s, g, fm, hm, so, si, sh, ce, ca, td, wa, kp, la, bf, oo, bo, pw, ow, tr), ?_, ?_, ?_⟩
                    · show Ev ab_Z0 3 82 [.ref 0, .int (nI a1k), .int (nI 1)] (ww im lf s d k ls rf rz ra rn rq lt m1 m2 m3 m4 bd fc hd sz el s g fm hm so si sh ce ca td wa kp la bf oo bo pw ow tr) (some (.int (nI (qHarm s xq))), (ww im lf s d k ls rf rz ra rn rq lt m1 m2 m3 m4 bd fc hd sz el s g fm hm so si sh ce ca td wa kp la bf oo bo pw ow tr))
                      refine Ef.in (md := mX5_says) (L := [some (.ref 0), some (.int (nI a1k)), some (.int (nI 1)), none, none]) rfl (Nat.le_of_ble_eq_true rfl) rfl ?_
                      refine E_iload_n at_X5_says_0 rfl ?_
                      refine E_callS (v := some (.int (nI 1))) (As := [.int (nI a1k)]) (r0 := []) (cs2 := (ww im lf s d k ls rf rz ra rn rq lt m1 m2 m3 m4 bd fc hd sz el s g fm hm so si sh ce ca td wa kp la bf oo bo pw ow tr)) at_X5_says_1 rfl rfl (Nat.le_of_ble_eq_true rfl) rfl (L39_X5_isShelf (by omega) (by omega) (by omega)) (by decide) rfl ?_
                      refine E_if (t := 14) (b := false) at_X5_says_4 rfl (by decide) ?_
                      refine E_iload_n at_X5_says_7 rfl ?_
                      refine E_callS (v := some (.int (nI 1))) (As := [.int (nI 1)]) (r0 := []) (cs2 := (ww im lf s d k ls rf rz ra rn rq lt m1 m2 m3 m4 bd fc hd sz el s g fm hm so si sh ce ca td wa kp la bf oo bo pw ow tr)) at_X5_says_8 rfl rfl (Nat.le_of_ble_eq_true rfl) rfl (L58_X4_isKind) (by decide) rfl ?_
                      refine E_if (t := 20) (b := true) at_X5_says_11 rfl (by decide) ?_
                      refine E_aload_n at_X5_says_20 rfl ?_
                      refine E_getfield (v := .ref 31) at_X5_says_21 w0 rfl (by decide) rfl ?_
                      refine E_iload_n at_X5_says_24 rfl ?_
                      refine E_aalN (b := 49 + 2 * a1k) at_X5_says_25 w31 (by omega) (w_shs (by omega)) ?_
                      refine E_astore_n (L2 := [some (.ref 0), some (.int (nI a1k)), some (.int (nI 1)), some (.ref (49 + 2 * a1k)), none]) at_X5_says_26 rfl ?_
                      refine E_aload_n at_X5_says_27 rfl ?_
                      have e1 : Ev ab_Z0 1 32 [.ref (49 + 2 * a1k)] (ww im lf s d k ls rf rz ra rn rq lt m1 m2 m3 m4 bd fc hd sz el s g fm hm so si sh ce ca td wa kp la bf oo bo pw ow tr) (some (.int (nI 0)), (ww im lf s d k ls rf rz ra rn rq lt m1 m2 m3 m4 bd fc hd sz el s g fm hm so si sh ce ca td wa kp la bf oo bo pw ow tr)) := by
                        refine Ef.in (md := mX3_isEmpty) (L := [some (.ref (49 + 2 * a1k))]) rfl (Nat.le_of_ble_eq_true rfl) rfl ?_
                        refine E_aload_n at_X3_isEmpty_0 rfl ?_
                        refine E_getfield (v := .int (nI xq)) at_X3_isEmpty_1 (w_shv (j := a1k) (by omega) u2 u3) rfl (by decide) rfl ?_
                        refine E_iconst (x := (-1)) at_X3_isEmpty_4 (by decide) ?_
                        refine E_ic (t := 12) (b := true) at_X3_isEmpty_5 rfl ((cn_ne (nI_toInt (by omega)) (by decide : (-1 : Int32).toInt = -1)).trans (decide_eq_true (by omega))) ?_
                        refine E_iconst (x := nI 0) at_X3_isEmpty_12 (by decide) ?_
                        exact E_iret at_X3_isEmpty_13 rfl
                      refine E_callV (v := some (.int (nI 0))) (As := [.ref (49 + 2 * a1k)]) (r0 := []) (cs2 := (ww im lf s d k ls rf rz ra rn rq lt m1 m2 m3 m4 bd fc hd sz el s g fm hm so si sh ce ca td wa kp la bf oo bo pw ow tr)) at_X5_says_28 rfl rfl (Nat.le_of_ble_eq_true rfl) rfl (ab_rvOf (w_shv (j := a1k) (by omega) u2 u3) rfl) e1 (by decide) rfl ?_
                      refine E_if (t := 40) (b := true) at_X5_says_31 rfl (by decide) ?_
                      refine E_aload_n at_X5_says_40 rfl ?_
                      refine E_getfield (v := .int (nI xq)) at_X5_says_41 (w_shv (j := a1k) (by omega) u2 u3) rfl (by decide) rfl ?_
                      refine E_istore (L2 := [some (.ref 0), some (.int (nI a1k)), some (.int (nI 1)), some (.ref (49 + 2 * a1k)), some (.int (nI xq))]) at_X5_says_44 rfl ?_
                      refine E_aload_n at_X5_says_46 rfl ?_
                      refine E_getfield (v := .ref 1) at_X5_says_47 w0 rfl (by decide) rfl ?_
                      refine E_iload at_X5_says_50 rfl ?_
                      refine E_callV (v := some (.int (nI 1))) (As := [.ref 1, .int (nI xq)]) (r0 := []) (cs2 := (ww im lf s d k ls rf rz ra rn rq lt m1 m2 m3 m4 bd fc hd sz el s g fm hm so si sh ce ca td wa kp la bf oo bo pw ow tr)) at_X5_says_52 rfl rfl (Nat.le_of_ble_eq_true rfl) rfl (ab_rvOf w1 rfl) (L15_X4_isPiece (by omega) (by omega) (by omega) (by omega)) (by decide) rfl ?_
                      refine E_if (t := 71) (b := false) at_X5_says_55 rfl (by decide) ?_
                      refine E_aload_n at_X5_says_58 rfl ?_
                      refine E_getfield (v := .ref 1) at_X5_says_59 w0 rfl (by decide) rfl ?_
                      refine E_iload at_X5_says_62 rfl ?_
                      refine E_iload_n at_X5_says_64 rfl ?_
                      refine E_callV (v := some (.int (nI (qOf ((qK s).getD xq 0) 1)))) (As := [.ref 1, .int (nI xq), .int (nI 1)]) (r0 := []) (cs2 := (ww im lf s d k ls rf rz ra rn rq lt m1 m2 m3 m4 bd fc hd sz el s g fm hm so si sh ce ca td wa kp la bf oo bo pw ow tr)) at_X5_says_65 rfl rfl (Nat.le_of_ble_eq_true rfl) rfl (ab_rvOf w1 rfl) (sq_isOfKind w_q1 I (w_none 0) (by omega) (by omega)) (by decide) rfl ?_
                      refine E_if (t := 77) (b := true) at_X5_says_68 rfl ((cn_ne (nI_toInt (by omega)) (by decide : (0 : Int32).toInt = 0)).trans (decide_eq_true (by omega))) ?_
                      refine E_iload_n at_X5_says_77 rfl ?_
                      refine E_tsIn (off := 49) (t := 127) at_X5_says_78 (by decide) rfl rfl ?_
                      refine E_aload_n at_X5_says_127 rfl ?_
                      refine E_getfield (v := .ref 1) at_X5_says_128 w0 rfl (by decide) rfl ?_
                      refine E_iload at_X5_says_131 rfl ?_
                      refine E_callV (v := some (.int (nI (qHarm s xq)))) (As := [.ref 1, .int (nI xq)]) (r0 := []) (cs2 := (ww im lf s d k ls rf rz ra rn rq lt m1 m2 m3 m4 bd fc hd sz el s g fm hm so si sh ce ca td wa kp la bf oo bo pw ow tr)) at_X5_says_133 rfl rfl (Nat.le_of_ble_eq_true rfl) rfl (ab_rvOf w1 rfl) (sq_harmOf w_q1 I (by omega)) (by decide) rfl ?_
                      exact E_iret at_X5_says_136 rfl
                    · show Ev ab_Z0 2 141 [.ref 65, .int (nI a1k), .int (nI 1)] (ww im lf s d k ls rf rz ra rn rq lt m1 m2 m3 m4 bd fc hd sz el s g fm hm so si sh ce ca td wa kp la bf oo bo pw ow tr) (some (.int (nI (qHarm s xq))), (ww im lf s d k ls rf rz ra rn rq lt m1 m2 m3 m4 bd fc hd sz el s g fm hm so si sh ce ca td wa kp la bf oo bo pw ow tr))
                      refine Ef.in (md := mX6_says) (L := [some (.ref 65), some (.int (nI a1k)), some (.int (nI 1)), none, none, none]) rfl (Nat.le_of_ble_eq_true rfl) rfl ?_
                      refine E_aload_n at_X6_says_0 rfl ?_
                      refine E_iload_n at_X6_says_1 rfl ?_
                      refine E_callV (v := some (.int (nI 1))) (As := [.ref 65, .int (nI a1k)]) (r0 := []) (cs2 := (ww im lf s d k ls rf rz ra rn rq lt m1 m2 m3 m4 bd fc hd sz el s g fm hm so si sh ce ca td wa kp la bf oo bo pw ow tr)) at_X6_says_2 rfl rfl (Nat.le_of_ble_eq_true rfl) rfl (ab_rvOf w65 rfl) (L40_X6_isShelf (by omega) (by omega) (by omega)) (by decide) rfl ?_
                      refine E_if (t := 18) (b := false) at_X6_says_5 rfl (by decide) ?_
                      refine E_iload_n at_X6_says_8 rfl ?_
                      refine E_if (t := 18) (b := false) at_X6_says_9 rfl (by decide) ?_
                      refine E_iload_n at_X6_says_12 rfl ?_
                      refine E_bipush (x := nI 6) at_X6_says_13 (by decide) ?_
                      refine E_ic (t := 24) (b := true) at_X6_says_15 rfl (by decide) ?_
                      refine E_aload_n at_X6_says_24 rfl ?_
                      refine E_getfield (v := .ref 76) at_X6_says_25 w65 rfl (by decide) rfl ?_
                      refine E_iload_n at_X6_says_28 rfl ?_
                      refine E_ialN (l := hm) (v := hm.getD a1k 0) at_X6_says_29 w76 (by omega) (by omega) rfl ?_
                      refine E_iconst (x := nI 1) at_X6_says_30 (by decide) ?_
                      refine E_ic (t := 41) (b := true) at_X6_says_31 rfl ((cn_ne (nI_toInt (by omega)) (nI_toInt (by omega))).trans (decide_eq_true (by omega))) ?_
                      refine E_aload_n at_X6_says_41 rfl ?_
                      refine E_getfield (v := .ref 76) at_X6_says_42 w65 rfl (by decide) rfl ?_
                      refine E_iload_n at_X6_says_45 rfl ?_
                      refine E_ialN (l := hm) (v := hm.getD a1k 0) at_X6_says_46 w76 (by omega) (by omega) rfl ?_
                      refine E_if (t := 57) (b := true) at_X6_says_47 rfl ((cn_ne (nI_toInt (by omega)) (by decide : (0 : Int32).toInt = 0)).trans (decide_eq_true (by omega))) ?_
                      refine E_aload_n at_X6_says_57 rfl ?_
                      refine E_getfield (v := .ref 79) at_X6_says_58 w65 rfl (by decide) rfl ?_
                      refine E_iload_n at_X6_says_61 rfl ?_
                      refine E_ialI (l := sh) (v := nI xq) at_X6_says_62 w79 (by omega) (by omega) u5 ?_
                      refine E_istore_n (L2 := [some (.ref 65), some (.int (nI a1k)), some (.int (nI 1)), some (.int (nI xq)), none, none]) at_X6_says_63 rfl ?_
                      refine E_aload_n at_X6_says_64 rfl ?_
                      refine E_getfield (v := .ref 67) at_X6_says_65 w65 rfl (by decide) rfl ?_
                      refine E_iload_n at_X6_says_68 rfl ?_
                      refine E_ialN (l := qK s) (v := (qK s).getD xq 0) at_X6_says_69 w67 (by omega) (by omega) rfl ?_
                      refine E_istore (L2 := [some (.ref 65), some (.int (nI a1k)), some (.int (nI 1)), some (.int (nI xq)), some (.int (nI ((qK s).getD xq 0))), none]) at_X6_says_70 rfl ?_
                      refine E_iload_n at_X6_says_72 rfl ?_
                      refine E_iconst (x := nI 1) at_X6_says_73 (by decide) ?_
                      refine E_ic (t := 83) (b := false) at_X6_says_74 rfl (by decide) ?_
                      refine E_iload at_X6_says_77 rfl ?_
                      refine E_iconst (x := nI 3) at_X6_says_79 (by decide) ?_
                      refine E_ic (t := 106) (b := true) at_X6_says_80 rfl ((cn_eq (nI_toInt (by omega)) (nI_toInt (by omega))).trans (decide_eq_true (by omega))) ?_
                      refine E_iconst (x := nI 1) at_X6_says_106 (by decide) ?_
                      refine E_goto (t := 111) at_X6_says_107 rfl ?_
                      refine E_istore (L2 := [some (.ref 65), some (.int (nI a1k)), some (.int (nI 1)), some (.int (nI xq)), some (.int (nI ((qK s).getD xq 0))), some (.int (nI 1))]) at_X6_says_111 rfl ?_
                      refine E_iload_n at_X6_says_113 rfl ?_
                      refine E_if (t := 135) (b := false) at_X6_says_114 rfl (by decide) ?_
                      refine E_iload_n at_X6_says_117 rfl ?_
                      refine E_iload at_X6_says_118 rfl ?_
                      refine E_ic (t := 135) (b := false) at_X6_says_120 rfl ((cn_eq (nI_toInt (by omega)) (nI_toInt (by omega))).trans (decide_eq_false (by omega))) ?_
                      refine E_iload at_X6_says_123 rfl ?_
                      refine E_if (t := 135) (b := true) at_X6_says_125 rfl (by decide) ?_
                      refine E_iload_n at_X6_says_135 rfl ?_
                      refine E_tsIn (off := 47) (t := 183) at_X6_says_136 (by decide) rfl rfl ?_
                      refine E_aload_n at_X6_says_183 rfl ?_
                      refine E_iload_n at_X6_says_184 rfl ?_
                      refine E_callV (v := some (.int (nI (qHarm s xq)))) (As := [.ref 65, .int (nI xq)]) (r0 := []) (cs2 := (ww im lf s d k ls rf rz ra rn rq lt m1 m2 m3 m4 bd fc hd sz el s g fm hm so si sh ce ca td wa kp la bf oo bo pw ow tr)) at_X6_says_185 rfl rfl (Nat.le_of_ble_eq_true rfl) rfl (ab_rvOf w65 rfl) (mo_harms w_m I (by omega)) (by decide) rfl ?_
                      exact E_iret at_X6_says_188 rfl
                    · exact ⟨I, rfl, hf, iQ, iM, iT, iS, l_el, (lr.1), (lr.2.1), (lr.2.2.1), (lr.2.2.2.1), (lr.2.2.2.2.1), (lr.2.2.2.2.2.1), (lr.2.2.2.2.2.2.1), (lr.2.2.2.2.2.2.2.1), (lr.2.2.2.2.2.2.2.2.1), (lr.2.2.2.2.2.2.2.2.2.1), (lr.2.2.2.2.2.2.2.2.2.2.1), (lr.2.2.2.2.2.2.2.2.2.2.2.1), (lr.2.2.2.2.2.2.2.2.2.2.2.2.1), (lr.2.2.2.2.2.2.2.2.2.2.2.2.2.1), (lr.2.2.2.2.2.2.2.2.2.2.2.2.2.2.1), (lr.2.2.2.2.2.2.2.2.2.2.2.2.2.2.2.1), (lr.2.2.2.2.2.2.2.2.2.2.2.2.2.2.2.2.1), (lr.2.2.2.2.2.2.2.2.2.2.2.2.2.2.2.2.2.1), (lr.2.2.2.2.2.2.2.2.2.2.2.2.2.2.2.2.2.2.1), (lr.2.2.2.2.2.2.2.2.2.2.2.2.2.2.2.2.2.2.2.1), (lr.2.2.2.2.2.2.2.2.2.2.2.2.2.2.2.2.2.2.2.2)⟩
                  · by_cases f9 : 1 = ((qK s).getD xq 0)
                    · have := I1 xq (by omega)
                      have := qOf_spec ((qK s).getD xq 0) 1
                      have := qHarm_in I (x := xq) (by omega)
                      refine ⟨(nI (qHarm s xq)), (im, lf, s, d, k, ls, rf, rz, ra, rn, rq, lt, m1, m2, m3, m4, bd, fc, hd, sz, el, s, g, fm, hm, so, si, sh, ce, ca, td, wa, kp, la, bf, oo, bo, pw, ow, tr), (im, lf, s, d, k, ls, rf, rz, ra, rn, rq, lt, m1, m2, m3, m4, bd, fc, hd, sz, el, s, g, fm, hm, so, si, sh, ce, ca, td, wa, kp, la, bf, oo, bo, pw, ow, tr), ?_, ?_, ?_⟩
                      · show Ev ab_Z0 3 82 [.ref 0, .int (nI a1k), .int (nI 1)] (ww im lf s d k ls rf rz ra rn rq lt m1 m2 m3 m4 bd fc hd sz el s g fm hm so si sh ce ca td wa kp la bf oo bo pw ow tr) (some (.int (nI (qHarm s xq))), (ww im lf s d k ls rf rz ra rn rq lt m1 m2 m3 m4 bd fc hd sz el s g fm hm so si sh ce ca td wa kp la bf oo bo pw ow tr))
                        refine Ef.in (md := mX5_says) (L := [some (.ref 0), some (.int (nI a1k)), some (.int (nI 1)), none, none]) rfl (Nat.le_of_ble_eq_true rfl) rfl ?_
                        refine E_iload_n at_X5_says_0 rfl ?_
                        refine E_callS (v := some (.int (nI 1))) (As := [.int (nI a1k)]) (r0 := []) (cs2 := (ww im lf s d k ls rf rz ra rn rq lt m1 m2 m3 m4 bd fc hd sz el s g fm hm so si sh ce ca td wa kp la bf oo bo pw ow tr)) at_X5_says_1 rfl rfl (Nat.le_of_ble_eq_true rfl) rfl (L39_X5_isShelf (by omega) (by omega) (by omega)) (by decide) rfl ?_
                        refine E_if (t := 14) (b := false) at_X5_says_4 rfl (by decide) ?_
                        refine E_iload_n at_X5_says_7 rfl ?_
                        refine E_callS (v := some (.int (nI 1))) (As := [.int (nI 1)]) (r0 := []) (cs2 := (ww im lf s d k ls rf rz ra rn rq lt m1 m2 m3 m4 bd fc hd sz el s g fm hm so si sh ce ca td wa kp la bf oo bo pw ow tr)) at_X5_says_8 rfl rfl (Nat.le_of_ble_eq_true rfl) rfl (L58_X4_isKind) (by decide) rfl ?_
                        refine E_if (t := 20) (b := true) at_X5_says_11 rfl (by decide) ?_
                        refine E_aload_n at_X5_says_20 rfl ?_
                        refine E_getfield (v := .ref 31) at_X5_says_21 w0 rfl (by decide) rfl ?_
                        refine E_iload_n at_X5_says_24 rfl ?_
                        refine E_aalN (b := 49 + 2 * a1k) at_X5_says_25 w31 (by omega) (w_shs (by omega)) ?_
                        refine E_astore_n (L2 := [some (.ref 0), some (.int (nI a1k)), some (.int (nI 1)), some (.ref (49 + 2 * a1k)), none]) at_X5_says_26 rfl ?_
                        refine E_aload_n at_X5_says_27 rfl ?_
                        have e1 : Ev ab_Z0 1 32 [.ref (49 + 2 * a1k)] (ww im lf s d k ls rf rz ra rn rq lt m1 m2 m3 m4 bd fc hd sz el s g fm hm so si sh ce ca td wa kp la bf oo bo pw ow tr) (some (.int (nI 0)), (ww im lf s d k ls rf rz ra rn rq lt m1 m2 m3 m4 bd fc hd sz el s g fm hm so si sh ce ca td wa kp la bf oo bo pw ow tr)) := by
                          refine Ef.in (md := mX3_isEmpty) (L := [some (.ref (49 + 2 * a1k))]) rfl (Nat.le_of_ble_eq_true rfl) rfl ?_
                          refine E_aload_n at_X3_isEmpty_0 rfl ?_
                          refine E_getfield (v := .int (nI xq)) at_X3_isEmpty_1 (w_shv (j := a1k) (by omega) u2 u3) rfl (by decide) rfl ?_
                          refine E_iconst (x := (-1)) at_X3_isEmpty_4 (by decide) ?_
                          refine E_ic (t := 12) (b := true) at_X3_isEmpty_5 rfl ((cn_ne (nI_toInt (by omega)) (by decide : (-1 : Int32).toInt = -1)).trans (decide_eq_true (by omega))) ?_
                          refine E_iconst (x := nI 0) at_X3_isEmpty_12 (by decide) ?_
                          exact E_iret at_X3_isEmpty_13 rfl
                        refine E_callV (v := some (.int (nI 0))) (As := [.ref (49 + 2 * a1k)]) (r0 := []) (cs2 := (ww im lf s d k ls rf rz ra rn rq lt m1 m2 m3 m4 bd fc hd sz el s g fm hm so si sh ce ca td wa kp la bf oo bo pw ow tr)) at_X5_says_28 rfl rfl (Nat.le_of_ble_eq_true rfl) rfl (ab_rvOf (w_shv (j := a1k) (by omega) u2 u3) rfl) e1 (by decide) rfl ?_
                        refine E_if (t := 40) (b := true) at_X5_says_31 rfl (by decide) ?_
                        refine E_aload_n at_X5_says_40 rfl ?_
                        refine E_getfield (v := .int (nI xq)) at_X5_says_41 (w_shv (j := a1k) (by omega) u2 u3) rfl (by decide) rfl ?_
                        refine E_istore (L2 := [some (.ref 0), some (.int (nI a1k)), some (.int (nI 1)), some (.ref (49 + 2 * a1k)), some (.int (nI xq))]) at_X5_says_44 rfl ?_
                        refine E_aload_n at_X5_says_46 rfl ?_
                        refine E_getfield (v := .ref 1) at_X5_says_47 w0 rfl (by decide) rfl ?_
                        refine E_iload at_X5_says_50 rfl ?_
                        refine E_callV (v := some (.int (nI 1))) (As := [.ref 1, .int (nI xq)]) (r0 := []) (cs2 := (ww im lf s d k ls rf rz ra rn rq lt m1 m2 m3 m4 bd fc hd sz el s g fm hm so si sh ce ca td wa kp la bf oo bo pw ow tr)) at_X5_says_52 rfl rfl (Nat.le_of_ble_eq_true rfl) rfl (ab_rvOf w1 rfl) (L15_X4_isPiece (by omega) (by omega) (by omega) (by omega)) (by decide) rfl ?_
                        refine E_if (t := 71) (b := false) at_X5_says_55 rfl (by decide) ?_
                        refine E_aload_n at_X5_says_58 rfl ?_
                        refine E_getfield (v := .ref 1) at_X5_says_59 w0 rfl (by decide) rfl ?_
                        refine E_iload at_X5_says_62 rfl ?_
                        refine E_iload_n at_X5_says_64 rfl ?_
                        refine E_callV (v := some (.int (nI (qOf ((qK s).getD xq 0) 1)))) (As := [.ref 1, .int (nI xq), .int (nI 1)]) (r0 := []) (cs2 := (ww im lf s d k ls rf rz ra rn rq lt m1 m2 m3 m4 bd fc hd sz el s g fm hm so si sh ce ca td wa kp la bf oo bo pw ow tr)) at_X5_says_65 rfl rfl (Nat.le_of_ble_eq_true rfl) rfl (ab_rvOf w1 rfl) (sq_isOfKind w_q1 I (w_none 0) (by omega) (by omega)) (by decide) rfl ?_
                        refine E_if (t := 77) (b := true) at_X5_says_68 rfl ((cn_ne (nI_toInt (by omega)) (by decide : (0 : Int32).toInt = 0)).trans (decide_eq_true (by omega))) ?_
                        refine E_iload_n at_X5_says_77 rfl ?_
                        refine E_tsIn (off := 49) (t := 127) at_X5_says_78 (by decide) rfl rfl ?_
                        refine E_aload_n at_X5_says_127 rfl ?_
                        refine E_getfield (v := .ref 1) at_X5_says_128 w0 rfl (by decide) rfl ?_
                        refine E_iload at_X5_says_131 rfl ?_
                        refine E_callV (v := some (.int (nI (qHarm s xq)))) (As := [.ref 1, .int (nI xq)]) (r0 := []) (cs2 := (ww im lf s d k ls rf rz ra rn rq lt m1 m2 m3 m4 bd fc hd sz el s g fm hm so si sh ce ca td wa kp la bf oo bo pw ow tr)) at_X5_says_133 rfl rfl (Nat.le_of_ble_eq_true rfl) rfl (ab_rvOf w1 rfl) (sq_harmOf w_q1 I (by omega)) (by decide) rfl ?_
                        exact E_iret at_X5_says_136 rfl
                      · show Ev ab_Z0 2 141 [.ref 65, .int (nI a1k), .int (nI 1)] (ww im lf s d k ls rf rz ra rn rq lt m1 m2 m3 m4 bd fc hd sz el s g fm hm so si sh ce ca td wa kp la bf oo bo pw ow tr) (some (.int (nI (qHarm s xq))), (ww im lf s d k ls rf rz ra rn rq lt m1 m2 m3 m4 bd fc hd sz el s g fm hm so si sh ce ca td wa kp la bf oo bo pw ow tr))
                        refine Ef.in (md := mX6_says) (L := [some (.ref 65), some (.int (nI a1k)), some (.int (nI 1)), none, none, none]) rfl (Nat.le_of_ble_eq_true rfl) rfl ?_
                        refine E_aload_n at_X6_says_0 rfl ?_
                        refine E_iload_n at_X6_says_1 rfl ?_
                        refine E_callV (v := some (.int (nI 1))) (As := [.ref 65, .int (nI a1k)]) (r0 := []) (cs2 := (ww im lf s d k ls rf rz ra rn rq lt m1 m2 m3 m4 bd fc hd sz el s g fm hm so si sh ce ca td wa kp la bf oo bo pw ow tr)) at_X6_says_2 rfl rfl (Nat.le_of_ble_eq_true rfl) rfl (ab_rvOf w65 rfl) (L40_X6_isShelf (by omega) (by omega) (by omega)) (by decide) rfl ?_
                        refine E_if (t := 18) (b := false) at_X6_says_5 rfl (by decide) ?_
                        refine E_iload_n at_X6_says_8 rfl ?_
                        refine E_if (t := 18) (b := false) at_X6_says_9 rfl (by decide) ?_
                        refine E_iload_n at_X6_says_12 rfl ?_
                        refine E_bipush (x := nI 6) at_X6_says_13 (by decide) ?_
                        refine E_ic (t := 24) (b := true) at_X6_says_15 rfl (by decide) ?_
                        refine E_aload_n at_X6_says_24 rfl ?_
                        refine E_getfield (v := .ref 76) at_X6_says_25 w65 rfl (by decide) rfl ?_
                        refine E_iload_n at_X6_says_28 rfl ?_
                        refine E_ialN (l := hm) (v := hm.getD a1k 0) at_X6_says_29 w76 (by omega) (by omega) rfl ?_
                        refine E_iconst (x := nI 1) at_X6_says_30 (by decide) ?_
                        refine E_ic (t := 41) (b := true) at_X6_says_31 rfl ((cn_ne (nI_toInt (by omega)) (nI_toInt (by omega))).trans (decide_eq_true (by omega))) ?_
                        refine E_aload_n at_X6_says_41 rfl ?_
                        refine E_getfield (v := .ref 76) at_X6_says_42 w65 rfl (by decide) rfl ?_
                        refine E_iload_n at_X6_says_45 rfl ?_
                        refine E_ialN (l := hm) (v := hm.getD a1k 0) at_X6_says_46 w76 (by omega) (by omega) rfl ?_
                        refine E_if (t := 57) (b := true) at_X6_says_47 rfl ((cn_ne (nI_toInt (by omega)) (by decide : (0 : Int32).toInt = 0)).trans (decide_eq_true (by omega))) ?_
                        refine E_aload_n at_X6_says_57 rfl ?_
                        refine E_getfield (v := .ref 79) at_X6_says_58 w65 rfl (by decide) rfl ?_
                        refine E_iload_n at_X6_says_61 rfl ?_
                        refine E_ialI (l := sh) (v := nI xq) at_X6_says_62 w79 (by omega) (by omega) u5 ?_
                        refine E_istore_n (L2 := [some (.ref 65), some (.int (nI a1k)), some (.int (nI 1)), some (.int (nI xq)), none, none]) at_X6_says_63 rfl ?_
                        refine E_aload_n at_X6_says_64 rfl ?_
                        refine E_getfield (v := .ref 67) at_X6_says_65 w65 rfl (by decide) rfl ?_
                        refine E_iload_n at_X6_says_68 rfl ?_
                        refine E_ialN (l := qK s) (v := (qK s).getD xq 0) at_X6_says_69 w67 (by omega) (by omega) rfl ?_
                        refine E_istore (L2 := [some (.ref 65), some (.int (nI a1k)), some (.int (nI 1)), some (.int (nI xq)), some (.int (nI ((qK s).getD xq 0))), none]) at_X6_says_70 rfl ?_
                        refine E_iload_n at_X6_says_72 rfl ?_
                        refine E_iconst (x := nI 1) at_X6_says_73 (by decide) ?_
                        refine E_ic (t := 83) (b := false) at_X6_says_74 rfl (by decide) ?_
                        refine E_iload at_X6_says_77 rfl ?_
                        refine E_iconst (x := nI 3) at_X6_says_79 (by decide) ?_
                        refine E_ic (t := 106) (b := false) at_X6_says_80 rfl ((cn_eq (nI_toInt (by omega)) (nI_toInt (by omega))).trans (decide_eq_false (by omega))) ?_
                        refine E_iload_n at_X6_says_83 rfl ?_
                        refine E_iconst (x := nI 2) at_X6_says_84 (by decide) ?_
                        refine E_ic (t := 94) (b := true) at_X6_says_85 rfl (by decide) ?_
                        refine E_iload_n at_X6_says_94 rfl ?_
                        refine E_iconst (x := nI 4) at_X6_says_95 (by decide) ?_
                        refine E_ic (t := 110) (b := true) at_X6_says_96 rfl (by decide) ?_
                        refine E_iconst (x := nI 0) at_X6_says_110 (by decide) ?_
                        refine E_istore (L2 := [some (.ref 65), some (.int (nI a1k)), some (.int (nI 1)), some (.int (nI xq)), some (.int (nI ((qK s).getD xq 0))), some (.int (nI 0))]) at_X6_says_111 rfl ?_
                        refine E_iload_n at_X6_says_113 rfl ?_
                        refine E_if (t := 135) (b := false) at_X6_says_114 rfl (by decide) ?_
                        refine E_iload_n at_X6_says_117 rfl ?_
                        refine E_iload at_X6_says_118 rfl ?_
                        refine E_ic (t := 135) (b := true) at_X6_says_120 rfl ((cn_eq (nI_toInt (by omega)) (nI_toInt (by omega))).trans (decide_eq_true (by omega))) ?_
                        refine E_iload_n at_X6_says_135 rfl ?_
                        refine E_tsIn (off := 47) (t := 183) at_X6_says_136 (by decide) rfl rfl ?_
                        refine E_aload_n at_X6_says_183 rfl ?_
                        refine E_iload_n at_X6_says_184 rfl ?_
                        refine E_callV (v := some (.int (nI (qHarm s xq)))) (As := [.ref 65, .int (nI xq)]) (r0 := []) (cs2 := (ww im lf s d k ls rf rz ra rn rq lt m1 m2 m3 m4 bd fc hd sz el s g fm hm so si sh ce ca td wa kp la bf oo bo pw ow tr)) at_X6_says_185 rfl rfl (Nat.le_of_ble_eq_true rfl) rfl (ab_rvOf w65 rfl) (mo_harms w_m I (by omega)) (by decide) rfl ?_
                        exact E_iret at_X6_says_188 rfl
                      · exact ⟨I, rfl, hf, iQ, iM, iT, iS, l_el, (lr.1), (lr.2.1), (lr.2.2.1), (lr.2.2.2.1), (lr.2.2.2.2.1), (lr.2.2.2.2.2.1), (lr.2.2.2.2.2.2.1), (lr.2.2.2.2.2.2.2.1), (lr.2.2.2.2.2.2.2.2.1), (lr.2.2.2.2.2.2.2.2.2.1), (lr.2.2.2.2.2.2.2.2.2.2.1), (lr.2.2.2.2.2.2.2.2.2.2.2.1), (lr.2.2.2.2.2.2.2.2.2.2.2.2.1), (lr.2.2.2.2.2.2.2.2.2.2.2.2.2.1), (lr.2.2.2.2.2.2.2.2.2.2.2.2.2.2.1), (lr.2.2.2.2.2.2.2.2.2.2.2.2.2.2.2.1), (lr.2.2.2.2.2.2.2.2.2.2.2.2.2.2.2.2.1), (lr.2.2.2.2.2.2.2.2.2.2.2.2.2.2.2.2.2.1), (lr.2.2.2.2.2.2.2.2.2.2.2.2.2.2.2.2.2.2.1), (lr.2.2.2.2.2.2.2.2.2.2.2.2.2.2.2.2.2.2.2.1), (lr.2.2.2.2.2.2.2.2.2.2.2.2.2.2.2.2.2.2.2.2)⟩
                    · have := I1 xq (by omega)
                      have := qOf_spec ((qK s).getD xq 0) 1
                      have := qHarm_in I (x := xq) (by omega)
                      exfalso; omega
              · by_cases f7 : a2k = 2
                · subst f7
                  by_cases f8 : (qOf ((qK s).getD xq 0) 2) = 0
                  · by_cases f9 : ((qK s).getD xq 0) = 5
                    · have := I1 xq (by omega)
                      have := qOf_spec ((qK s).getD xq 0) 2
                      have := qWorth_in I (x := xq) (by omega)
                      exfalso; omega
                    · by_cases f10 : 2 = ((qK s).getD xq 0)
                      · have := I1 xq (by omega)
                        have := qOf_spec ((qK s).getD xq 0) 2
                        have := qWorth_in I (x := xq) (by omega)
                        exfalso; omega
                      · have := I1 xq (by omega)
                        have := qOf_spec ((qK s).getD xq 0) 2
                        refine ⟨(-2), (im, lf, s, d, k, ls, rf, rz, ra, rn, rq, lt, m1, m2, m3, m4, bd, (fc.set 2 ((fc.getD 2 0) + (nI 1))), hd, sz, el, s, g, fm, hm, so, si, sh, ce, ca, td, wa, kp, la, bf, oo, bo, pw, ow, tr), (im, lf, s, d, k, ls, rf, rz, ra, rn, rq, lt, m1, m2, m3, m4, bd, (fc.set 2 ((fc.getD 2 0) + (nI 1))), hd, sz, el, s, g, (fm.set 2 ((fm.getD 2 0) + (nI 1))), hm, so, si, sh, ce, ca, td, wa, kp, la, bf, oo, bo, pw, ow, tr), ?_, ?_, ?_⟩
                        · show Ev ab_Z0 3 82 [.ref 0, .int (nI a1k), .int (nI 2)] (ww im lf s d k ls rf rz ra rn rq lt m1 m2 m3 m4 bd fc hd sz el s g fm hm so si sh ce ca td wa kp la bf oo bo pw ow tr) (some (.int (-2)), (ww im lf s d k ls rf rz ra rn rq lt m1 m2 m3 m4 bd (fc.set 2 ((fc.getD 2 0) + (nI 1))) hd sz el s g fm hm so si sh ce ca td wa kp la bf oo bo pw ow tr))
                          refine Ef.in (md := mX5_says) (L := [some (.ref 0), some (.int (nI a1k)), some (.int (nI 2)), none, none]) rfl (Nat.le_of_ble_eq_true rfl) rfl ?_
                          refine E_iload_n at_X5_says_0 rfl ?_
                          refine E_callS (v := some (.int (nI 1))) (As := [.int (nI a1k)]) (r0 := []) (cs2 := (ww im lf s d k ls rf rz ra rn rq lt m1 m2 m3 m4 bd fc hd sz el s g fm hm so si sh ce ca td wa kp la bf oo bo pw ow tr)) at_X5_says_1 rfl rfl (Nat.le_of_ble_eq_true rfl) rfl (L39_X5_isShelf (by omega) (by omega) (by omega)) (by decide) rfl ?_
                          refine E_if (t := 14) (b := false) at_X5_says_4 rfl (by decide) ?_
                          refine E_iload_n at_X5_says_7 rfl ?_
                          refine E_callS (v := some (.int (nI 1))) (As := [.int (nI 2)]) (r0 := []) (cs2 := (ww im lf s d k ls rf rz ra rn rq lt m1 m2 m3 m4 bd fc hd sz el s g fm hm so si sh ce ca td wa kp la bf oo bo pw ow tr)) at_X5_says_8 rfl rfl (Nat.le_of_ble_eq_true rfl) rfl (L59_X4_isKind) (by decide) rfl ?_
                          refine E_if (t := 20) (b := true) at_X5_says_11 rfl (by decide) ?_
                          refine E_aload_n at_X5_says_20 rfl ?_
                          refine E_getfield (v := .ref 31) at_X5_says_21 w0 rfl (by decide) rfl ?_
                          refine E_iload_n at_X5_says_24 rfl ?_
                          refine E_aalN (b := 49 + 2 * a1k) at_X5_says_25 w31 (by omega) (w_shs (by omega)) ?_
                          refine E_astore_n (L2 := [some (.ref 0), some (.int (nI a1k)), some (.int (nI 2)), some (.ref (49 + 2 * a1k)), none]) at_X5_says_26 rfl ?_
                          refine E_aload_n at_X5_says_27 rfl ?_
                          have e1 : Ev ab_Z0 1 32 [.ref (49 + 2 * a1k)] (ww im lf s d k ls rf rz ra rn rq lt m1 m2 m3 m4 bd fc hd sz el s g fm hm so si sh ce ca td wa kp la bf oo bo pw ow tr) (some (.int (nI 0)), (ww im lf s d k ls rf rz ra rn rq lt m1 m2 m3 m4 bd fc hd sz el s g fm hm so si sh ce ca td wa kp la bf oo bo pw ow tr)) := by
                            refine Ef.in (md := mX3_isEmpty) (L := [some (.ref (49 + 2 * a1k))]) rfl (Nat.le_of_ble_eq_true rfl) rfl ?_
                            refine E_aload_n at_X3_isEmpty_0 rfl ?_
                            refine E_getfield (v := .int (nI xq)) at_X3_isEmpty_1 (w_shv (j := a1k) (by omega) u2 u3) rfl (by decide) rfl ?_
                            refine E_iconst (x := (-1)) at_X3_isEmpty_4 (by decide) ?_
                            refine E_ic (t := 12) (b := true) at_X3_isEmpty_5 rfl ((cn_ne (nI_toInt (by omega)) (by decide : (-1 : Int32).toInt = -1)).trans (decide_eq_true (by omega))) ?_
                            refine E_iconst (x := nI 0) at_X3_isEmpty_12 (by decide) ?_
                            exact E_iret at_X3_isEmpty_13 rfl
                          refine E_callV (v := some (.int (nI 0))) (As := [.ref (49 + 2 * a1k)]) (r0 := []) (cs2 := (ww im lf s d k ls rf rz ra rn rq lt m1 m2 m3 m4 bd fc hd sz el s g fm hm so si sh ce ca td wa kp la bf oo bo pw ow tr)) at_X5_says_28 rfl rfl (Nat.le_of_ble_eq_true rfl) rfl (ab_rvOf (w_shv (j := a1k) (by omega) u2 u3) rfl) e1 (by decide) rfl ?_
                          refine E_if (t := 40) (b := true) at_X5_says_31 rfl (by decide) ?_
                          refine E_aload_n at_X5_says_40 rfl ?_
                          refine E_getfield (v := .int (nI xq)) at_X5_says_41 (w_shv (j := a1k) (by omega) u2 u3) rfl (by decide) rfl ?_
                          refine E_istore (L2 := [some (.ref 0), some (.int (nI a1k)), some (.int (nI 2)), some (.ref (49 + 2 * a1k)), some (.int (nI xq))]) at_X5_says_44 rfl ?_
                          refine E_aload_n at_X5_says_46 rfl ?_
                          refine E_getfield (v := .ref 1) at_X5_says_47 w0 rfl (by decide) rfl ?_
                          refine E_iload at_X5_says_50 rfl ?_
                          refine E_callV (v := some (.int (nI 1))) (As := [.ref 1, .int (nI xq)]) (r0 := []) (cs2 := (ww im lf s d k ls rf rz ra rn rq lt m1 m2 m3 m4 bd fc hd sz el s g fm hm so si sh ce ca td wa kp la bf oo bo pw ow tr)) at_X5_says_52 rfl rfl (Nat.le_of_ble_eq_true rfl) rfl (ab_rvOf w1 rfl) (L15_X4_isPiece (by omega) (by omega) (by omega) (by omega)) (by decide) rfl ?_
                          refine E_if (t := 71) (b := false) at_X5_says_55 rfl (by decide) ?_
                          refine E_aload_n at_X5_says_58 rfl ?_
                          refine E_getfield (v := .ref 1) at_X5_says_59 w0 rfl (by decide) rfl ?_
                          refine E_iload at_X5_says_62 rfl ?_
                          refine E_iload_n at_X5_says_64 rfl ?_
                          refine E_callV (v := some (.int (nI (qOf ((qK s).getD xq 0) 2)))) (As := [.ref 1, .int (nI xq), .int (nI 2)]) (r0 := []) (cs2 := (ww im lf s d k ls rf rz ra rn rq lt m1 m2 m3 m4 bd fc hd sz el s g fm hm so si sh ce ca td wa kp la bf oo bo pw ow tr)) at_X5_says_65 rfl rfl (Nat.le_of_ble_eq_true rfl) rfl (ab_rvOf w1 rfl) (sq_isOfKind w_q1 I (w_none 0) (by omega) (by omega)) (by decide) rfl ?_
                          refine E_if (t := 77) (b := false) at_X5_says_68 rfl ((cn_ne (nI_toInt (by omega)) (by decide : (0 : Int32).toInt = 0)).trans (decide_eq_false (by omega))) ?_
                          refine E_aload_n at_X5_says_71 rfl ?_
                          refine E_iconst (x := nI 2) at_X5_says_72 (by decide) ?_
                          refine E_callV (v := some (.int (-2))) (As := [.ref 0, .int (nI 2)]) (r0 := []) (cs2 := (ww im lf s d k ls rf rz ra rn rq lt m1 m2 m3 m4 bd (fc.set 2 ((fc.getD 2 0) + (nI 1))) hd sz el s g fm hm so si sh ce ca td wa kp la bf oo bo pw ow tr)) at_X5_says_73 rfl rfl (Nat.le_of_ble_eq_true rfl) rfl (ab_rvOf w0 rfl) (L55_X5_refuse (by omega)) (by decide) w_lens ?_
                          exact E_iret at_X5_says_76 rfl
                        · show Ev ab_Z0 2 141 [.ref 65, .int (nI a1k), .int (nI 2)] (ww im lf s d k ls rf rz ra rn rq lt m1 m2 m3 m4 bd (fc.set 2 ((fc.getD 2 0) + (nI 1))) hd sz el s g fm hm so si sh ce ca td wa kp la bf oo bo pw ow tr) (some (.int (-2)), (ww im lf s d k ls rf rz ra rn rq lt m1 m2 m3 m4 bd (fc.set 2 ((fc.getD 2 0) + (nI 1))) hd sz el s g (fm.set 2 ((fm.getD 2 0) + (nI 1))) hm so si sh ce ca td wa kp la bf oo bo pw ow tr))
                          refine Ef.in (md := mX6_says) (L := [some (.ref 65), some (.int (nI a1k)), some (.int (nI 2)), none, none, none]) rfl (Nat.le_of_ble_eq_true rfl) rfl ?_
                          refine E_aload_n at_X6_says_0 rfl ?_
                          refine E_iload_n at_X6_says_1 rfl ?_
                          refine E_callV (v := some (.int (nI 1))) (As := [.ref 65, .int (nI a1k)]) (r0 := []) (cs2 := (ww im lf s d k ls rf rz ra rn rq lt m1 m2 m3 m4 bd (fc.set 2 ((fc.getD 2 0) + (nI 1))) hd sz el s g fm hm so si sh ce ca td wa kp la bf oo bo pw ow tr)) at_X6_says_2 rfl rfl (Nat.le_of_ble_eq_true rfl) rfl (ab_rvOf w65 rfl) (L40_X6_isShelf (by omega) (by omega) (by omega)) (by decide) rfl ?_
                          refine E_if (t := 18) (b := false) at_X6_says_5 rfl (by decide) ?_
                          refine E_iload_n at_X6_says_8 rfl ?_
                          refine E_if (t := 18) (b := false) at_X6_says_9 rfl (by decide) ?_
                          refine E_iload_n at_X6_says_12 rfl ?_
                          refine E_bipush (x := nI 6) at_X6_says_13 (by decide) ?_
                          refine E_ic (t := 24) (b := true) at_X6_says_15 rfl (by decide) ?_
                          refine E_aload_n at_X6_says_24 rfl ?_
                          refine E_getfield (v := .ref 76) at_X6_says_25 w65 rfl (by decide) rfl ?_
                          refine E_iload_n at_X6_says_28 rfl ?_
                          refine E_ialN (l := hm) (v := hm.getD a1k 0) at_X6_says_29 w76 (by omega) (by omega) rfl ?_
                          refine E_iconst (x := nI 1) at_X6_says_30 (by decide) ?_
                          refine E_ic (t := 41) (b := true) at_X6_says_31 rfl ((cn_ne (nI_toInt (by omega)) (nI_toInt (by omega))).trans (decide_eq_true (by omega))) ?_
                          refine E_aload_n at_X6_says_41 rfl ?_
                          refine E_getfield (v := .ref 76) at_X6_says_42 w65 rfl (by decide) rfl ?_
                          refine E_iload_n at_X6_says_45 rfl ?_
                          refine E_ialN (l := hm) (v := hm.getD a1k 0) at_X6_says_46 w76 (by omega) (by omega) rfl ?_
                          refine E_if (t := 57) (b := true) at_X6_says_47 rfl ((cn_ne (nI_toInt (by omega)) (by decide : (0 : Int32).toInt = 0)).trans (decide_eq_true (by omega))) ?_
                          refine E_aload_n at_X6_says_57 rfl ?_
                          refine E_getfield (v := .ref 79) at_X6_says_58 w65 rfl (by decide) rfl ?_
                          refine E_iload_n at_X6_says_61 rfl ?_
                          refine E_ialI (l := sh) (v := nI xq) at_X6_says_62 w79 (by omega) (by omega) u5 ?_
                          refine E_istore_n (L2 := [some (.ref 65), some (.int (nI a1k)), some (.int (nI 2)), some (.int (nI xq)), none, none]) at_X6_says_63 rfl ?_
                          refine E_aload_n at_X6_says_64 rfl ?_
                          refine E_getfield (v := .ref 67) at_X6_says_65 w65 rfl (by decide) rfl ?_
                          refine E_iload_n at_X6_says_68 rfl ?_
                          refine E_ialN (l := qK s) (v := (qK s).getD xq 0) at_X6_says_69 w67 (by omega) (by omega) rfl ?_
                          refine E_istore (L2 := [some (.ref 65), some (.int (nI a1k)), some (.int (nI 2)), some (.int (nI xq)), some (.int (nI ((qK s).getD xq 0))), none]) at_X6_says_70 rfl ?_
                          refine E_iload_n at_X6_says_72 rfl ?_
                          refine E_iconst (x := nI 1) at_X6_says_73 (by decide) ?_
                          refine E_ic (t := 83) (b := true) at_X6_says_74 rfl (by decide) ?_
                          refine E_iload_n at_X6_says_83 rfl ?_
                          refine E_iconst (x := nI 2) at_X6_says_84 (by decide) ?_
                          refine E_ic (t := 94) (b := false) at_X6_says_85 rfl (by decide) ?_
                          refine E_iload at_X6_says_88 rfl ?_
                          refine E_iconst (x := nI 5) at_X6_says_90 (by decide) ?_
                          refine E_ic (t := 106) (b := false) at_X6_says_91 rfl ((cn_eq (nI_toInt (by omega)) (nI_toInt (by omega))).trans (decide_eq_false (by omega))) ?_
                          refine E_iload_n at_X6_says_94 rfl ?_
                          refine E_iconst (x := nI 4) at_X6_says_95 (by decide) ?_
                          refine E_ic (t := 110) (b := true) at_X6_says_96 rfl (by decide) ?_
                          refine E_iconst (x := nI 0) at_X6_says_110 (by decide) ?_
                          refine E_istore (L2 := [some (.ref 65), some (.int (nI a1k)), some (.int (nI 2)), some (.int (nI xq)), some (.int (nI ((qK s).getD xq 0))), some (.int (nI 0))]) at_X6_says_111 rfl ?_
                          refine E_iload_n at_X6_says_113 rfl ?_
                          refine E_if (t := 135) (b := false) at_X6_says_114 rfl (by decide) ?_
                          refine E_iload_n at_X6_says_117 rfl ?_
                          refine E_iload at_X6_says_118 rfl ?_
                          refine E_ic (t := 135) (b := false) at_X6_says_120 rfl ((cn_eq (nI_toInt (by omega)) (nI_toInt (by omega))).trans (decide_eq_false (by omega))) ?_
                          refine E_iload at_X6_says_123 rfl ?_
                          refine E_if (t := 135) (b := false) at_X6_says_125 rfl (by decide) ?_
                          refine E_aload_n at_X6_says_128 rfl ?_
                          refine E_bipush (x := (-2)) at_X6_says_129 (by decide) ?_
                          refine E_callV (v := some (.int (-2))) (As := [.ref 65, .int (-2)]) (r0 := []) (cs2 := (ww im lf s d k ls rf rz ra rn rq lt m1 m2 m3 m4 bd (fc.set 2 ((fc.getD 2 0) + (nI 1))) hd sz el s g (fm.set 2 ((fm.getD 2 0) + (nI 1))) hm so si sh ce ca td wa kp la bf oo bo pw ow tr)) at_X6_says_131 rfl rfl (Nat.le_of_ble_eq_true rfl) rfl (ab_rvOf w65 rfl) (L56_X6_no (by omega)) (by decide) w_lens ?_
                          exact E_iret at_X6_says_134 rfl
                        · exact ⟨I, rfl, hf, iQ, iM, iT, iS, l_el, (lr.1), (lr.2.1), (lr.2.2.1), (by simp only [List.length_set]; exact (lr.2.2.2.1)), (by simp only [List.length_set]; exact (lr.2.2.2.2.1)), (lr.2.2.2.2.2.1), (lr.2.2.2.2.2.2.1), (lr.2.2.2.2.2.2.2.1), (lr.2.2.2.2.2.2.2.2.1), (lr.2.2.2.2.2.2.2.2.2.1), (lr.2.2.2.2.2.2.2.2.2.2.1), (lr.2.2.2.2.2.2.2.2.2.2.2.1), (lr.2.2.2.2.2.2.2.2.2.2.2.2.1), (lr.2.2.2.2.2.2.2.2.2.2.2.2.2.1), (lr.2.2.2.2.2.2.2.2.2.2.2.2.2.2.1), (lr.2.2.2.2.2.2.2.2.2.2.2.2.2.2.2.1), (lr.2.2.2.2.2.2.2.2.2.2.2.2.2.2.2.2.1), (lr.2.2.2.2.2.2.2.2.2.2.2.2.2.2.2.2.2.1), (lr.2.2.2.2.2.2.2.2.2.2.2.2.2.2.2.2.2.2.1), (lr.2.2.2.2.2.2.2.2.2.2.2.2.2.2.2.2.2.2.2.1), (lr.2.2.2.2.2.2.2.2.2.2.2.2.2.2.2.2.2.2.2.2)⟩
                  · by_cases f9 : ((qK s).getD xq 0) = 5
                    · have := I1 xq (by omega)
                      have := qOf_spec ((qK s).getD xq 0) 2
                      have := qWorth_in I (x := xq) (by omega)
                      refine ⟨(nI (qWorth s xq)), (im, lf, s, d, k, ls, rf, rz, ra, rn, rq, lt, m1, m2, m3, m4, bd, fc, hd, sz, el, s, g, fm, hm, so, si, sh, ce, ca, td, wa, kp, la, bf, oo, bo, pw, ow, tr), (im, lf, s, d, k, ls, rf, rz, ra, rn, rq, lt, m1, m2, m3, m4, bd, fc, hd, sz, el, s, g, fm, hm, so, si, sh, ce, ca, td, wa, kp, la, bf, oo, bo, pw, ow, tr), ?_, ?_, ?_⟩
                      · show Ev ab_Z0 3 82 [.ref 0, .int (nI a1k), .int (nI 2)] (ww im lf s d k ls rf rz ra rn rq lt m1 m2 m3 m4 bd fc hd sz el s g fm hm so si sh ce ca td wa kp la bf oo bo pw ow tr) (some (.int (nI (qWorth s xq))), (ww im lf s d k ls rf rz ra rn rq lt m1 m2 m3 m4 bd fc hd sz el s g fm hm so si sh ce ca td wa kp la bf oo bo pw ow tr))
                        refine Ef.in (md := mX5_says) (L := [some (.ref 0), some (.int (nI a1k)), some (.int (nI 2)), none, none]) rfl (Nat.le_of_ble_eq_true rfl) rfl ?_
                        refine E_iload_n at_X5_says_0 rfl ?_
                        refine E_callS (v := some (.int (nI 1))) (As := [.int (nI a1k)]) (r0 := []) (cs2 := (ww im lf s d k ls rf rz ra rn rq lt m1 m2 m3 m4 bd fc hd sz el s g fm hm so si sh ce ca td wa kp la bf oo bo pw ow tr)) at_X5_says_1 rfl rfl (Nat.le_of_ble_eq_true rfl) rfl (L39_X5_isShelf (by omega) (by omega) (by omega)) (by decide) rfl ?_
                        refine E_if (t := 14) (b := false) at_X5_says_4 rfl (by decide) ?_
                        refine E_iload_n at_X5_says_7 rfl ?_
                        refine E_callS (v := some (.int (nI 1))) (As := [.int (nI 2)]) (r0 := []) (cs2 := (ww im lf s d k ls rf rz ra rn rq lt m1 m2 m3 m4 bd fc hd sz el s g fm hm so si sh ce ca td wa kp la bf oo bo pw ow tr)) at_X5_says_8 rfl rfl (Nat.le_of_ble_eq_true rfl) rfl (L59_X4_isKind) (by decide) rfl ?_
                        refine E_if (t := 20) (b := true) at_X5_says_11 rfl (by decide) ?_
                        refine E_aload_n at_X5_says_20 rfl ?_
                        refine E_getfield (v := .ref 31) at_X5_says_21 w0 rfl (by decide) rfl ?_
                        refine E_iload_n at_X5_says_24 rfl ?_
                        refine E_aalN (b := 49 + 2 * a1k) at_X5_says_25 w31 (by omega) (w_shs (by omega)) ?_
                        refine E_astore_n (L2 := [some (.ref 0), some (.int (nI a1k)), some (.int (nI 2)), some (.ref (49 + 2 * a1k)), none]) at_X5_says_26 rfl ?_
                        refine E_aload_n at_X5_says_27 rfl ?_
                        have e1 : Ev ab_Z0 1 32 [.ref (49 + 2 * a1k)] (ww im lf s d k ls rf rz ra rn rq lt m1 m2 m3 m4 bd fc hd sz el s g fm hm so si sh ce ca td wa kp la bf oo bo pw ow tr) (some (.int (nI 0)), (ww im lf s d k ls rf rz ra rn rq lt m1 m2 m3 m4 bd fc hd sz el s g fm hm so si sh ce ca td wa kp la bf oo bo pw ow tr)) := by
                          refine Ef.in (md := mX3_isEmpty) (L := [some (.ref (49 + 2 * a1k))]) rfl (Nat.le_of_ble_eq_true rfl) rfl ?_
                          refine E_aload_n at_X3_isEmpty_0 rfl ?_
                          refine E_getfield (v := .int (nI xq)) at_X3_isEmpty_1 (w_shv (j := a1k) (by omega) u2 u3) rfl (by decide) rfl ?_
                          refine E_iconst (x := (-1)) at_X3_isEmpty_4 (by decide) ?_
                          refine E_ic (t := 12) (b := true) at_X3_isEmpty_5 rfl ((cn_ne (nI_toInt (by omega)) (by decide : (-1 : Int32).toInt = -1)).trans (decide_eq_true (by omega))) ?_
                          refine E_iconst (x := nI 0) at_X3_isEmpty_12 (by decide) ?_
                          exact E_iret at_X3_isEmpty_13 rfl
                        refine E_callV (v := some (.int (nI 0))) (As := [.ref (49 + 2 * a1k)]) (r0 := []) (cs2 := (ww im lf s d k ls rf rz ra rn rq lt m1 m2 m3 m4 bd fc hd sz el s g fm hm so si sh ce ca td wa kp la bf oo bo pw ow tr)) at_X5_says_28 rfl rfl (Nat.le_of_ble_eq_true rfl) rfl (ab_rvOf (w_shv (j := a1k) (by omega) u2 u3) rfl) e1 (by decide) rfl ?_
                        refine E_if (t := 40) (b := true) at_X5_says_31 rfl (by decide) ?_
                        refine E_aload_n at_X5_says_40 rfl ?_
                        refine E_getfield (v := .int (nI xq)) at_X5_says_41 (w_shv (j := a1k) (by omega) u2 u3) rfl (by decide) rfl ?_
                        refine E_istore (L2 := [some (.ref 0), some (.int (nI a1k)), some (.int (nI 2)), some (.ref (49 + 2 * a1k)), some (.int (nI xq))]) at_X5_says_44 rfl ?_
                        refine E_aload_n at_X5_says_46 rfl ?_
                        refine E_getfield (v := .ref 1) at_X5_says_47 w0 rfl (by decide) rfl ?_
                        refine E_iload at_X5_says_50 rfl ?_
                        refine E_callV (v := some (.int (nI 1))) (As := [.ref 1, .int (nI xq)]) (r0 := []) (cs2 := (ww im lf s d k ls rf rz ra rn rq lt m1 m2 m3 m4 bd fc hd sz el s g fm hm so si sh ce ca td wa kp la bf oo bo pw ow tr)) at_X5_says_52 rfl rfl (Nat.le_of_ble_eq_true rfl) rfl (ab_rvOf w1 rfl) (L15_X4_isPiece (by omega) (by omega) (by omega) (by omega)) (by decide) rfl ?_
                        refine E_if (t := 71) (b := false) at_X5_says_55 rfl (by decide) ?_
                        refine E_aload_n at_X5_says_58 rfl ?_
                        refine E_getfield (v := .ref 1) at_X5_says_59 w0 rfl (by decide) rfl ?_
                        refine E_iload at_X5_says_62 rfl ?_
                        refine E_iload_n at_X5_says_64 rfl ?_
                        refine E_callV (v := some (.int (nI (qOf ((qK s).getD xq 0) 2)))) (As := [.ref 1, .int (nI xq), .int (nI 2)]) (r0 := []) (cs2 := (ww im lf s d k ls rf rz ra rn rq lt m1 m2 m3 m4 bd fc hd sz el s g fm hm so si sh ce ca td wa kp la bf oo bo pw ow tr)) at_X5_says_65 rfl rfl (Nat.le_of_ble_eq_true rfl) rfl (ab_rvOf w1 rfl) (sq_isOfKind w_q1 I (w_none 0) (by omega) (by omega)) (by decide) rfl ?_
                        refine E_if (t := 77) (b := true) at_X5_says_68 rfl ((cn_ne (nI_toInt (by omega)) (by decide : (0 : Int32).toInt = 0)).trans (decide_eq_true (by omega))) ?_
                        refine E_iload_n at_X5_says_77 rfl ?_
                        refine E_tsIn (off := 59) (t := 137) at_X5_says_78 (by decide) rfl rfl ?_
                        refine E_aload_n at_X5_says_137 rfl ?_
                        refine E_getfield (v := .ref 1) at_X5_says_138 w0 rfl (by decide) rfl ?_
                        refine E_iload at_X5_says_141 rfl ?_
                        refine E_callV (v := some (.int (nI (qWorth s xq)))) (As := [.ref 1, .int (nI xq)]) (r0 := []) (cs2 := (ww im lf s d k ls rf rz ra rn rq lt m1 m2 m3 m4 bd fc hd sz el s g fm hm so si sh ce ca td wa kp la bf oo bo pw ow tr)) at_X5_says_143 rfl rfl (Nat.le_of_ble_eq_true rfl) rfl (ab_rvOf w1 rfl) (sq_worthOf w_q1 I (by omega)) (by decide) rfl ?_
                        exact E_iret at_X5_says_146 rfl
                      · show Ev ab_Z0 2 141 [.ref 65, .int (nI a1k), .int (nI 2)] (ww im lf s d k ls rf rz ra rn rq lt m1 m2 m3 m4 bd fc hd sz el s g fm hm so si sh ce ca td wa kp la bf oo bo pw ow tr) (some (.int (nI (qWorth s xq))), (ww im lf s d k ls rf rz ra rn rq lt m1 m2 m3 m4 bd fc hd sz el s g fm hm so si sh ce ca td wa kp la bf oo bo pw ow tr))
                        refine Ef.in (md := mX6_says) (L := [some (.ref 65), some (.int (nI a1k)), some (.int (nI 2)), none, none, none]) rfl (Nat.le_of_ble_eq_true rfl) rfl ?_
                        refine E_aload_n at_X6_says_0 rfl ?_
                        refine E_iload_n at_X6_says_1 rfl ?_
                        refine E_callV (v := some (.int (nI 1))) (As := [.ref 65, .int (nI a1k)]) (r0 := []) (cs2 := (ww im lf s d k ls rf rz ra rn rq lt m1 m2 m3 m4 bd fc hd sz el s g fm hm so si sh ce ca td wa kp la bf oo bo pw ow tr)) at_X6_says_2 rfl rfl (Nat.le_of_ble_eq_true rfl) rfl (ab_rvOf w65 rfl) (L40_X6_isShelf (by omega) (by omega) (by omega)) (by decide) rfl ?_
                        refine E_if (t := 18) (b := false) at_X6_says_5 rfl (by decide) ?_
                        refine E_iload_n at_X6_says_8 rfl ?_
                        refine E_if (t := 18) (b := false) at_X6_says_9 rfl (by decide) ?_
                        refine E_iload_n at_X6_says_12 rfl ?_
                        refine E_bipush (x := nI 6) at_X6_says_13 (by decide) ?_
                        refine E_ic (t := 24) (b := true) at_X6_says_15 rfl (by decide) ?_
                        refine E_aload_n at_X6_says_24 rfl ?_
                        refine E_getfield (v := .ref 76) at_X6_says_25 w65 rfl (by decide) rfl ?_
                        refine E_iload_n at_X6_says_28 rfl ?_
                        refine E_ialN (l := hm) (v := hm.getD a1k 0) at_X6_says_29 w76 (by omega) (by omega) rfl ?_
                        refine E_iconst (x := nI 1) at_X6_says_30 (by decide) ?_
                        refine E_ic (t := 41) (b := true) at_X6_says_31 rfl ((cn_ne (nI_toInt (by omega)) (nI_toInt (by omega))).trans (decide_eq_true (by omega))) ?_
                        refine E_aload_n at_X6_says_41 rfl ?_
                        refine E_getfield (v := .ref 76) at_X6_says_42 w65 rfl (by decide) rfl ?_
                        refine E_iload_n at_X6_says_45 rfl ?_
                        refine E_ialN (l := hm) (v := hm.getD a1k 0) at_X6_says_46 w76 (by omega) (by omega) rfl ?_
                        refine E_if (t := 57) (b := true) at_X6_says_47 rfl ((cn_ne (nI_toInt (by omega)) (by decide : (0 : Int32).toInt = 0)).trans (decide_eq_true (by omega))) ?_
                        refine E_aload_n at_X6_says_57 rfl ?_
                        refine E_getfield (v := .ref 79) at_X6_says_58 w65 rfl (by decide) rfl ?_
                        refine E_iload_n at_X6_says_61 rfl ?_
                        refine E_ialI (l := sh) (v := nI xq) at_X6_says_62 w79 (by omega) (by omega) u5 ?_
                        refine E_istore_n (L2 := [some (.ref 65), some (.int (nI a1k)), some (.int (nI 2)), some (.int (nI xq)), none, none]) at_X6_says_63 rfl ?_
                        refine E_aload_n at_X6_says_64 rfl ?_
                        refine E_getfield (v := .ref 67) at_X6_says_65 w65 rfl (by decide) rfl ?_
                        refine E_iload_n at_X6_says_68 rfl ?_
                        refine E_ialN (l := qK s) (v := (qK s).getD xq 0) at_X6_says_69 w67 (by omega) (by omega) rfl ?_
                        refine E_istore (L2 := [some (.ref 65), some (.int (nI a1k)), some (.int (nI 2)), some (.int (nI xq)), some (.int (nI ((qK s).getD xq 0))), none]) at_X6_says_70 rfl ?_
                        refine E_iload_n at_X6_says_72 rfl ?_
                        refine E_iconst (x := nI 1) at_X6_says_73 (by decide) ?_
                        refine E_ic (t := 83) (b := true) at_X6_says_74 rfl (by decide) ?_
                        refine E_iload_n at_X6_says_83 rfl ?_
                        refine E_iconst (x := nI 2) at_X6_says_84 (by decide) ?_
                        refine E_ic (t := 94) (b := false) at_X6_says_85 rfl (by decide) ?_
                        refine E_iload at_X6_says_88 rfl ?_
                        refine E_iconst (x := nI 5) at_X6_says_90 (by decide) ?_
                        refine E_ic (t := 106) (b := true) at_X6_says_91 rfl ((cn_eq (nI_toInt (by omega)) (nI_toInt (by omega))).trans (decide_eq_true (by omega))) ?_
                        refine E_iconst (x := nI 1) at_X6_says_106 (by decide) ?_
                        refine E_goto (t := 111) at_X6_says_107 rfl ?_
                        refine E_istore (L2 := [some (.ref 65), some (.int (nI a1k)), some (.int (nI 2)), some (.int (nI xq)), some (.int (nI ((qK s).getD xq 0))), some (.int (nI 1))]) at_X6_says_111 rfl ?_
                        refine E_iload_n at_X6_says_113 rfl ?_
                        refine E_if (t := 135) (b := false) at_X6_says_114 rfl (by decide) ?_
                        refine E_iload_n at_X6_says_117 rfl ?_
                        refine E_iload at_X6_says_118 rfl ?_
                        refine E_ic (t := 135) (b := false) at_X6_says_120 rfl ((cn_eq (nI_toInt (by omega)) (nI_toInt (by omega))).trans (decide_eq_false (by omega))) ?_
                        refine E_iload at_X6_says_123 rfl ?_
                        refine E_if (t := 135) (b := true) at_X6_says_125 rfl (by decide) ?_
                        refine E_iload_n at_X6_says_135 rfl ?_
                        refine E_tsIn (off := 53) (t := 189) at_X6_says_136 (by decide) rfl rfl ?_
                        refine E_aload_n at_X6_says_189 rfl ?_
                        refine E_iload_n at_X6_says_190 rfl ?_
                        refine E_callV (v := some (.int (nI (qWorth s xq)))) (As := [.ref 65, .int (nI xq)]) (r0 := []) (cs2 := (ww im lf s d k ls rf rz ra rn rq lt m1 m2 m3 m4 bd fc hd sz el s g fm hm so si sh ce ca td wa kp la bf oo bo pw ow tr)) at_X6_says_191 rfl rfl (Nat.le_of_ble_eq_true rfl) rfl (ab_rvOf w65 rfl) (mo_worth w_m I (by omega)) (by decide) rfl ?_
                        exact E_iret at_X6_says_194 rfl
                      · exact ⟨I, rfl, hf, iQ, iM, iT, iS, l_el, (lr.1), (lr.2.1), (lr.2.2.1), (lr.2.2.2.1), (lr.2.2.2.2.1), (lr.2.2.2.2.2.1), (lr.2.2.2.2.2.2.1), (lr.2.2.2.2.2.2.2.1), (lr.2.2.2.2.2.2.2.2.1), (lr.2.2.2.2.2.2.2.2.2.1), (lr.2.2.2.2.2.2.2.2.2.2.1), (lr.2.2.2.2.2.2.2.2.2.2.2.1), (lr.2.2.2.2.2.2.2.2.2.2.2.2.1), (lr.2.2.2.2.2.2.2.2.2.2.2.2.2.1), (lr.2.2.2.2.2.2.2.2.2.2.2.2.2.2.1), (lr.2.2.2.2.2.2.2.2.2.2.2.2.2.2.2.1), (lr.2.2.2.2.2.2.2.2.2.2.2.2.2.2.2.2.1), (lr.2.2.2.2.2.2.2.2.2.2.2.2.2.2.2.2.2.1), (lr.2.2.2.2.2.2.2.2.2.2.2.2.2.2.2.2.2.2.1), (lr.2.2.2.2.2.2.2.2.2.2.2.2.2.2.2.2.2.2.2.1), (lr.2.2.2.2.2.2.2.2.2.2.2.2.2.2.2.2.2.2.2.2)⟩
                    · by_cases f10 : 2 = ((qK s).getD xq 0)
                      · have := I1 xq (by omega)
                        have := qOf_spec ((qK s).getD xq 0) 2
                        have := qWorth_in I (x := xq) (by omega)
                        refine ⟨(nI (qWorth s xq)), (im, lf, s, d, k, ls, rf, rz, ra, rn, rq, lt, m1, m2, m3, m4, bd, fc, hd, sz, el, s, g, fm, hm, so, si, sh, ce, ca, td, wa, kp, la, bf, oo, bo, pw, ow, tr), (im, lf, s, d, k, ls, rf, rz, ra, rn, rq, lt, m1, m2, m3, m4, bd, fc, hd, sz, el, s, g, fm, hm, so, si, sh, ce, ca, td, wa, kp, la, bf, oo, bo, pw, ow, tr), ?_, ?_, ?_⟩
                        · show Ev ab_Z0 3 82 [.ref 0, .int (nI a1k), .int (nI 2)] (ww im lf s d k ls rf rz ra rn rq lt m1 m2 m3 m4 bd fc hd sz el s g fm hm so si sh ce ca td wa kp la bf oo bo pw ow tr) (some (.int (nI (qWorth s xq))), (ww im lf s d k ls rf rz ra rn rq lt m1 m2 m3 m4 bd fc hd sz el s g fm hm so si sh ce ca td wa kp la bf oo bo pw ow tr))
                          refine Ef.in (md := mX5_says) (L := [some (.ref 0), some (.int (nI a1k)), some (.int (nI 2)), none, none]) rfl (Nat.le_of_ble_eq_true rfl) rfl ?_
                          refine E_iload_n at_X5_says_0 rfl ?_
                          refine E_callS (v := some (.int (nI 1))) (As := [.int (nI a1k)]) (r0 := []) (cs2 := (ww im lf s d k ls rf rz ra rn rq lt m1 m2 m3 m4 bd fc hd sz el s g fm hm so si sh ce ca td wa kp la bf oo bo pw ow tr)) at_X5_says_1 rfl rfl (Nat.le_of_ble_eq_true rfl) rfl (L39_X5_isShelf (by omega) (by omega) (by omega)) (by decide) rfl ?_
                          refine E_if (t := 14) (b := false) at_X5_says_4 rfl (by decide) ?_
                          refine E_iload_n at_X5_says_7 rfl ?_
                          refine E_callS (v := some (.int (nI 1))) (As := [.int (nI 2)]) (r0 := []) (cs2 := (ww im lf s d k ls rf rz ra rn rq lt m1 m2 m3 m4 bd fc hd sz el s g fm hm so si sh ce ca td wa kp la bf oo bo pw ow tr)) at_X5_says_8 rfl rfl (Nat.le_of_ble_eq_true rfl) rfl (L59_X4_isKind) (by decide) rfl ?_
                          refine E_if (t := 20) (b := true) at_X5_says_11 rfl (by decide) ?_
                          refine E_aload_n at_X5_says_20 rfl ?_
                          refine E_getfield (v := .ref 31) at_X5_says_21 w0 rfl (by decide) rfl ?_
                          refine E_iload_n at_X5_says_24 rfl ?_
                          refine E_aalN (b := 49 + 2 * a1k) at_X5_says_25 w31 (by omega) (w_shs (by omega)) ?_
                          refine E_astore_n (L2 := [some (.ref 0), some (.int (nI a1k)), some (.int (nI 2)), some (.ref (49 + 2 * a1k)), none]) at_X5_says_26 rfl ?_
                          refine E_aload_n at_X5_says_27 rfl ?_
                          have e1 : Ev ab_Z0 1 32 [.ref (49 + 2 * a1k)] (ww im lf s d k ls rf rz ra rn rq lt m1 m2 m3 m4 bd fc hd sz el s g fm hm so si sh ce ca td wa kp la bf oo bo pw ow tr) (some (.int (nI 0)), (ww im lf s d k ls rf rz ra rn rq lt m1 m2 m3 m4 bd fc hd sz el s g fm hm so si sh ce ca td wa kp la bf oo bo pw ow tr)) := by
                            refine Ef.in (md := mX3_isEmpty) (L := [some (.ref (49 + 2 * a1k))]) rfl (Nat.le_of_ble_eq_true rfl) rfl ?_
                            refine E_aload_n at_X3_isEmpty_0 rfl ?_
                            refine E_getfield (v := .int (nI xq)) at_X3_isEmpty_1 (w_shv (j := a1k) (by omega) u2 u3) rfl (by decide) rfl ?_
                            refine E_iconst (x := (-1)) at_X3_isEmpty_4 (by decide) ?_
                            refine E_ic (t := 12) (b := true) at_X3_isEmpty_5 rfl ((cn_ne (nI_toInt (by omega)) (by decide : (-1 : Int32).toInt = -1)).trans (decide_eq_true (by omega))) ?_
                            refine E_iconst (x := nI 0) at_X3_isEmpty_12 (by decide) ?_
                            exact E_iret at_X3_isEmpty_13 rfl
                          refine E_callV (v := some (.int (nI 0))) (As := [.ref (49 + 2 * a1k)]) (r0 := []) (cs2 := (ww im lf s d k ls rf rz ra rn rq lt m1 m2 m3 m4 bd fc hd sz el s g fm hm so si sh ce ca td wa kp la bf oo bo pw ow tr)) at_X5_says_28 rfl rfl (Nat.le_of_ble_eq_true rfl) rfl (ab_rvOf (w_shv (j := a1k) (by omega) u2 u3) rfl) e1 (by decide) rfl ?_
                          refine E_if (t := 40) (b := true) at_X5_says_31 rfl (by decide) ?_
                          refine E_aload_n at_X5_says_40 rfl ?_
                          refine E_getfield (v := .int (nI xq)) at_X5_says_41 (w_shv (j := a1k) (by omega) u2 u3) rfl (by decide) rfl ?_
                          refine E_istore (L2 := [some (.ref 0), some (.int (nI a1k)), some (.int (nI 2)), some (.ref (49 + 2 * a1k)), some (.int (nI xq))]) at_X5_says_44 rfl ?_
                          refine E_aload_n at_X5_says_46 rfl ?_
                          refine E_getfield (v := .ref 1) at_X5_says_47 w0 rfl (by decide) rfl ?_
                          refine E_iload at_X5_says_50 rfl ?_
                          refine E_callV (v := some (.int (nI 1))) (As := [.ref 1, .int (nI xq)]) (r0 := []) (cs2 := (ww im lf s d k ls rf rz ra rn rq lt m1 m2 m3 m4 bd fc hd sz el s g fm hm so si sh ce ca td wa kp la bf oo bo pw ow tr)) at_X5_says_52 rfl rfl (Nat.le_of_ble_eq_true rfl) rfl (ab_rvOf w1 rfl) (L15_X4_isPiece (by omega) (by omega) (by omega) (by omega)) (by decide) rfl ?_
                          refine E_if (t := 71) (b := false) at_X5_says_55 rfl (by decide) ?_
                          refine E_aload_n at_X5_says_58 rfl ?_
                          refine E_getfield (v := .ref 1) at_X5_says_59 w0 rfl (by decide) rfl ?_
                          refine E_iload at_X5_says_62 rfl ?_
                          refine E_iload_n at_X5_says_64 rfl ?_
                          refine E_callV (v := some (.int (nI (qOf ((qK s).getD xq 0) 2)))) (As := [.ref 1, .int (nI xq), .int (nI 2)]) (r0 := []) (cs2 := (ww im lf s d k ls rf rz ra rn rq lt m1 m2 m3 m4 bd fc hd sz el s g fm hm so si sh ce ca td wa kp la bf oo bo pw ow tr)) at_X5_says_65 rfl rfl (Nat.le_of_ble_eq_true rfl) rfl (ab_rvOf w1 rfl) (sq_isOfKind w_q1 I (w_none 0) (by omega) (by omega)) (by decide) rfl ?_
                          refine E_if (t := 77) (b := true) at_X5_says_68 rfl ((cn_ne (nI_toInt (by omega)) (by decide : (0 : Int32).toInt = 0)).trans (decide_eq_true (by omega))) ?_
                          refine E_iload_n at_X5_says_77 rfl ?_
                          refine E_tsIn (off := 59) (t := 137) at_X5_says_78 (by decide) rfl rfl ?_
                          refine E_aload_n at_X5_says_137 rfl ?_
                          refine E_getfield (v := .ref 1) at_X5_says_138 w0 rfl (by decide) rfl ?_
                          refine E_iload at_X5_says_141 rfl ?_
                          refine E_callV (v := some (.int (nI (qWorth s xq)))) (As := [.ref 1, .int (nI xq)]) (r0 := []) (cs2 := (ww im lf s d k ls rf rz ra rn rq lt m1 m2 m3 m4 bd fc hd sz el s g fm hm so si sh ce ca td wa kp la bf oo bo pw ow tr)) at_X5_says_143 rfl rfl (Nat.le_of_ble_eq_true rfl) rfl (ab_rvOf w1 rfl) (sq_worthOf w_q1 I (by omega)) (by decide) rfl ?_
                          exact E_iret at_X5_says_146 rfl
                        · show Ev ab_Z0 2 141 [.ref 65, .int (nI a1k), .int (nI 2)] (ww im lf s d k ls rf rz ra rn rq lt m1 m2 m3 m4 bd fc hd sz el s g fm hm so si sh ce ca td wa kp la bf oo bo pw ow tr) (some (.int (nI (qWorth s xq))), (ww im lf s d k ls rf rz ra rn rq lt m1 m2 m3 m4 bd fc hd sz el s g fm hm so si sh ce ca td wa kp la bf oo bo pw ow tr))
                          refine Ef.in (md := mX6_says) (L := [some (.ref 65), some (.int (nI a1k)), some (.int (nI 2)), none, none, none]) rfl (Nat.le_of_ble_eq_true rfl) rfl ?_
                          refine E_aload_n at_X6_says_0 rfl ?_
                          refine E_iload_n at_X6_says_1 rfl ?_
                          refine E_callV (v := some (.int (nI 1))) (As := [.ref 65, .int (nI a1k)]) (r0 := []) (cs2 := (ww im lf s d k ls rf rz ra rn rq lt m1 m2 m3 m4 bd fc hd sz el s g fm hm so si sh ce ca td wa kp la bf oo bo pw ow tr)) at_X6_says_2 rfl rfl (Nat.le_of_ble_eq_true rfl) rfl (ab_rvOf w65 rfl) (L40_X6_isShelf (by omega) (by omega) (by omega)) (by decide) rfl ?_
                          refine E_if (t := 18) (b := false) at_X6_says_5 rfl (by decide) ?_
                          refine E_iload_n at_X6_says_8 rfl ?_
                          refine E_if (t := 18) (b := false) at_X6_says_9 rfl (by decide) ?_
                          refine E_iload_n at_X6_says_12 rfl ?_
                          refine E_bipush (x := nI 6) at_X6_says_13 (by decide) ?_
                          refine E_ic (t := 24) (b := true) at_X6_says_15 rfl (by decide) ?_
                          refine E_aload_n at_X6_says_24 rfl ?_
                          refine E_getfield (v := .ref 76) at_X6_says_25 w65 rfl (by decide) rfl ?_
                          refine E_iload_n at_X6_says_28 rfl ?_
                          refine E_ialN (l := hm) (v := hm.getD a1k 0) at_X6_says_29 w76 (by omega) (by omega) rfl ?_
                          refine E_iconst (x := nI 1) at_X6_says_30 (by decide) ?_
                          refine E_ic (t := 41) (b := true) at_X6_says_31 rfl ((cn_ne (nI_toInt (by omega)) (nI_toInt (by omega))).trans (decide_eq_true (by omega))) ?_
                          refine E_aload_n at_X6_says_41 rfl ?_
                          refine E_getfield (v := .ref 76) at_X6_says_42 w65 rfl (by decide) rfl ?_
                          refine E_iload_n at_X6_says_45 rfl ?_
                          refine E_ialN (l := hm) (v := hm.getD a1k 0) at_X6_says_46 w76 (by omega) (by omega) rfl ?_
                          refine E_if (t := 57) (b := true) at_X6_says_47 rfl ((cn_ne (nI_toInt (by omega)) (by decide : (0 : Int32).toInt = 0)).trans (decide_eq_true (by omega))) ?_
                          refine E_aload_n at_X6_says_57 rfl ?_
                          refine E_getfield (v := .ref 79) at_X6_says_58 w65 rfl (by decide) rfl ?_
                          refine E_iload_n at_X6_says_61 rfl ?_
                          refine E_ialI (l := sh) (v := nI xq) at_X6_says_62 w79 (by omega) (by omega) u5 ?_
                          refine E_istore_n (L2 := [some (.ref 65), some (.int (nI a1k)), some (.int (nI 2)), some (.int (nI xq)), none, none]) at_X6_says_63 rfl ?_
                          refine E_aload_n at_X6_says_64 rfl ?_
                          refine E_getfield (v := .ref 67) at_X6_says_65 w65 rfl (by decide) rfl ?_
                          refine E_iload_n at_X6_says_68 rfl ?_
                          refine E_ialN (l := qK s) (v := (qK s).getD xq 0) at_X6_says_69 w67 (by omega) (by omega) rfl ?_
                          refine E_istore (L2 := [some (.ref 65), some (.int (nI a1k)), some (.int (nI 2)), some (.int (nI xq)), some (.int (nI ((qK s).getD xq 0))), none]) at_X6_says_70 rfl ?_
                          refine E_iload_n at_X6_says_72 rfl ?_
                          refine E_iconst (x := nI 1) at_X6_says_73 (by decide) ?_
                          refine E_ic (t := 83) (b := true) at_X6_says_74 rfl (by decide) ?_
                          refine E_iload_n at_X6_says_83 rfl ?_
                          refine E_iconst (x := nI 2) at_X6_says_84 (by decide) ?_
                          refine E_ic (t := 94) (b := false) at_X6_says_85 rfl (by decide) ?_
                          refine E_iload at_X6_says_88 rfl ?_
                          refine E_iconst (x := nI 5) at_X6_says_90 (by decide) ?_
                          refine E_ic (t := 106) (b := false) at_X6_says_91 rfl ((cn_eq (nI_toInt (by omega)) (nI_toInt (by omega))).trans (decide_eq_false (by omega))) ?_
                          refine E_iload_n at_X6_says_94 rfl ?_
                          refine E_iconst (x := nI 4) at_X6_says_95 (by decide) ?_
                          refine E_ic (t := 110) (b := true) at_X6_says_96 rfl (by decide) ?_
                          refine E_iconst (x := nI 0) at_X6_says_110 (by decide) ?_
                          refine E_istore (L2 := [some (.ref 65), some (.int (nI a1k)), some (.int (nI 2)), some (.int (nI xq)), some (.int (nI ((qK s).getD xq 0))), some (.int (nI 0))]) at_X6_says_111 rfl ?_
                          refine E_iload_n at_X6_says_113 rfl ?_
                          refine E_if (t := 135) (b := false) at_X6_says_114 rfl (by decide) ?_
                          refine E_iload_n at_X6_says_117 rfl ?_
                          refine E_iload at_X6_says_118 rfl ?_
                          refine E_ic (t := 135) (b := true) at_X6_says_120 rfl ((cn_eq (nI_toInt (by omega)) (nI_toInt (by omega))).trans (decide_eq_true (by omega))) ?_
                          refine E_iload_n at_X6_says_135 rfl ?_
                          refine E_tsIn (off := 53) (t := 189) at_X6_says_136 (by decide) rfl rfl ?_
                          refine E_aload_n at_X6_says_189 rfl ?_
                          refine E_iload_n at_X6_says_190 rfl ?_
                          refine E_callV (v := some (.int (nI (qWorth s xq)))) (As := [.ref 65, .int (nI xq)]) (r0 := []) (cs2 := (ww im lf s d k ls rf rz ra rn rq lt m1 m2 m3 m4 bd fc hd sz el s g fm hm so si sh ce ca td wa kp la bf oo bo pw ow tr)) at_X6_says_191 rfl rfl (Nat.le_of_ble_eq_true rfl) rfl (ab_rvOf w65 rfl) (mo_worth w_m I (by omega)) (by decide) rfl ?_
                          exact E_iret at_X6_says_194 rfl
                        · exact ⟨I, rfl, hf, iQ, iM, iT, iS, l_el, (lr.1), (lr.2.1), (lr.2.2.1), (lr.2.2.2.1), (lr.2.2.2.2.1), (lr.2.2.2.2.2.1), (lr.2.2.2.2.2.2.1), (lr.2.2.2.2.2.2.2.1), (lr.2.2.2.2.2.2.2.2.1), (lr.2.2.2.2.2.2.2.2.2.1), (lr.2.2.2.2.2.2.2.2.2.2.1), (lr.2.2.2.2.2.2.2.2.2.2.2.1), (lr.2.2.2.2.2.2.2.2.2.2.2.2.1), (lr.2.2.2.2.2.2.2.2.2.2.2.2.2.1), (lr.2.2.2.2.2.2.2.2.2.2.2.2.2.2.1), (lr.2.2.2.2.2.2.2.2.2.2.2.2.2.2.2.1), (lr.2.2.2.2.2.2.2.2.2.2.2.2.2.2.2.2.1), (lr.2.2.2.2.2.2.2.2.2.2.2.2.2.2.2.2.2.1), (lr.2.2.2.2.2.2.2.2.2.2.2.2.2.2.2.2.2.2.1), (lr.2.2.2.2.2.2.2.2.2.2.2.2.2.2.2.2.2.2.2.1), (lr.2.2.2.2.2.2.2.2.2.2.2.2.2.2.2.2.2.2.2.2)⟩
                      · have := I1 xq (by omega)
                        have := qOf_spec ((qK s).getD xq 0) 2
                        have := qWorth_in I (x := xq) (by omega)
                        exfalso; omega
                · by_cases f8 : a2k = 4
                  · subst f8
                    by_cases f9 : (qOf ((qK s).getD xq 0) 4) = 0
                    · by_cases f10 : ((qK s).getD xq 0) = 6
                      · have := I1 xq (by omega)
                        have := qOf_spec ((qK s).getD xq 0) 4
                        exfalso; omega
                      · by_cases f11 : 4 = ((qK s).getD xq 0)
                        · have := I1 xq (by omega)
                          have := qOf_spec ((qK s).getD xq 0) 4
                          exfalso; omega
                        · have := I1 xq (by omega)
                          have := qOf_spec ((qK s).getD xq 0) 4
                          refine ⟨(-2), (im, lf, s, d, k, ls, rf, rz, ra, rn, rq, lt, m1, m2, m3, m4, bd, (fc.set 2 ((fc.getD 2 0) + (nI 1))), hd, sz, el, s, g, fm, hm, so, si, sh, ce, ca, td, wa, kp, la, bf, oo, bo, pw, ow, tr), (im, lf, s, d, k, ls, rf, rz, ra, rn, rq, lt, m1, m2, m3, m4, bd, (fc.set 2 ((fc.getD 2 0) + (nI 1))), hd, sz, el, s, g, (fm.set 2 ((fm.getD 2 0) + (nI 1))), hm, so, si, sh, ce, ca, td, wa, kp, la, bf, oo, bo, pw, ow, tr), ?_, ?_, ?_⟩
                          · show Ev ab_Z0 3 82 [.ref 0, .int (nI a1k), .int (nI 4)] (ww im lf s d k ls rf rz ra rn rq lt m1 m2 m3 m4 bd fc hd sz el s g fm hm so si sh ce ca td wa kp la bf oo bo pw ow tr) (some (.int (-2)), (ww im lf s d k ls rf rz ra rn rq lt m1 m2 m3 m4 bd (fc.set 2 ((fc.getD 2 0) + (nI 1))) hd sz el s g fm hm so si sh ce ca td wa kp la bf oo bo pw ow tr))
                            refine Ef.in (md := mX5_says) (L := [some (.ref 0), some (.int (nI a1k)), some (.int (nI 4)), none, none]) rfl (Nat.le_of_ble_eq_true rfl) rfl ?_
                            refine E_iload_n at_X5_says_0 rfl ?_
                            refine E_callS (v := some (.int (nI 1))) (As := [.int (nI a1k)]) (r0 := []) (cs2 := (ww im lf s d k ls rf rz ra rn rq lt m1 m2 m3 m4 bd fc hd sz el s g fm hm so si sh ce ca td wa kp la bf oo bo pw ow tr)) at_X5_says_1 rfl rfl (Nat.le_of_ble_eq_true rfl) rfl (L39_X5_isShelf (by omega) (by omega) (by omega)) (by decide) rfl ?_
                            refine E_if (t := 14) (b := false) at_X5_says_4 rfl (by decide) ?_
                            refine E_iload_n at_X5_says_7 rfl ?_
                            refine E_callS (v := some (.int (nI 1))) (As := [.int (nI 4)]) (r0 := []) (cs2 := (ww im lf s d k ls rf rz ra rn rq lt m1 m2 m3 m4 bd fc hd sz el s g fm hm so si sh ce ca td wa kp la bf oo bo pw ow tr)) at_X5_says_8 rfl rfl (Nat.le_of_ble_eq_true rfl) rfl (L60_X4_isKind) (by decide) rfl ?_
                            refine E_if (t := 20) (b := true) at_X5_says_11 rfl (by decide) ?_
                            refine E_aload_n at_X5_says_20 rfl ?_
                            refine E_getfield (v := .ref 31) at_X5_says_21 w0 rfl (by decide) rfl ?_
                            refine E_iload_n at_X5_says_24 rfl ?_
                            refine E_aalN (b := 49 + 2 * a1k) at_X5_says_25 w31 (by omega) (w_shs (by omega)) ?_
                            refine E_astore_n (L2 := [some (.ref 0), some (.int (nI a1k)), some (.int (nI 4)), some (.ref (49 + 2 * a1k)), none]) at_X5_says_26 rfl ?_
                            refine E_aload_n at_X5_says_27 rfl ?_
                            have e1 : Ev ab_Z0 1 32 [.ref (49 + 2 * a1k)] (ww im lf s d k ls rf rz ra rn rq lt m1 m2 m3 m4 bd fc hd sz el s g fm hm so si sh ce ca td wa kp la bf oo bo pw ow tr) (some (.int (nI 0)), (ww im lf s d k ls rf rz ra rn rq lt m1 m2 m3 m4 bd fc hd sz el s g fm hm so si sh ce ca td wa kp la bf oo bo pw ow tr)) := by
                              refine Ef.in (md := mX3_isEmpty) (L := [some (.ref (49 + 2 * a1k))]) rfl (Nat.le_of_ble_eq_true rfl) rfl ?_
                              refine E_aload_n at_X3_isEmpty_0 rfl ?_
                              refine E_getfield (v := .int (nI xq)) at_X3_isEmpty_1 (w_shv (j := a1k) (by omega) u2 u3) rfl (by decide) rfl ?_
                              refine E_iconst (x := (-1)) at_X3_isEmpty_4 (by decide) ?_
                              refine E_ic (t := 12) (b := true) at_X3_isEmpty_5 rfl ((cn_ne (nI_toInt (by omega)) (by decide : (-1 : Int32).toInt = -1)).trans (decide_eq_true (by omega))) ?_
                              refine E_iconst (x := nI 0) at_X3_isEmpty_12 (by decide) ?_
                              exact E_iret at_X3_isEmpty_13 rfl
                            refine E_callV (v := some (.int (nI 0))) (As := [.ref (49 + 2 * a1k)]) (r0 := []) (cs2 := (ww im lf s d k ls rf rz ra rn rq lt m1 m2 m3 m4 bd fc hd sz el s g fm hm so si sh ce ca td wa kp la bf oo bo pw ow tr)) at_X5_says_28 rfl rfl (Nat.le_of_ble_eq_true rfl) rfl (ab_rvOf (w_shv (j := a1k) (by omega) u2 u3) rfl) e1 (by decide) rfl ?_
                            refine E_if (t := 40) (b := true) at_X5_says_31 rfl (by decide) ?_
                            refine E_aload_n at_X5_says_40 rfl ?_
                            refine E_getfield (v := .int (nI xq)) at_X5_says_41 (w_shv (j := a1k) (by omega) u2 u3) rfl (by decide) rfl ?_
                            refine E_istore (L2 := [some (.ref 0), some (.int (nI a1k)), some (.int (nI 4)), some (.ref (49 + 2 * a1k)), some (.int (nI xq))]) at_X5_says_44 rfl ?_
                            refine E_aload_n at_X5_says_46 rfl ?_
                            refine E_getfield (v := .ref 1) at_X5_says_47 w0 rfl (by decide) rfl ?_
                            refine E_iload at_X5_says_50 rfl ?_
                            refine E_callV (v := some (.int (nI 1))) (As := [.ref 1, .int (nI xq)]) (r0 := []) (cs2 := (ww im lf s d k ls rf rz ra rn rq lt m1 m2 m3 m4 bd fc hd sz el s g fm hm so si sh ce ca td wa kp la bf oo bo pw ow tr)) at_X5_says_52 rfl rfl (Nat.le_of_ble_eq_true rfl) rfl (ab_rvOf w1 rfl) (L15_X4_isPiece (by omega) (by omega) (by omega) (by omega)) (by decide) rfl ?_
                            refine E_if (t := 71) (b := false) at_X5_says_55 rfl (by decide) ?_
                            refine E_aload_n at_X5_says_58 rfl ?_
                            refine E_getfield (v := .ref 1) at_X5_says_59 w0 rfl (by decide) rfl ?_
                            refine E_iload at_X5_says_62 rfl ?_
                            refine E_iload_n at_X5_says_64 rfl ?_
                            refine E_callV (v := some (.int (nI (qOf ((qK s).getD xq 0) 4)))) (As := [.ref 1, .int (nI xq), .int (nI 4)]) (r0 := []) (cs2 := (ww im lf s d k ls rf rz ra rn rq lt m1 m2 m3 m4 bd fc hd sz el s g fm hm so si sh ce ca td wa kp la bf oo bo pw ow tr)) at_X5_says_65 rfl rfl (Nat.le_of_ble_eq_true rfl) rfl (ab_rvOf w1 rfl) (sq_isOfKind w_q1 I (w_none 0) (by omega) (by omega)) (by decide) rfl ?_
                            refine E_if (t := 77) (b := false) at_X5_says_68 rfl ((cn_ne (nI_toInt (by omega)) (by decide : (0 : Int32).toInt = 0)).trans (decide_eq_false (by omega))) ?_
                            refine E_aload_n at_X5_says_71 rfl ?_
                            refine E_iconst (x := nI 2) at_X5_says_72 (by decide) ?_
                            refine E_callV (v := some (.int (-2))) (As := [.ref 0, .int (nI 2)]) (r0 := []) (cs2 := (ww im lf s d k ls rf rz ra rn rq lt m1 m2 m3 m4 bd (fc.set 2 ((fc.getD 2 0) + (nI 1))) hd sz el s g fm hm so si sh ce ca td wa kp la bf oo bo pw ow tr)) at_X5_says_73 rfl rfl (Nat.le_of_ble_eq_true rfl) rfl (ab_rvOf w0 rfl) (L55_X5_refuse (by omega)) (by decide) w_lens ?_
                            exact E_iret at_X5_says_76 rfl
                          · show Ev ab_Z0 2 141 [.ref 65, .int (nI a1k), .int (nI 4)] (ww im lf s d k ls rf rz ra rn rq lt m1 m2 m3 m4 bd (fc.set 2 ((fc.getD 2 0) + (nI 1))) hd sz el s g fm hm so si sh ce ca td wa kp la bf oo bo pw ow tr) (some (.int (-2)), (ww im lf s d k ls rf rz ra rn rq lt m1 m2 m3 m4 bd (fc.set 2 ((fc.getD 2 0) + (nI 1))) hd sz el s g (fm.set 2 ((fm.getD 2 0) + (nI 1))) hm so si sh ce ca td wa kp la bf oo bo pw ow tr))
                            refine Ef.in (md := mX6_says) (L := [some (.ref 65), some (.int (nI a1k)), some (.int (nI 4)), none, none, none]) rfl (Nat.le_of_ble_eq_true rfl) rfl ?_
                            refine E_aload_n at_X6_says_0 rfl ?_
                            refine E_iload_n at_X6_says_1 rfl ?_
                            refine E_callV (v := some (.int (nI 1))) (As := [.ref 65, .int (nI a1k)]) (r0 := []) (cs2 := (ww im lf s d k ls rf rz ra rn rq lt m1 m2 m3 m4 bd (fc.set 2 ((fc.getD 2 0) + (nI 1))) hd sz el s g fm hm so si sh ce ca td wa kp la bf oo bo pw ow tr)) at_X6_says_2 rfl rfl (Nat.le_of_ble_eq_true rfl) rfl (ab_rvOf w65 rfl) (L40_X6_isShelf (by omega) (by omega) (by omega)) (by decide) rfl ?_
                            refine E_if (t := 18) (b := false) at_X6_says_5 rfl (by decide) ?_
                            refine E_iload_n at_X6_says_8 rfl ?_
                            refine E_if (t := 18) (b := false) at_X6_says_9 rfl (by decide) ?_
                            refine E_iload_n at_X6_says_12 rfl ?_
                            refine E_bipush (x := nI 6) at_X6_says_13 (by decide) ?_
                            refine E_ic (t := 24) (b := true) at_X6_says_15 rfl (by decide) ?_
                            refine E_aload_n at_X6_says_24 rfl ?_
                            refine E_getfield (v := .ref 76) at_X6_says_25 w65 rfl (by decide) rfl ?_
                            refine E_iload_n at_X6_says_28 rfl ?_
                            refine E_ialN (l := hm) (v := hm.getD a1k 0) at_X6_says_29 w76 (by omega) (by omega) rfl ?_
                            refine E_iconst (x := nI 1) at_X6_says_30 (by decide) ?_
                            refine E_ic (t := 41) (b := true) at_X6_says_31 rfl ((cn_ne (nI_toInt (by omega)) (nI_toInt (by omega))).trans (decide_eq_true (by omega))) ?_
                            refine E_aload_n at_X6_says_41 rfl ?_
                            refine E_getfield (v := .ref 76) at_X6_says_42 w65 rfl (by decide) rfl ?_
                            refine E_iload_n at_X6_says_45 rfl ?_
                            refine E_ialN (l := hm) (v := hm.getD a1k 0) at_X6_says_46 w76 (by omega) (by omega) rfl ?_
                            refine E_if (t := 57) (b := true) at_X6_says_47 rfl ((cn_ne (nI_toInt (by omega)) (by decide : (0 : Int32).toInt = 0)).trans (decide_eq_true (by omega))) ?_
                            refine E_aload_n at_X6_says_57 rfl ?_
                            refine E_getfield (v := .ref 79) at_X6_says_58 w65 rfl (by decide) rfl ?_
                            refine E_iload_n at_X6_says_61 rfl ?_
                            refine E_ialI (l := sh) (v := nI xq) at_X6_says_62 w79 (by omega) (by omega) u5 ?_
                            refine E_istore_n (L2 := [some (.ref 65), some (.int (nI a1k)), some (.int (nI 4)), some (.int (nI xq)), none, none]) at_X6_says_63 rfl ?_
                            refine E_aload_n at_X6_says_64 rfl ?_
                            refine E_getfield (v := .ref 67) at_X6_says_65 w65 rfl (by decide) rfl ?_
                            refine E_iload_n at_X6_says_68 rfl ?_
                            refine E_ialN (l := qK s) (v := (qK s).getD xq 0) at_X6_says_69 w67 (by omega) (by omega) rfl ?_
                            refine E_istore (L2 := [some (.ref 65), some (.int (nI a1k)), some (.int (nI 4)), some (.int (nI xq)), some (.int (nI ((qK s).getD xq 0))), none]) at_X6_says_70 rfl ?_
                            refine E_iload_n at_X6_says_72 rfl ?_
                            refine E_iconst (x := nI 1) at_X6_says_73 (by decide) ?_
                            refine E_ic (t := 83) (b := true) at_X6_says_74 rfl (by decide) ?_
                            refine E_iload_n at_X6_says_83 rfl ?_
                            refine E_iconst (x := nI 2) at_X6_says_84 (by decide) ?_
                            refine E_ic (t := 94) (b := true) at_X6_says_85 rfl (by decide) ?_
                            refine E_iload_n at_X6_says_94 rfl ?_
                            refine E_iconst (x := nI 4) at_X6_says_95 (by decide) ?_
                            refine E_ic (t := 110) (b := false) at_X6_says_96 rfl (by decide) ?_
                            refine E_iload at_X6_says_99 rfl ?_
                            refine E_bipush (x := nI 6) at_X6_says_101 (by decide) ?_
                            refine E_ic (t := 110) (b := true) at_X6_says_103 rfl ((cn_ne (nI_toInt (by omega)) (nI_toInt (by omega))).trans (decide_eq_true (by omega))) ?_
                            refine E_iconst (x := nI 0) at_X6_says_110 (by decide) ?_
                            refine E_istore (L2 := [some (.ref 65), some (.int (nI a1k)), some (.int (nI 4)), some (.int (nI xq)), some (.int (nI ((qK s).getD xq 0))), some (.int (nI 0))]) at_X6_says_111 rfl ?_
                            refine E_iload_n at_X6_says_113 rfl ?_
                            refine E_if (t := 135) (b := false) at_X6_says_114 rfl (by decide) ?_
                            refine E_iload_n at_X6_says_117 rfl ?_
                            refine E_iload at_X6_says_118 rfl ?_
                            refine E_ic (t := 135) (b := false) at_X6_says_120 rfl ((cn_eq (nI_toInt (by omega)) (nI_toInt (by omega))).trans (decide_eq_false (by omega))) ?_
                            refine E_iload at_X6_says_123 rfl ?_
                            refine E_if (t := 135) (b := false) at_X6_says_125 rfl (by decide) ?_
                            refine E_aload_n at_X6_says_128 rfl ?_
                            refine E_bipush (x := (-2)) at_X6_says_129 (by decide) ?_
                            refine E_callV (v := some (.int (-2))) (As := [.ref 65, .int (-2)]) (r0 := []) (cs2 := (ww im lf s d k ls rf rz ra rn rq lt m1 m2 m3 m4 bd (fc.set 2 ((fc.getD 2 0) + (nI 1))) hd sz el s g (fm.set 2 ((fm.getD 2 0) + (nI 1))) hm so si sh ce ca td wa kp la bf oo bo pw ow tr)) at_X6_says_131 rfl rfl (Nat.le_of_ble_eq_true rfl) rfl (ab_rvOf w65 rfl) (L56_X6_no (by omega)) (by decide) w_lens ?_
                            exact E_iret at_X6_says_134 rfl
                          · exact ⟨I, rfl, hf, iQ, iM, iT, iS, l_el, (lr.1), (lr.2.1), (lr.2.2.1), (by simp only [List.length_set]; exact (lr.2.2.2.1)), (by simp only [List.length_set]; exact (lr.2.2.2.2.1)), (lr.2.2.2.2.2.1), (lr.2.2.2.2.2.2.1), (lr.2.2.2.2.2.2.2.1), (lr.2.2.2.2.2.2.2.2.1), (lr.2.2.2.2.2.2.2.2.2.1), (lr.2.2.2.2.2.2.2.2.2.2.1), (lr.2.2.2.2.2.2.2.2.2.2.2.1), (lr.2.2.2.2.2.2.2.2.2.2.2.2.1), (lr.2.2.2.2.2.2.2.2.2.2.2.2.2.1), (lr.2.2.2.2.2.2.2.2.2.2.2.2.2.2.1), (lr.2.2.2.2.2.2.2.2.2.2.2.2.2.2.2.1), (lr.2.2.2.2.2.2.2.2.2.2.2.2.2.2.2.2.1), (lr.2.2.2.2.2.2.2.2.2.2.2.2.2.2.2.2.2.1), (lr.2.2.2.2.2.2.2.2.2.2.2.2.2.2.2.2.2.2.1), (lr.2.2.2.2.2.2.2.2.2.2.2.2.2.2.2.2.2.2.2.1), (lr.2.2.2.2.2.2.2.2.2.2.2.2.2.2.2.2.2.2.2.2)⟩
                    · by_cases f10 : ((qK s).getD xq 0) = 6
                      · have := I1 xq (by omega)
                        have := qOf_spec ((qK s).getD xq 0) 4
                        refine ⟨(nI ((qA s).getD xq 0)), (im, lf, s, d, k, ls, rf, rz, ra, rn, rq, lt, m1, m2, m3, m4, bd, fc, hd, sz, el, s, g, fm, hm, so, si, sh, ce, ca, td, wa, kp, la, bf, oo, bo, pw, ow, tr), (im, lf, s, d, k, ls, rf, rz, ra, rn, rq, lt, m1, m2, m3, m4, bd, fc, hd, sz, el, s, g, fm, hm, so, si, sh, ce, ca, td, wa, kp, la, bf, oo, bo, pw, ow, tr), ?_, ?_, ?_⟩
                        · show Ev ab_Z0 3 82 [.ref 0, .int (nI a1k), .int (nI 4)] (ww im lf s d k ls rf rz ra rn rq lt m1 m2 m3 m4 bd fc hd sz el s g fm hm so si sh ce ca td wa kp la bf oo bo pw ow tr) (some (.int (nI ((qA s).getD xq 0))), (ww im lf s d k ls rf rz ra rn rq lt m1 m2 m3 m4 bd fc hd sz el s g fm hm so si sh ce ca td wa kp la bf oo bo pw ow tr))
                          refine Ef.in (md := mX5_says) (L := [some (.ref 0), some (.int (nI a1k)), some (.int (nI 4)), none, none]) rfl (Nat.le_of_ble_eq_true rfl) rfl ?_
                          refine E_iload_n at_X5_says_0 rfl ?_
                          refine E_callS (v := some (.int (nI 1))) (As := [.int (nI a1k)]) (r0 := []) (cs2 := (ww im lf s d k ls rf rz ra rn rq lt m1 m2 m3 m4 bd fc hd sz el s g fm hm so si sh ce ca td wa kp la bf oo bo pw ow tr)) at_X5_says_1 rfl rfl (Nat.le_of_ble_eq_true rfl) rfl (L39_X5_isShelf (by omega) (by omega) (by omega)) (by decide) rfl ?_
                          refine E_if (t := 14) (b := false) at_X5_says_4 rfl (by decide) ?_
                          refine E_iload_n at_X5_says_7 rfl ?_
                          refine E_callS (v := some (.int (nI 1))) (As := [.int (nI 4)]) (r0 := []) (cs2 := (ww im lf s d k ls rf rz ra rn rq lt m1 m2 m3 m4 bd fc hd sz el s g fm hm so si sh ce ca td wa kp la bf oo bo pw ow tr)) at_X5_says_8 rfl rfl (Nat.le_of_ble_eq_true rfl) rfl (L60_X4_isKind) (by decide) rfl ?_
                          refine E_if (t := 20) (b := true) at_X5_says_11 rfl (by decide) ?_
                          refine E_aload_n at_X5_says_20 rfl ?_
                          refine E_getfield (v := .ref 31) at_X5_says_21 w0 rfl (by decide) rfl ?_
                          refine E_iload_n at_X5_says_24 rfl ?_
                          refine E_aalN (b := 49 + 2 * a1k) at_X5_says_25 w31 (by omega) (w_shs (by omega)) ?_
                          refine E_astore_n (L2 := [some (.ref 0), some (.int (nI a1k)), some (.int (nI 4)), some (.ref (49 + 2 * a1k)), none]) at_X5_says_26 rfl ?_
                          refine E_aload_n at_X5_says_27 rfl ?_
                          have e1 : Ev ab_Z0 1 32 [.ref (49 + 2 * a1k)] (ww im lf s d k ls rf rz ra rn rq lt m1 m2 m3 m4 bd fc hd sz el s g fm hm so si sh ce ca td wa kp la bf oo bo pw ow tr) (some (.int (nI 0)), (ww im lf s d k ls rf rz ra rn rq lt m1 m2 m3 m4 bd fc hd sz el s g fm hm so si sh ce ca td wa kp la bf oo bo pw ow tr)) := by
                            refine Ef.in (md := mX3_isEmpty) (L := [some (.ref (49 + 2 * a1k))]) rfl (Nat.le_of_ble_eq_true rfl) rfl ?_
                            refine E_aload_n at_X3_isEmpty_0 rfl ?_
                            refine E_getfield (v := .int (nI xq)) at_X3_isEmpty_1 (w_shv (j := a1k) (by omega) u2 u3) rfl (by decide) rfl ?_
                            refine E_iconst (x := (-1)) at_X3_isEmpty_4 (by decide) ?_
                            refine E_ic (t := 12) (b := true) at_X3_isEmpty_5 rfl ((cn_ne (nI_toInt (by omega)) (by decide : (-1 : Int32).toInt = -1)).trans (decide_eq_true (by omega))) ?_
                            refine E_iconst (x := nI 0) at_X3_isEmpty_12 (by decide) ?_
                            exact E_iret at_X3_isEmpty_13 rfl
                          refine E_callV (v := some (.int (nI 0))) (As := [.ref (49 + 2 * a1k)]) (r0 := []) (cs2 := (ww im lf s d k ls rf rz ra rn rq lt m1 m2 m3 m4 bd fc hd sz el s g fm hm so si sh ce ca td wa kp la bf oo bo pw ow tr)) at_X5_says_28 rfl rfl (Nat.le_of_ble_eq_true rfl) rfl (ab_rvOf (w_shv (j := a1k) (by omega) u2 u3) rfl) e1 (by decide) rfl ?_
                          refine E_if (t := 40) (b := true) at_X5_says_31 rfl (by decide) ?_
                          refine E_aload_n at_X5_says_40 rfl ?_
                          refine E_getfield (v := .int (nI xq)) at_X5_says_41 (w_shv (j := a1k) (by omega) u2 u3) rfl (by decide) rfl ?_
                          refine E_istore (L2 := [some (.ref 0), some (.int (nI a1k)), some (.int (nI 4)), some (.ref (49 + 2 * a1k)), some (.int (nI xq))]) at_X5_says_44 rfl ?_
                          refine E_aload_n at_X5_says_46 rfl ?_
                          refine E_getfield (v := .ref 1) at_X5_says_47 w0 rfl (by decide) rfl ?_
                          refine E_iload at_X5_says_50 rfl ?_
                          refine E_callV (v := some (.int (nI 1))) (As := [.ref 1, .int (nI xq)]) (r0 := []) (cs2 := (ww im lf s d k ls rf rz ra rn rq lt m1 m2 m3 m4 bd fc hd sz el s g fm hm so si sh ce ca td wa kp la bf oo bo pw ow tr)) at_X5_says_52 rfl rfl (Nat.le_of_ble_eq_true rfl) rfl (ab_rvOf w1 rfl) (L15_X4_isPiece (by omega) (by omega) (by omega) (by omega)) (by decide) rfl ?_
                          refine E_if (t := 71) (b := false) at_X5_says_55 rfl (by decide) ?_
                          refine E_aload_n at_X5_says_58 rfl ?_
                          refine E_getfield (v := .ref 1) at_X5_says_59 w0 rfl (by decide) rfl ?_
                          refine E_iload at_X5_says_62 rfl ?_
                          refine E_iload_n at_X5_says_64 rfl ?_
                          refine E_callV (v := some (.int (nI (qOf ((qK s).getD xq 0) 4)))) (As := [.ref 1, .int (nI xq), .int (nI 4)]) (r0 := []) (cs2 := (ww im lf s d k ls rf rz ra rn rq lt m1 m2 m3 m4 bd fc hd sz el s g fm hm so si sh ce ca td wa kp la bf oo bo pw ow tr)) at_X5_says_65 rfl rfl (Nat.le_of_ble_eq_true rfl) rfl (ab_rvOf w1 rfl) (sq_isOfKind w_q1 I (w_none 0) (by omega) (by omega)) (by decide) rfl ?_
                          refine E_if (t := 77) (b := true) at_X5_says_68 rfl ((cn_ne (nI_toInt (by omega)) (by decide : (0 : Int32).toInt = 0)).trans (decide_eq_true (by omega))) ?_
                          refine E_iload_n at_X5_says_77 rfl ?_
                          refine E_tsIn (off := 69) (t := 147) at_X5_says_78 (by decide) rfl rfl ?_
                          refine E_aload_n at_X5_says_147 rfl ?_
                          refine E_getfield (v := .ref 1) at_X5_says_148 w0 rfl (by decide) rfl ?_
                          refine E_getfield (v := .ref 3) at_X5_says_151 w1 rfl (by decide) rfl ?_
                          refine E_iload at_X5_says_154 rfl ?_
                          refine E_ialN (l := qA s) (v := (qA s).getD xq 0) at_X5_says_156 w3 (by omega) (by omega) rfl ?_
                          exact E_iret at_X5_says_157 rfl
                        · show Ev ab_Z0 2 141 [.ref 65, .int (nI a1k), .int (nI 4)] (ww im lf s d k ls rf rz ra rn rq lt m1 m2 m3 m4 bd fc hd sz el s g fm hm so si sh ce ca td wa kp la bf oo bo pw ow tr) (some (.int (nI ((qA s).getD xq 0))), (ww im lf s d k ls rf rz ra rn rq lt m1 m2 m3 m4 bd fc hd sz el s g fm hm so si sh ce ca td wa kp la bf oo bo pw ow tr))
                          refine Ef.in (md := mX6_says) (L := [some (.ref 65), some (.int (nI a1k)), some (.int (nI 4)), none, none, none]) rfl (Nat.le_of_ble_eq_true rfl) rfl ?_
                          refine E_aload_n at_X6_says_0 rfl ?_
                          refine E_iload_n at_X6_says_1 rfl ?_
                          refine E_callV (v := some (.int (nI 1))) (As := [.ref 65, .int (nI a1k)]) (r0 := []) (cs2 := (ww im lf s d k ls rf rz ra rn rq lt m1 m2 m3 m4 bd fc hd sz el s g fm hm so si sh ce ca td wa kp la bf oo bo pw ow tr)) at_X6_says_2 rfl rfl (Nat.le_of_ble_eq_true rfl) rfl (ab_rvOf w65 rfl) (L40_X6_isShelf (by omega) (by omega) (by omega)) (by decide) rfl ?_
                          refine E_if (t := 18) (b := false) at_X6_says_5 rfl (by decide) ?_
                          refine E_iload_n at_X6_says_8 rfl ?_
                          refine E_if (t := 18) (b := false) at_X6_says_9 rfl (by decide) ?_
                          refine E_iload_n at_X6_says_12 rfl ?_
                          refine E_bipush (x := nI 6) at_X6_says_13 (by decide) ?_
                          refine E_ic (t := 24) (b := true) at_X6_says_15 rfl (by decide) ?_
                          refine E_aload_n at_X6_says_24 rfl ?_
                          refine E_getfield (v := .ref 76) at_X6_says_25 w65 rfl (by decide) rfl ?_
                          refine E_iload_n at_X6_says_28 rfl ?_
                          refine E_ialN (l := hm) (v := hm.getD a1k 0) at_X6_says_29 w76 (by omega) (by omega) rfl ?_
                          refine E_iconst (x := nI 1) at_X6_says_30 (by decide) ?_
                          refine E_ic (t := 41) (b := true) at_X6_says_31 rfl ((cn_ne (nI_toInt (by omega)) (nI_toInt (by omega))).trans (decide_eq_true (by omega))) ?_
                          refine E_aload_n at_X6_says_41 rfl ?_
                          refine E_getfield (v := .ref 76) at_X6_says_42 w65 rfl (by decide) rfl ?_
                          refine E_iload_n at_X6_says_45 rfl ?_
                          refine E_ialN (l := hm) (v := hm.getD a1k 0) at_X6_says_46 w76 (by omega) (by omega) rfl ?_
                          refine E_if (t := 57) (b := true) at_X6_says_47 rfl ((cn_ne (nI_toInt (by omega)) (by decide : (0 : Int32).toInt = 0)).trans (decide_eq_true (by omega))) ?_
                          refine E_aload_n at_X6_says_57 rfl ?_
                          refine E_getfield (v := .ref 79) at_X6_says_58 w65 rfl (by decide) rfl ?_
                          refine E_iload_n at_X6_says_61 rfl ?_
                          refine E_ialI (l := sh) (v := nI xq) at_X6_says_62 w79 (by omega) (by omega) u5 ?_
                          refine E_istore_n (L2 := [some (.ref 65), some (.int (nI a1k)), some (.int (nI 4)), some (.int (nI xq)), none, none]) at_X6_says_63 rfl ?_
                          refine E_aload_n at_X6_says_64 rfl ?_
                          refine E_getfield (v := .ref 67) at_X6_says_65 w65 rfl (by decide) rfl ?_
                          refine E_iload_n at_X6_says_68 rfl ?_
                          refine E_ialN (l := qK s) (v := (qK s).getD xq 0) at_X6_says_69 w67 (by omega) (by omega) rfl ?_
                          refine E_istore (L2 := [some (.ref 65), some (.int (nI a1k)), some (.int (nI 4)), some (.int (nI xq)), some (.int (nI ((qK s).getD xq 0))), none]) at_X6_says_70 rfl ?_
                          refine E_iload_n at_X6_says_72 rfl ?_
                          refine E_iconst (x := nI 1) at_X6_says_73 (by decide) ?_
                          refine E_ic (t := 83) (b := true) at_X6_says_74 rfl (by decide) ?_
                          refine E_iload_n at_X6_says_83 rfl ?_
                          refine E_iconst (x := nI 2) at_X6_says_84 (by decide) ?_
                          refine E_ic (t := 94) (b := true) at_X6_says_85 rfl (by decide) ?_
                          refine E_iload_n at_X6_says_94 rfl ?_
                          refine E_iconst (x := nI 4) at_X6_says_95 (by decide) ?_
                          refine E_ic (t := 110) (b := false) at_X6_says_96 rfl (by decide) ?_
                          refine E_iload at_X6_says_99 rfl ?_
                          refine E_bipush (x := nI 6) at_X6_says_101 (by decide) ?_
                          refine E_ic (t := 110) (b := false) at_X6_says_103 rfl ((cn_ne (nI_toInt (by omega)) (nI_toInt (by omega))).trans (decide_eq_false (by omega))) ?_
                          refine E_iconst (x := nI 1) at_X6_says_106 (by decide) ?_
                          refine E_goto (t := 111) at_X6_says_107 rfl ?_
                          refine E_istore (L2 := [some (.ref 65), some (.int (nI a1k)), some (.int (nI 4)), some (.int (nI xq)), some (.int (nI ((qK s).getD xq 0))), some (.int (nI 1))]) at_X6_says_111 rfl ?_
                          refine E_iload_n at_X6_says_113 rfl ?_
                          refine E_if (t := 135) (b := false) at_X6_says_114 rfl (by decide) ?_
                          refine E_iload_n at_X6_says_117 rfl ?_
                          refine E_iload at_X6_says_118 rfl ?_
                          refine E_ic (t := 135) (b := false) at_X6_says_120 rfl ((cn_eq (nI_toInt (by omega)) (nI_toInt (by omega))).trans (decide_eq_false (by omega))) ?_
                          refine E_iload at_X6_says_123 rfl ?_
                          refine E_if (t := 135) (b := true) at_X6_says_125 rfl (by decide) ?_
                          refine E_iload_n at_X6_says_135 rfl ?_
                          refine E_tsIn (off := 59) (t := 195) at_X6_says_136 (by decide) rfl rfl ?_
                          refine E_aload_n at_X6_says_195 rfl ?_
                          refine E_getfield (v := .ref 68) at_X6_says_196 w65 rfl (by decide) rfl ?_
                          refine E_iload_n at_X6_says_199 rfl ?_
                          refine E_ialN (l := qA s) (v := (qA s).getD xq 0) at_X6_says_200 w68 (by omega) (by omega) rfl ?_
                          exact E_iret at_X6_says_201 rfl
                        · exact ⟨I, rfl, hf, iQ, iM, iT, iS, l_el, (lr.1), (lr.2.1), (lr.2.2.1), (lr.2.2.2.1), (lr.2.2.2.2.1), (lr.2.2.2.2.2.1), (lr.2.2.2.2.2.2.1), (lr.2.2.2.2.2.2.2.1), (lr.2.2.2.2.2.2.2.2.1), (lr.2.2.2.2.2.2.2.2.2.1), (lr.2.2.2.2.2.2.2.2.2.2.1), (lr.2.2.2.2.2.2.2.2.2.2.2.1), (lr.2.2.2.2.2.2.2.2.2.2.2.2.1), (lr.2.2.2.2.2.2.2.2.2.2.2.2.2.1), (lr.2.2.2.2.2.2.2.2.2.2.2.2.2.2.1), (lr.2.2.2.2.2.2.2.2.2.2.2.2.2.2.2.1), (lr.2.2.2.2.2.2.2.2.2.2.2.2.2.2.2.2.1), (lr.2.2.2.2.2.2.2.2.2.2.2.2.2.2.2.2.2.1), (lr.2.2.2.2.2.2.2.2.2.2.2.2.2.2.2.2.2.2.1), (lr.2.2.2.2.2.2.2.2.2.2.2.2.2.2.2.2.2.2.2.1), (lr.2.2.2.2.2.2.2.2.2.2.2.2.2.2.2.2.2.2.2.2)⟩
                      · by_cases f11 : 4 = ((qK s).getD xq 0)
                        · have := I1 xq (by omega)
                          have := qOf_spec ((qK s).getD xq 0) 4
                          refine ⟨(nI ((qA s).getD xq 0)), (im, lf, s, d, k, ls, rf, rz, ra, rn, rq, lt, m1, m2, m3, m4, bd, fc, hd, sz, el, s, g, fm, hm, so, si, sh, ce, ca, td, wa, kp, la, bf, oo, bo, pw, ow, tr), (im, lf, s, d, k, ls, rf, rz, ra, rn, rq, lt, m1, m2, m3, m4, bd, fc, hd, sz, el, s, g, fm, hm, so, si, sh, ce, ca, td, wa, kp, la, bf, oo, bo, pw, ow, tr), ?_, ?_, ?_⟩
                          · show Ev ab_Z0 3 82 [.ref 0, .int (nI a1k), .int (nI 4)] (ww im lf s d k ls rf rz ra rn rq lt m1 m2 m3 m4 bd fc hd sz el s g fm hm so si sh ce ca td wa kp la bf oo bo pw ow tr) (some (.int (nI ((qA s).getD xq 0))), (ww im lf s d k ls rf rz ra rn rq lt m1 m2 m3 m4 bd fc hd sz el s g fm hm so si sh ce ca td wa kp la bf oo bo pw ow tr))
                            refine Ef.in (md := mX5_says) (L := [some (.ref 0), some (.int (nI a1k)), some (.int (nI 4)), none, none]) rfl (Nat.le_of_ble_eq_true rfl) rfl ?_
                            refine E_iload_n at_X5_says_0 rfl ?_
                            refine E_callS (v := some (.int (nI 1))) (As := [.int (nI a1k)]) (r0 := []) (cs2 := (ww im lf s d k ls rf rz ra rn rq lt m1 m2 m3 m4 bd fc hd sz el s g fm hm so si sh ce ca td wa kp la bf oo bo pw ow tr)) at_X5_says_1 rfl rfl (Nat.le_of_ble_eq_true rfl) rfl (L39_X5_isShelf (by omega) (by omega) (by omega)) (by decide) rfl ?_
                            refine E_if (t := 14) (b := false) at_X5_says_4 rfl (by decide) ?_
                            refine E_iload_n at_X5_says_7 rfl ?_
                            refine E_callS (v := some (.int (nI 1))) (As := [.int (nI 4)]) (r0 := []) (cs2 := (ww im lf s d k ls rf rz ra rn rq lt m1 m2 m3 m4 bd fc hd sz el s g fm hm so si sh ce ca td wa kp la bf oo bo pw ow tr)) at_X5_says_8 rfl rfl (Nat.le_of_ble_eq_true rfl) rfl (L60_X4_isKind) (by decide) rfl ?_
                            refine E_if (t := 20) (b := true) at_X5_says_11 rfl (by decide) ?_
                            refine E_aload_n at_X5_says_20 rfl ?_
                            refine E_getfield (v := .ref 31) at_X5_says_21 w0 rfl (by decide) rfl ?_
                            refine E_iload_n at_X5_says_24 rfl ?_
                            refine E_aalN (b := 49 + 2 * a1k) at_X5_says_25 w31 (by omega) (w_shs (by omega)) ?_
                            refine E_astore_n (L2 := [some (.ref 0), some (.int (nI a1k)), some (.int (nI 4)), some (.ref (49 + 2 * a1k)), none]) at_X5_says_26 rfl ?_
                            refine E_aload_n at_X5_says_27 rfl ?_
                            have e1 : Ev ab_Z0 1 32 [.ref (49 + 2 * a1k)] (ww im lf s d k ls rf rz ra rn rq lt m1 m2 m3 m4 bd fc hd sz el s g fm hm so si sh ce ca td wa kp la bf oo bo pw ow tr) (some (.int (nI 0)), (ww im lf s d k ls rf rz ra rn rq lt m1 m2 m3 m4 bd fc hd sz el s g fm hm so si sh ce ca td wa kp la bf oo bo pw ow tr)) := by
                              refine Ef.in (md := mX3_isEmpty) (L := [some (.ref (49 + 2 * a1k))]) rfl (Nat.le_of_ble_eq_true rfl) rfl ?_
                              refine E_aload_n at_X3_isEmpty_0 rfl ?_
                              refine E_getfield (v := .int (nI xq)) at_X3_isEmpty_1 (w_shv (j := a1k) (by omega) u2 u3) rfl (by decide) rfl ?_
                              refine E_iconst (x := (-1)) at_X3_isEmpty_4 (by decide) ?_
                              refine E_ic (t := 12) (b := true) at_X3_isEmpty_5 rfl ((cn_ne (nI_toInt (by omega)) (by decide : (-1 : Int32).toInt = -1)).trans (decide_eq_true (by omega))) ?_
                              refine E_iconst (x := nI 0) at_X3_isEmpty_12 (by decide) ?_
                              exact E_iret at_X3_isEmpty_13 rfl
                            refine E_callV (v := some (.int (nI 0))) (As := [.ref (49 + 2 * a1k)]) (r0 := []) (cs2 := (ww im lf s d k ls rf rz ra rn rq lt m1 m2 m3 m4 bd fc hd sz el s g fm hm so si sh ce ca td wa kp la bf oo bo pw ow tr)) at_X5_says_28 rfl rfl (Nat.le_of_ble_eq_true rfl) rfl (ab_rvOf (w_shv (j := a1k) (by omega) u2 u3) rfl) e1 (by decide) rfl ?_
                            refine E_if (t := 40) (b := true) at_X5_says_31 rfl (by decide) ?_
                            refine E_aload_n at_X5_says_40 rfl ?_
                            refine E_getfield (v := .int (nI xq)) at_X5_says_41 (w_shv (j := a1k) (by omega) u2 u3) rfl (by decide) rfl ?_
                            refine E_istore (L2 := [some (.ref 0), some (.int (nI a1k)), some (.int (nI 4)), some (.ref (49 + 2 * a1k)), some (.int (nI xq))]) at_X5_says_44 rfl ?_
                            refine E_aload_n at_X5_says_46 rfl ?_
                            refine E_getfield (v := .ref 1) at_X5_says_47 w0 rfl (by decide) rfl ?_
                            refine E_iload at_X5_says_50 rfl ?_
                            refine E_callV (v := some (.int (nI 1))) (As := [.ref 1, .int (nI xq)]) (r0 := []) (cs2 := (ww im lf s d k ls rf rz ra rn rq lt m1 m2 m3 m4 bd fc hd sz el s g fm hm so si sh ce ca td wa kp la bf oo bo pw ow tr)) at_X5_says_52 rfl rfl (Nat.le_of_ble_eq_true rfl) rfl (ab_rvOf w1 rfl) (L15_X4_isPiece (by omega) (by omega) (by omega) (by omega)) (by decide) rfl ?_
                            refine E_if (t := 71) (b := false) at_X5_says_55 rfl (by decide) ?_
                            refine E_aload_n at_X5_says_58 rfl ?_
                            refine E_getfield (v := .ref 1) at_X5_says_59 w0 rfl (by decide) rfl ?_
                            refine E_iload at_X5_says_62 rfl ?_
                            refine E_iload_n at_X5_says_64 rfl ?_
                            refine E_callV (v := some (.int (nI (qOf ((qK s).getD xq 0) 4)))) (As := [.ref 1, .int (nI xq), .int (nI 4)]) (r0 := []) (cs2 := (ww im lf s d k ls rf rz ra rn rq lt m1 m2 m3 m4 bd fc hd sz el s g fm hm so si sh ce ca td wa kp la bf oo bo pw ow tr)) at_X5_says_65 rfl rfl (Nat.le_of_ble_eq_true rfl) rfl (ab_rvOf w1 rfl) (sq_isOfKind w_q1 I (w_none 0) (by omega) (by omega)) (by decide) rfl ?_
                            refine E_if (t := 77) (b := true) at_X5_says_68 rfl ((cn_ne (nI_toInt (by omega)) (by decide : (0 : Int32).toInt = 0)).trans (decide_eq_true (by omega))) ?_
                            refine E_iload_n at_X5_says_77 rfl ?_
                            refine E_tsIn (off := 69) (t := 147) at_X5_says_78 (by decide) rfl rfl ?_
                            refine E_aload_n at_X5_says_147 rfl ?_
                            refine E_getfield (v := .ref 1) at_X5_says_148 w0 rfl (by decide) rfl ?_
                            refine E_getfield (v := .ref 3) at_X5_says_151 w1 rfl (by decide) rfl ?_
                            refine E_iload at_X5_says_154 rfl ?_
                            refine E_ialN (l := qA s) (v := (qA s).getD xq 0) at_X5_says_156 w3 (by omega) (by omega) rfl ?_
                            exact E_iret at_X5_says_157 rfl
                          · show Ev ab_Z0 2 141 [.ref 65, .int (nI a1k), .int (nI 4)] (ww im lf s d k ls rf rz ra rn rq lt m1 m2 m3 m4 bd fc hd sz el s g fm hm so si sh ce ca td wa kp la bf oo bo pw ow tr) (some (.int (nI ((qA s).getD xq 0))), (ww im lf s d k ls rf rz ra rn rq lt m1 m2 m3 m4 bd fc hd sz el s g fm hm so si sh ce ca td wa kp la bf oo bo pw ow tr))
                            refine Ef.in (md := mX6_says) (L := [some (.ref 65), some (.int (nI a1k)), some (.int (nI 4)), none, none, none]) rfl (Nat.le_of_ble_eq_true rfl) rfl ?_
                            refine E_aload_n at_X6_says_0 rfl ?_
                            refine E_iload_n at_X6_says_1 rfl ?_
                            refine E_callV (v := some (.int (nI 1))) (As := [.ref 65, .int (nI a1k)]) (r0 := []) (cs2 := (ww im lf s d k ls rf rz ra rn rq lt m1 m2 m3 m4 bd fc hd sz el s g fm hm so si sh ce ca td wa kp la bf oo bo pw ow tr)) at_X6_says_2 rfl rfl (Nat.le_of_ble_eq_true rfl) rfl (ab_rvOf w65 rfl) (L40_X6_isShelf (by omega) (by omega) (by omega)) (by decide) rfl ?_
                            refine E_if (t := 18) (b := false) at_X6_says_5 rfl (by decide) ?_
                            refine E_iload_n at_X6_says_8 rfl ?_
                            refine E_if (t := 18) (b := false) at_X6_says_9 rfl (by decide) ?_
                            refine E_iload_n at_X6_says_12 rfl ?_
                            refine E_bipush (x := nI 6) at_X6_says_13 (by decide) ?_
                            refine E_ic (t := 24) (b := true) at_X6_says_15 rfl (by decide) ?_
                            refine E_aload_n at_X6_says_24 rfl ?_
                            refine E_getfield (v := .ref 76) at_X6_says_25 w65 rfl (by decide) rfl ?_
                            refine E_iload_n at_X6_says_28 rfl ?_
                            refine E_ialN (l := hm) (v := hm.getD a1k 0) at_X6_says_29 w76 (by omega) (by omega) rfl ?_
                            refine E_iconst (x := nI 1) at_X6_says_30 (by decide) ?_
                            refine E_ic (t := 41) (b := true) at_X6_says_31 rfl ((cn_ne (nI_toInt (by omega)) (nI_toInt (by omega))).trans (decide_eq_true (by omega))) ?_
                            refine E_aload_n at_X6_says_41 rfl ?_
                            refine E_getfield (v := .ref 76) at_X6_says_42 w65 rfl (by decide) rfl ?_
                            refine E_iload_n at_X6_says_45 rfl ?_
                            refine E_ialN (l := hm) (v := hm.getD a1k 0) at_X6_says_46 w76 (by omega) (by omega) rfl ?_
                            refine E_if (t := 57) (b := true) at_X6_says_47 rfl ((cn_ne (nI_toInt (by omega)) (by decide : (0 : Int32).toInt = 0)).trans (decide_eq_true (by omega))) ?_
                            refine E_aload_n at_X6_says_57 rfl ?_
                            refine E_getfield (v := .ref 79) at_X6_says_58 w65 rfl (by decide) rfl ?_
                            refine E_iload_n at_X6_says_61 rfl ?_
                            refine E_ialI (l := sh) (v := nI xq) at_X6_says_62 w79 (by omega) (by omega) u5 ?_
                            refine E_istore_n (L2 := [some (.ref 65), some (.int (nI a1k)), some (.int (nI 4)), some (.int (nI xq)), none, none]) at_X6_says_63 rfl ?_
                            refine E_aload_n at_X6_says_64 rfl ?_
                            refine E_getfield (v := .ref 67) at_X6_says_65 w65 rfl (by decide) rfl ?_
                            refine E_iload_n at_X6_says_68 rfl ?_
                            refine E_ialN (l := qK s) (v := (qK s).getD xq 0) at_X6_says_69 w67 (by omega) (by omega) rfl ?_
                            refine E_istore (L2 := [some (.ref 65), some (.int (nI a1k)), some (.int (nI 4)), some (.int (nI xq)), some (.int (nI ((qK s).getD xq 0))), none]) at_X6_says_70 rfl ?_
                            refine E_iload_n at_X6_says_72 rfl ?_
                            refine E_iconst (x := nI 1) at_X6_says_73 (by decide) ?_
                            refine E_ic (t := 83) (b := true) at_X6_says_74 rfl (by decide) ?_
                            refine E_iload_n at_X6_says_83 rfl ?_
                            refine E_iconst (x := nI 2) at_X6_says_84 (by decide) ?_
                            refine E_ic (t := 94) (b := true) at_X6_says_85 rfl (by decide) ?_
                            refine E_iload_n at_X6_says_94 rfl ?_
                            refine E_iconst (x := nI 4) at_X6_says_95 (by decide) ?_
                            refine E_ic (t := 110) (b := false) at_X6_says_96 rfl (by decide) ?_
                            refine E_iload at_X6_says_99 rfl ?_
                            refine E_bipush (x := nI 6) at_X6_says_101 (by decide) ?_
                            refine E_ic (t := 110) (b := true) at_X6_says_103 rfl ((cn_ne (nI_toInt (by omega)) (nI_toInt (by omega))).trans (decide_eq_true (by omega))) ?_
                            refine E_iconst (x := nI 0) at_X6_says_110 (by decide) ?_
                            refine E_istore (L2 := [some (.ref 65), some (.int (nI a1k)), some (.int (nI 4)), some (.int (nI xq)), some (.int (nI ((qK s).getD xq 0))), some (.int (nI 0))]) at_X6_says_111 rfl ?_
                            refine E_iload_n at_X6_says_113 rfl ?_
                            refine E_if (t := 135) (b := false) at_X6_says_114 rfl (by decide) ?_
                            refine E_iload_n at_X6_says_117 rfl ?_
                            refine E_iload at_X6_says_118 rfl ?_
                            refine E_ic (t := 135) (b := true) at_X6_says_120 rfl ((cn_eq (nI_toInt (by omega)) (nI_toInt (by omega))).trans (decide_eq_true (by omega))) ?_
                            refine E_iload_n at_X6_says_135 rfl ?_
                            refine E_tsIn (off := 59) (t := 195) at_X6_says_136 (by decide) rfl rfl ?_
                            refine E_aload_n at_X6_says_195 rfl ?_
                            refine E_getfield (v := .ref 68) at_X6_says_196 w65 rfl (by decide) rfl ?_
                            refine E_iload_n at_X6_says_199 rfl ?_
                            refine E_ialN (l := qA s) (v := (qA s).getD xq 0) at_X6_says_200 w68 (by omega) (by omega) rfl ?_
                            exact E_iret at_X6_says_201 rfl
                          · exact ⟨I, rfl, hf, iQ, iM, iT, iS, l_el, (lr.1), (lr.2.1), (lr.2.2.1), (lr.2.2.2.1), (lr.2.2.2.2.1), (lr.2.2.2.2.2.1), (lr.2.2.2.2.2.2.1), (lr.2.2.2.2.2.2.2.1), (lr.2.2.2.2.2.2.2.2.1), (lr.2.2.2.2.2.2.2.2.2.1), (lr.2.2.2.2.2.2.2.2.2.2.1), (lr.2.2.2.2.2.2.2.2.2.2.2.1), (lr.2.2.2.2.2.2.2.2.2.2.2.2.1), (lr.2.2.2.2.2.2.2.2.2.2.2.2.2.1), (lr.2.2.2.2.2.2.2.2.2.2.2.2.2.2.1), (lr.2.2.2.2.2.2.2.2.2.2.2.2.2.2.2.1), (lr.2.2.2.2.2.2.2.2.2.2.2.2.2.2.2.2.1), (lr.2.2.2.2.2.2.2.2.2.2.2.2.2.2.2.2.2.1), (lr.2.2.2.2.2.2.2.2.2.2.2.2.2.2.2.2.2.2.1), (lr.2.2.2.2.2.2.2.2.2.2.2.2.2.2.2.2.2.2.2.1), (lr.2.2.2.2.2.2.2.2.2.2.2.2.2.2.2.2.2.2.2.2)⟩
                        · have := I1 xq (by omega)
                          have := qOf_spec ((qK s).getD xq 0) 4
                          exfalso; omega
                  · by_cases f9 : a2k = 0
                    · subst f9
                      by_cases f10 : (qOf ((qK s).getD xq 0) 0) = 0
                      · have := I1 xq (by omega)
                        have := qOf_spec ((qK s).getD xq 0) 0
                        exfalso; omega
                      · have := I1 xq (by omega)
                        have := qOf_spec ((qK s).getD xq 0) 0
                        refine ⟨(nI ((qB s).getD xq 0)), (im, lf, s, d, k, ls, rf, rz, ra, rn, rq, lt, m1, m2, m3, m4, bd, fc, hd, sz, el, s, g, fm, hm, so, si, sh, ce, ca, td, wa, kp, la, bf, oo, bo, pw, ow, tr), (im, lf, s, d, k, ls, rf, rz, ra, rn, rq, lt, m1, m2, m3, m4, bd, fc, hd, sz, el, s, g, fm, hm, so, si, sh, ce, ca, td, wa, kp, la, bf, oo, bo, pw, ow, tr), ?_, ?_, ?_⟩
                        · show Ev ab_Z0 3 82 [.ref 0, .int (nI a1k), .int (nI 0)] (ww im lf s d k ls rf rz ra rn rq lt m1 m2 m3 m4 bd fc hd sz el s g fm hm so si sh ce ca td wa kp la bf oo bo pw ow tr) (some (.int (nI ((qB s).getD xq 0))), (ww im lf s d k ls rf rz ra rn rq lt m1 m2 m3 m4 bd fc hd sz el s g fm hm so si sh ce ca td wa kp la bf oo bo pw ow tr))
                          refine Ef.in (md := mX5_says) (L := [some (.ref 0), some (.int (nI a1k)), some (.int (nI 0)), none, none]) rfl (Nat.le_of_ble_eq_true rfl) rfl ?_
                          refine E_iload_n at_X5_says_0 rfl ?_
                          refine E_callS (v := some (.int (nI 1))) (As := [.int (nI a1k)]) (r0 := []) (cs2 := (ww im lf s d k ls rf rz ra rn rq lt m1 m2 m3 m4 bd fc hd sz el s g fm hm so si sh ce ca td wa kp la bf oo bo pw ow tr)) at_X5_says_1 rfl rfl (Nat.le_of_ble_eq_true rfl) rfl (L39_X5_isShelf (by omega) (by omega) (by omega)) (by decide) rfl ?_
                          refine E_if (t := 14) (b := false) at_X5_says_4 rfl (by decide) ?_
                          refine E_iload_n at_X5_says_7 rfl ?_
                          refine E_callS (v := some (.int (nI 1))) (As := [.int (nI 0)]) (r0 := []) (cs2 := (ww im lf s d k ls rf rz ra rn rq lt m1 m2 m3 m4 bd fc hd sz el s g fm hm so si sh ce ca td wa kp la bf oo bo pw ow tr)) at_X5_says_8 rfl rfl (Nat.le_of_ble_eq_true rfl) rfl (L61_X4_isKind) (by decide) rfl ?_
                          refine E_if (t := 20) (b := true) at_X5_says_11 rfl (by decide) ?_
                          refine E_aload_n at_X5_says_20 rfl ?_
                          refine E_getfield (v := .ref 31) at_X5_says_21 w0 rfl (by decide) rfl ?_
                          refine E_iload_n at_X5_says_24 rfl ?_
                          refine E_aalN (b := 49 + 2 * a1k) at_X5_says_25 w31 (by omega) (w_shs (by omega)) ?_
                          refine E_astore_n (L2 := [some (.ref 0), some (.int (nI a1k)), some (.int (nI 0)), some (.ref (49 + 2 * a1k)), none]) at_X5_says_26 rfl ?_
                          refine E_aload_n at_X5_says_27 rfl ?_
                          have e1 : Ev ab_Z0 1 32 [.ref (49 + 2 * a1k)] (ww im lf s d k ls rf rz ra rn rq lt m1 m2 m3 m4 bd fc hd sz el s g fm hm so si sh ce ca td wa kp la bf oo bo pw ow tr) (some (.int (nI 0)), (ww im lf s d k ls rf rz ra rn rq lt m1 m2 m3 m4 bd fc hd sz el s g fm hm so si sh ce ca td wa kp la bf oo bo pw ow tr)) := by
                            refine Ef.in (md := mX3_isEmpty) (L := [some (.ref (49 + 2 * a1k))]) rfl (Nat.le_of_ble_eq_true rfl) rfl ?_
                            refine E_aload_n at_X3_isEmpty_0 rfl ?_
                            refine E_getfield (v := .int (nI xq)) at_X3_isEmpty_1 (w_shv (j := a1k) (by omega) u2 u3) rfl (by decide) rfl ?_
                            refine E_iconst (x := (-1)) at_X3_isEmpty_4 (by decide) ?_
                            refine E_ic (t := 12) (b := true) at_X3_isEmpty_5 rfl ((cn_ne (nI_toInt (by omega)) (by decide : (-1 : Int32).toInt = -1)).trans (decide_eq_true (by omega))) ?_
                            refine E_iconst (x := nI 0) at_X3_isEmpty_12 (by decide) ?_
                            exact E_iret at_X3_isEmpty_13 rfl
                          refine E_callV (v := some (.int (nI 0))) (As := [.ref (49 + 2 * a1k)]) (r0 := []) (cs2 := (ww im lf s d k ls rf rz ra rn rq lt m1 m2 m3 m4 bd fc hd sz el s g fm hm so si sh ce ca td wa kp la bf oo bo pw ow tr)) at_X5_says_28 rfl rfl (Nat.le_of_ble_eq_true rfl) rfl (ab_rvOf (w_shv (j := a1k) (by omega) u2 u3) rfl) e1 (by decide) rfl ?_
                          refine E_if (t := 40) (b := true) at_X5_says_31 rfl (by decide) ?_
                          refine E_aload_n at_X5_says_40 rfl ?_
                          refine E_getfield (v := .int (nI xq)) at_X5_says_41 (w_shv (j := a1k) (by omega) u2 u3) rfl (by decide) rfl ?_
                          refine E_istore (L2 := [some (.ref 0), some (.int (nI a1k)), some (.int (nI 0)), some (.ref (49 + 2 * a1k)), some (.int (nI xq))]) at_X5_says_44 rfl ?_
                          refine E_aload_n at_X5_says_46 rfl ?_
                          refine E_getfield (v := .ref 1) at_X5_says_47 w0 rfl (by decide) rfl ?_
                          refine E_iload at_X5_says_50 rfl ?_
                          refine E_callV (v := some (.int (nI 1))) (As := [.ref 1, .int (nI xq)]) (r0 := []) (cs2 := (ww im lf s d k ls rf rz ra rn rq lt m1 m2 m3 m4 bd fc hd sz el s g fm hm so si sh ce ca td wa kp la bf oo bo pw ow tr)) at_X5_says_52 rfl rfl (Nat.le_of_ble_eq_true rfl) rfl (ab_rvOf w1 rfl) (L15_X4_isPiece (by omega) (by omega) (by omega) (by omega)) (by decide) rfl ?_
                          refine E_if (t := 71) (b := false) at_X5_says_55 rfl (by decide) ?_
                          refine E_aload_n at_X5_says_58 rfl ?_
                          refine E_getfield (v := .ref 1) at_X5_says_59 w0 rfl (by decide) rfl ?_
                          refine E_iload at_X5_says_62 rfl ?_
                          refine E_iload_n at_X5_says_64 rfl ?_
                          refine E_callV (v := some (.int (nI (qOf ((qK s).getD xq 0) 0)))) (As := [.ref 1, .int (nI xq), .int (nI 0)]) (r0 := []) (cs2 := (ww im lf s d k ls rf rz ra rn rq lt m1 m2 m3 m4 bd fc hd sz el s g fm hm so si sh ce ca td wa kp la bf oo bo pw ow tr)) at_X5_says_65 rfl rfl (Nat.le_of_ble_eq_true rfl) rfl (ab_rvOf w1 rfl) (sq_isOfKind w_q1 I (w_none 0) (by omega) (by omega)) (by decide) rfl ?_
                          refine E_if (t := 77) (b := true) at_X5_says_68 rfl ((cn_ne (nI_toInt (by omega)) (by decide : (0 : Int32).toInt = 0)).trans (decide_eq_true (by omega))) ?_
                          refine E_iload_n at_X5_says_77 rfl ?_
                          refine E_tsIn (off := 38) (t := 116) at_X5_says_78 (by decide) rfl rfl ?_
                          refine E_aload_n rfl rfl ?_
                          refine E_getfield (v := .ref 1) rfl w0 rfl (by decide) rfl ?_
                          refine E_getfield (v := .ref 4) rfl w1 rfl (by decide) rfl ?_
                          refine E_iload rfl rfl ?_
                          refine E_ialN (l := qB s) (v := (qB s).getD xq 0) rfl w4 (by omega) (by omega) rfl ?_
                          exact E_iret rfl rfl
                        · show Ev ab_Z0 2 141 [.ref 65, .int (nI a1k), .int (nI 0)] (ww im lf s d k ls rf rz ra rn rq lt m1 m2 m3 m4 bd fc hd sz el s g fm hm so si sh ce ca td wa kp la bf oo bo pw ow tr) (some (.int (nI ((qB s).getD xq 0))), (ww im lf s d k ls rf rz ra rn rq lt m1 m2 m3 m4 bd fc hd sz el s g fm hm so si sh ce ca td wa kp la bf oo bo pw ow tr))
                          refine Ef.in (md := mX6_says) (L := [some (.ref 65), some (.int (nI a1k)), some (.int (nI 0)), none, none, none]) rfl (Nat.le_of_ble_eq_true rfl) rfl ?_
                          refine E_aload_n at_X6_says_0 rfl ?_
                          refine E_iload_n at_X6_says_1 rfl ?_
                          refine E_callV (v := some (.int (nI 1))) (As := [.ref 65, .int (nI a1k)]) (r0 := []) (cs2 := (ww im lf s d k ls rf rz ra rn rq lt m1 m2 m3 m4 bd fc hd sz el s g fm hm so si sh ce ca td wa kp la bf oo bo pw ow tr)) at_X6_says_2 rfl rfl (Nat.le_of_ble_eq_true rfl) rfl (ab_rvOf w65 rfl) (L40_X6_isShelf (by omega) (by omega) (by omega)) (by decide) rfl ?_
                          refine E_if (t := 18) (b := false) at_X6_says_5 rfl (by decide) ?_
                          refine E_iload_n at_X6_says_8 rfl ?_
                          refine E_if (t := 18) (b := false) at_X6_says_9 rfl (by decide) ?_
                          refine E_iload_n at_X6_says_12 rfl ?_
                          refine E_bipush (x := nI 6) at_X6_says_13 (by decide) ?_
                          refine E_ic (t := 24) (b := true) at_X6_says_15 rfl (by decide) ?_
                          refine E_aload_n at_X6_says_24 rfl ?_
                          refine E_getfield (v := .ref 76) at_X6_says_25 w65 rfl (by decide) rfl ?_
                          refine E_iload_n at_X6_says_28 rfl ?_
                          refine E_ialN (l := hm) (v := hm.getD a1k 0) at_X6_says_29 w76 (by omega) (by omega) rfl ?_
                          refine E_iconst (x := nI 1) at_X6_says_30 (by decide) ?_
                          refine E_ic (t := 41) (b := true) at_X6_says_31 rfl ((cn_ne (nI_toInt (by omega)) (nI_toInt (by omega))).trans (decide_eq_true (by omega))) ?_
                          refine E_aload_n at_X6_says_41 rfl ?_
                          refine E_getfield (v := .ref 76) at_X6_says_42 w65 rfl (by decide) rfl ?_
                          refine E_iload_n at_X6_says_45 rfl ?_
                          refine E_ialN (l := hm) (v := hm.getD a1k 0) at_X6_says_46 w76 (by omega) (by omega) rfl ?_
                          refine E_if (t := 57) (b := true) at_X6_says_47 rfl ((cn_ne (nI_toInt (by omega)) (by decide : (0 : Int32).toInt = 0)).trans (decide_eq_true (by omega))) ?_
                          refine E_aload_n at_X6_says_57 rfl ?_
                          refine E_getfield (v := .ref 79) at_X6_says_58 w65 rfl (by decide) rfl ?_
                          refine E_iload_n at_X6_says_61 rfl ?_
                          refine E_ialI (l := sh) (v := nI xq) at_X6_says_62 w79 (by omega) (by omega) u5 ?_
                          refine E_istore_n (L2 := [some (.ref 65), some (.int (nI a1k)), some (.int (nI 0)), some (.int (nI xq)), none, none]) at_X6_says_63 rfl ?_
                          refine E_aload_n at_X6_says_64 rfl ?_
                          refine E_getfield (v := .ref 67) at_X6_says_65 w65 rfl (by decide) rfl ?_
                          refine E_iload_n at_X6_says_68 rfl ?_
                          refine E_ialN (l := qK s) (v := (qK s).getD xq 0) at_X6_says_69 w67 (by omega) (by omega) rfl ?_
                          refine E_istore (L2 := [some (.ref 65), some (.int (nI a1k)), some (.int (nI 0)), some (.int (nI xq)), some (.int (nI ((qK s).getD xq 0))), none]) at_X6_says_70 rfl ?_
                          refine E_iload_n at_X6_says_72 rfl ?_
                          refine E_iconst (x := nI 1) at_X6_says_73 (by decide) ?_
                          refine E_ic (t := 83) (b := true) at_X6_says_74 rfl (by decide) ?_
                          refine E_iload_n at_X6_says_83 rfl ?_
                          refine E_iconst (x := nI 2) at_X6_says_84 (by decide) ?_
                          refine E_ic (t := 94) (b := true) at_X6_says_85 rfl (by decide) ?_
                          refine E_iload_n at_X6_says_94 rfl ?_
                          refine E_iconst (x := nI 4) at_X6_says_95 (by decide) ?_
                          refine E_ic (t := 110) (b := true) at_X6_says_96 rfl (by decide) ?_
                          refine E_iconst (x := nI 0) at_X6_says_110 (by decide) ?_
                          refine E_istore (L2 := [some (.ref 65), some (.int (nI a1k)), some (.int (nI 0)), some (.int (nI xq)), some (.int (nI ((qK s).getD xq 0))), some (.int (nI 0))]) at_X6_says_111 rfl ?_
                          refine E_iload_n at_X6_says_113 rfl ?_
                          refine E_if (t := 135) (b := true) at_X6_says_114 rfl (by decide) ?_
                          refine E_iload_n at_X6_says_135 rfl ?_
                          refine E_tsIn (off := 40) (t := 176) at_X6_says_136 (by decide) rfl rfl ?_
                          refine E_aload_n rfl rfl ?_
                          refine E_getfield (v := .ref 69) rfl w65 rfl (by decide) rfl ?_
                          refine E_iload_n rfl rfl ?_
                          refine E_ialN (l := qB s) (v := (qB s).getD xq 0) rfl w69 (by omega) (by omega) rfl ?_
                          exact E_iret rfl rfl
                        · exact ⟨I, rfl, hf, iQ, iM, iT, iS, l_el, (lr.1), (lr.2.1), (lr.2.2.1), (lr.2.2.2.1), (lr.2.2.2.2.1), (lr.2.2.2.2.2.1), (lr.2.2.2.2.2.2.1), (lr.2.2.2.2.2.2.2.1), (lr.2.2.2.2.2.2.2.2.1), (lr.2.2.2.2.2.2.2.2.2.1), (lr.2.2.2.2.2.2.2.2.2.2.1), (lr.2.2.2.2.2.2.2.2.2.2.2.1), (lr.2.2.2.2.2.2.2.2.2.2.2.2.1), (lr.2.2.2.2.2.2.2.2.2.2.2.2.2.1), (lr.2.2.2.2.2.2.2.2.2.2.2.2.2.2.1), (lr.2.2.2.2.2.2.2.2.2.2.2.2.2.2.2.1), (lr.2.2.2.2.2.2.2.2.2.2.2.2.2.2.2.2.1), (lr.2.2.2.2.2.2.2.2.2.2.2.2.2.2.2.2.2.1), (lr.2.2.2.2.2.2.2.2.2.2.2.2.2.2.2.2.2.2.1), (lr.2.2.2.2.2.2.2.2.2.2.2.2.2.2.2.2.2.2.2.1), (lr.2.2.2.2.2.2.2.2.2.2.2.2.2.2.2.2.2.2.2.2)⟩
                    · by_cases f10 : a2k = ((qK s).getD xq 0)
                      · by_cases f11 : a2k = 3
                        · subst f11
                          by_cases f12 : (qOf ((qK s).getD xq 0) 3) = 0
                          · have := I1 xq (by omega)
                            have := qOf_spec ((qK s).getD xq 0) 3
                            have := qHarm_in I (x := xq) (by omega)
                            exfalso; omega
                          · have := I1 xq (by omega)
                            have := qOf_spec ((qK s).getD xq 0) 3
                            have := qHarm_in I (x := xq) (by omega)
                            refine ⟨(nI (qHarm s xq)), (im, lf, s, d, k, ls, rf, rz, ra, rn, rq, lt, m1, m2, m3, m4, bd, fc, hd, sz, el, s, g, fm, hm, so, si, sh, ce, ca, td, wa, kp, la, bf, oo, bo, pw, ow, tr), (im, lf, s, d, k, ls, rf, rz, ra, rn, rq, lt, m1, m2, m3, m4, bd, fc, hd, sz, el, s, g, fm, hm, so, si, sh, ce, ca, td, wa, kp, la, bf, oo, bo, pw, ow, tr), ?_, ?_, ?_⟩
                            · show Ev ab_Z0 3 82 [.ref 0, .int (nI a1k), .int (nI 3)] (ww im lf s d k ls rf rz ra rn rq lt m1 m2 m3 m4 bd fc hd sz el s g fm hm so si sh ce ca td wa kp la bf oo bo pw ow tr) (some (.int (nI (qHarm s xq))), (ww im lf s d k ls rf rz ra rn rq lt m1 m2 m3 m4 bd fc hd sz el s g fm hm so si sh ce ca td wa kp la bf oo bo pw ow tr))
                              refine Ef.in (md := mX5_says) (L := [some (.ref 0), some (.int (nI a1k)), some (.int (nI 3)), none, none]) rfl (Nat.le_of_ble_eq_true rfl) rfl ?_
                              refine E_iload_n at_X5_says_0 rfl ?_
                              refine E_callS (v := some (.int (nI 1))) (As := [.int (nI a1k)]) (r0 := []) (cs2 := (ww im lf s d k ls rf rz ra rn rq lt m1 m2 m3 m4 bd fc hd sz el s g fm hm so si sh ce ca td wa kp la bf oo bo pw ow tr)) at_X5_says_1 rfl rfl (Nat.le_of_ble_eq_true rfl) rfl (L39_X5_isShelf (by omega) (by omega) (by omega)) (by decide) rfl ?_
                              refine E_if (t := 14) (b := false) at_X5_says_4 rfl (by decide) ?_
                              refine E_iload_n at_X5_says_7 rfl ?_
                              refine E_callS (v := some (.int (nI 1))) (As := [.int (nI 3)]) (r0 := []) (cs2 := (ww im lf s d k ls rf rz ra rn rq lt m1 m2 m3 m4 bd fc hd sz el s g fm hm so si sh ce ca td wa kp la bf oo bo pw ow tr)) at_X5_says_8 rfl rfl (Nat.le_of_ble_eq_true rfl) rfl (L62_X4_isKind) (by decide) rfl ?_
                              refine E_if (t := 20) (b := true) at_X5_says_11 rfl (by decide) ?_
                              refine E_aload_n at_X5_says_20 rfl ?_
                              refine E_getfield (v := .ref 31) at_X5_says_21 w0 rfl (by decide) rfl ?_
                              refine E_iload_n at_X5_says_24 rfl ?_
                              refine E_aalN (b := 49 + 2 * a1k) at_X5_says_25 w31 (by omega) (w_shs (by omega)) ?_
                              refine E_astore_n (L2 := [some (.ref 0), some (.int (nI a1k)), some (.int (nI 3)), some (.ref (49 + 2 * a1k)), none]) at_X5_says_26 rfl ?_
                              refine E_aload_n at_X5_says_27 rfl ?_
                              have e1 : Ev ab_Z0 1 32 [.ref (49 + 2 * a1k)] (ww im lf s d k ls rf rz ra rn rq lt m1 m2 m3 m4 bd fc hd sz el s g fm hm so si sh ce ca td wa kp la bf oo bo pw ow tr) (some (.int (nI 0)), (ww im lf s d k ls rf rz ra rn rq lt m1 m2 m3 m4 bd fc hd sz el s g fm hm so si sh ce ca td wa kp la bf oo bo pw ow tr)) := by
                                refine Ef.in (md := mX3_isEmpty) (L := [some (.ref (49 + 2 * a1k))]) rfl (Nat.le_of_ble_eq_true rfl) rfl ?_
                                refine E_aload_n at_X3_isEmpty_0 rfl ?_
                                refine E_getfield (v := .int (nI xq)) at_X3_isEmpty_1 (w_shv (j := a1k) (by omega) u2 u3) rfl (by decide) rfl ?_
                                refine E_iconst (x := (-1)) at_X3_isEmpty_4 (by decide) ?_
                                refine E_ic (t := 12) (b := true) at_X3_isEmpty_5 rfl ((cn_ne (nI_toInt (by omega)) (by decide : (-1 : Int32).toInt = -1)).trans (decide_eq_true (by omega))) ?_
                                refine E_iconst (x := nI 0) at_X3_isEmpty_12 (by decide) ?_
                                exact E_iret at_X3_isEmpty_13 rfl
                              refine E_callV (v := some (.int (nI 0))) (As := [.ref (49 + 2 * a1k)]) (r0 := []) (cs2 := (ww im lf s d k ls rf rz ra rn rq lt m1 m2 m3 m4 bd fc hd sz el s g fm hm so si sh ce ca td wa kp la bf oo bo pw ow tr)) at_X5_says_28 rfl rfl (Nat.le_of_ble_eq_true rfl) rfl (ab_rvOf (w_shv (j := a1k) (by omega) u2 u3) rfl) e1 (by decide) rfl ?_
                              refine E_if (t := 40) (b := true) at_X5_says_31 rfl (by decide) ?_
                              refine E_aload_n at_X5_says_40 rfl ?_
                              refine E_getfield (v := .int (nI xq)) at_X5_says_41 (w_shv (j := a1k) (by omega) u2 u3) rfl (by decide) rfl ?_
                              refine E_istore (L2 := [some (.ref 0), some (.int (nI a1k)), some (.int (nI 3)), some (.ref (49 + 2 * a1k)), some (.int (nI xq))]) at_X5_says_44 rfl ?_
                              refine E_aload_n at_X5_says_46 rfl ?_
                              refine E_getfield (v := .ref 1) at_X5_says_47 w0 rfl (by decide) rfl ?_
                              refine E_iload at_X5_says_50 rfl ?_
                              refine E_callV (v := some (.int (nI 1))) (As := [.ref 1, .int (nI xq)]) (r0 := []) (cs2 := (ww im lf s d k ls rf rz ra rn rq lt m1 m2 m3 m4 bd fc hd sz el s g fm hm so si sh ce ca td wa kp la bf oo bo pw ow tr)) at_X5_says_52 rfl rfl (Nat.le_of_ble_eq_true rfl) rfl (ab_rvOf w1 rfl) (L15_X4_isPiece (by omega) (by omega) (by omega) (by omega)) (by decide) rfl ?_
                              refine E_if (t := 71) (b := false) at_X5_says_55 rfl (by decide) ?_
                              refine E_aload_n at_X5_says_58 rfl ?_
                              refine E_getfield (v := .ref 1) at_X5_says_59 w0 rfl (by decide) rfl ?_
                              refine E_iload at_X5_says_62 rfl ?_
                              refine E_iload_n at_X5_says_64 rfl ?_
                              refine E_callV (v := some (.int (nI (qOf ((qK s).getD xq 0) 3)))) (As := [.ref 1, .int (nI xq), .int (nI 3)]) (r0 := []) (cs2 := (ww im lf s d k ls rf rz ra rn rq lt m1 m2 m3 m4 bd fc hd sz el s g fm hm so si sh ce ca td wa kp la bf oo bo pw ow tr)) at_X5_says_65 rfl rfl (Nat.le_of_ble_eq_true rfl) rfl (ab_rvOf w1 rfl) (sq_isOfKind w_q1 I (w_none 0) (by omega) (by omega)) (by decide) rfl ?_
                              refine E_if (t := 77) (b := true) at_X5_says_68 rfl ((cn_ne (nI_toInt (by omega)) (by decide : (0 : Int32).toInt = 0)).trans (decide_eq_true (by omega))) ?_
                              refine E_iload_n at_X5_says_77 rfl ?_
                              refine E_tsIn (off := 49) (t := 127) at_X5_says_78 (by decide) rfl rfl ?_
                              refine E_aload_n at_X5_says_127 rfl ?_
                              refine E_getfield (v := .ref 1) at_X5_says_128 w0 rfl (by decide) rfl ?_
                              refine E_iload at_X5_says_131 rfl ?_
                              refine E_callV (v := some (.int (nI (qHarm s xq)))) (As := [.ref 1, .int (nI xq)]) (r0 := []) (cs2 := (ww im lf s d k ls rf rz ra rn rq lt m1 m2 m3 m4 bd fc hd sz el s g fm hm so si sh ce ca td wa kp la bf oo bo pw ow tr)) at_X5_says_133 rfl rfl (Nat.le_of_ble_eq_true rfl) rfl (ab_rvOf w1 rfl) (sq_harmOf w_q1 I (by omega)) (by decide) rfl ?_
                              exact E_iret at_X5_says_136 rfl
                            · show Ev ab_Z0 2 141 [.ref 65, .int (nI a1k), .int (nI 3)] (ww im lf s d k ls rf rz ra rn rq lt m1 m2 m3 m4 bd fc hd sz el s g fm hm so si sh ce ca td wa kp la bf oo bo pw ow tr) (some (.int (nI (qHarm s xq))), (ww im lf s d k ls rf rz ra rn rq lt m1 m2 m3 m4 bd fc hd sz el s g fm hm so si sh ce ca td wa kp la bf oo bo pw ow tr))
                              refine Ef.in (md := mX6_says) (L := [some (.ref 65), some (.int (nI a1k)), some (.int (nI 3)), none, none, none]) rfl (Nat.le_of_ble_eq_true rfl) rfl ?_
                              refine E_aload_n at_X6_says_0 rfl ?_
                              refine E_iload_n at_X6_says_1 rfl ?_
                              refine E_callV (v := some (.int (nI 1))) (As := [.ref 65, .int (nI a1k)]) (r0 := []) (cs2 := (ww im lf s d k ls rf rz ra rn rq lt m1 m2 m3 m4 bd fc hd sz el s g fm hm so si sh ce ca td wa kp la bf oo bo pw ow tr)) at_X6_says_2 rfl rfl (Nat.le_of_ble_eq_true rfl) rfl (ab_rvOf w65 rfl) (L40_X6_isShelf (by omega) (by omega) (by omega)) (by decide) rfl ?_
                              refine E_if (t := 18) (b := false) at_X6_says_5 rfl (by decide) ?_
                              refine E_iload_n at_X6_says_8 rfl ?_
                              refine E_if (t := 18) (b := false) at_X6_says_9 rfl (by decide) ?_
                              refine E_iload_n at_X6_says_12 rfl ?_
                              refine E_bipush (x := nI 6) at_X6_says_13 (by decide) ?_
                              refine E_ic (t := 24) (b := true) at_X6_says_15 rfl (by decide) ?_
                              refine E_aload_n at_X6_says_24 rfl ?_
                              refine E_getfield (v := .ref 76) at_X6_says_25 w65 rfl (by decide) rfl ?_
                              refine E_iload_n at_X6_says_28 rfl ?_
                              refine E_ialN (l := hm) (v := hm.getD a1k 0) at_X6_says_29 w76 (by omega) (by omega) rfl ?_
                              refine E_iconst (x := nI 1) at_X6_says_30 (by decide) ?_
                              refine E_ic (t := 41) (b := true) at_X6_says_31 rfl ((cn_ne (nI_toInt (by omega)) (nI_toInt (by omega))).trans (decide_eq_true (by omega))) ?_
                              refine E_aload_n at_X6_says_41 rfl ?_
                              refine E_getfield (v := .ref 76) at_X6_says_42 w65 rfl (by decide) rfl ?_
                              refine E_iload_n at_X6_says_45 rfl ?_
                              refine E_ialN (l := hm) (v := hm.getD a1k 0) at_X6_says_46 w76 (by omega) (by omega) rfl ?_
                              refine E_if (t := 57) (b := true) at_X6_says_47 rfl ((cn_ne (nI_toInt (by omega)) (by decide : (0 : Int32).toInt = 0)).trans (decide_eq_true (by omega))) ?_
                              refine E_aload_n at_X6_says_57 rfl ?_
                              refine E_getfield (v := .ref 79) at_X6_says_58 w65 rfl (by decide) rfl ?_
                              refine E_iload_n at_X6_says_61 rfl ?_
                              refine E_ialI (l := sh) (v := nI xq) at_X6_says_62 w79 (by omega) (by omega) u5 ?_
                              refine E_istore_n (L2 := [some (.ref 65), some (.int (nI a1k)), some (.int (nI 3)), some (.int (nI xq)), none, none]) at_X6_says_63 rfl ?_
                              refine E_aload_n at_X6_says_64 rfl ?_
                              refine E_getfield (v := .ref 67) at_X6_says_65 w65 rfl (by decide) rfl ?_
                              refine E_iload_n at_X6_says_68 rfl ?_
                              refine E_ialN (l := qK s) (v := (qK s).getD xq 0) at_X6_says_69 w67 (by omega) (by omega) rfl ?_
                              refine E_istore (L2 := [some (.ref 65), some (.int (nI a1k)), some (.int (nI 3)), some (.int (nI xq)), some (.int (nI ((qK s).getD xq 0))), none]) at_X6_says_70 rfl ?_
                              refine E_iload_n at_X6_says_72 rfl ?_
                              refine E_iconst (x := nI 1) at_X6_says_73 (by decide) ?_
                              refine E_ic (t := 83) (b := true) at_X6_says_74 rfl (by decide) ?_
                              refine E_iload_n at_X6_says_83 rfl ?_
                              refine E_iconst (x := nI 2) at_X6_says_84 (by decide) ?_
                              refine E_ic (t := 94) (b := true) at_X6_says_85 rfl (by decide) ?_
                              refine E_iload_n at_X6_says_94 rfl ?_
                              refine E_iconst (x := nI 4) at_X6_says_95 (by decide) ?_
                              refine E_ic (t := 110) (b := true) at_X6_says_96 rfl (by decide) ?_
                              refine E_iconst (x := nI 0) at_X6_says_110 (by decide) ?_
                              refine E_istore (L2 := [some (.ref 65), some (.int (nI a1k)), some (.int (nI 3)), some (.int (nI xq)), some (.int (nI ((qK s).getD xq 0))), some (.int (nI 0))]) at_X6_says_111 rfl ?_
                              refine E_iload_n at_X6_says_113 rfl ?_
                              refine E_if (t := 135) (b := false) at_X6_says_114 rfl (by decide) ?_
                              refine E_iload_n at_X6_says_117 rfl ?_
                              refine E_iload at_X6_says_118 rfl ?_
                              refine E_ic (t := 135) (b := true) at_X6_says_120 rfl ((cn_eq (nI_toInt (by omega)) (nI_toInt (by omega))).trans (decide_eq_true (by omega))) ?_
                              refine E_iload_n at_X6_says_135 rfl ?_
                              refine E_tsIn (off := 47) (t := 183) at_X6_says_136 (by decide) rfl rfl ?_
                              refine E_aload_n at_X6_says_183 rfl ?_
                              refine E_iload_n at_X6_says_184 rfl ?_
                              refine E_callV (v := some (.int (nI (qHarm s xq)))) (As := [.ref 65, .int (nI xq)]) (r0 := []) (cs2 := (ww im lf s d k ls rf rz ra rn rq lt m1 m2 m3 m4 bd fc hd sz el s g fm hm so si sh ce ca td wa kp la bf oo bo pw ow tr)) at_X6_says_185 rfl rfl (Nat.le_of_ble_eq_true rfl) rfl (ab_rvOf w65 rfl) (mo_harms w_m I (by omega)) (by decide) rfl ?_
                              exact E_iret at_X6_says_188 rfl
                            · exact ⟨I, rfl, hf, iQ, iM, iT, iS, l_el, (lr.1), (lr.2.1), (lr.2.2.1), (lr.2.2.2.1), (lr.2.2.2.2.1), (lr.2.2.2.2.2.1), (lr.2.2.2.2.2.2.1), (lr.2.2.2.2.2.2.2.1), (lr.2.2.2.2.2.2.2.2.1), (lr.2.2.2.2.2.2.2.2.2.1), (lr.2.2.2.2.2.2.2.2.2.2.1), (lr.2.2.2.2.2.2.2.2.2.2.2.1), (lr.2.2.2.2.2.2.2.2.2.2.2.2.1), (lr.2.2.2.2.2.2.2.2.2.2.2.2.2.1), (lr.2.2.2.2.2.2.2.2.2.2.2.2.2.2.1), (lr.2.2.2.2.2.2.2.2.2.2.2.2.2.2.2.1), (lr.2.2.2.2.2.2.2.2.2.2.2.2.2.2.2.2.1), (lr.2.2.2.2.2.2.2.2.2.2.2.2.2.2.2.2.2.1), (lr.2.2.2.2.2.2.2.2.2.2.2.2.2.2.2.2.2.2.1), (lr.2.2.2.2.2.2.2.2.2.2.2.2.2.2.2.2.2.2.2.1), (lr.2.2.2.2.2.2.2.2.2.2.2.2.2.2.2.2.2.2.2.2)⟩
                        · by_cases f12 : a2k = 5
                          · subst f12
                            by_cases f13 : (qOf ((qK s).getD xq 0) 5) = 0
                            · have := I1 xq (by omega)
                              have := qOf_spec ((qK s).getD xq 0) 5
                              have := qWorth_in I (x := xq) (by omega)
                              exfalso; omega
                            · have := I1 xq (by omega)
                              have := qOf_spec ((qK s).getD xq 0) 5
                              have := qWorth_in I (x := xq) (by omega)
                              refine ⟨(nI (qWorth s xq)), (im, lf, s, d, k, ls, rf, rz, ra, rn, rq, lt, m1, m2, m3, m4, bd, fc, hd, sz, el, s, g, fm, hm, so, si, sh, ce, ca, td, wa, kp, la, bf, oo, bo, pw, ow, tr), (im, lf, s, d, k, ls, rf, rz, ra, rn, rq, lt, m1, m2, m3, m4, bd, fc, hd, sz, el, s, g, fm, hm, so, si, sh, ce, ca, td, wa, kp, la, bf, oo, bo, pw, ow, tr), ?_, ?_, ?_⟩
                              · show Ev ab_Z0 3 82 [.ref 0, .int (nI a1k), .int (nI 5)] (ww im lf s d k ls rf rz ra rn rq lt m1 m2 m3 m4 bd fc hd sz el s g fm hm so si sh ce ca td wa kp la bf oo bo pw ow tr) (some (.int (nI (qWorth s xq))), (ww im lf s d k ls rf rz ra rn rq lt m1 m2 m3 m4 bd fc hd sz el s g fm hm so si sh ce ca td wa kp la bf oo bo pw ow tr))
                                refine Ef.in (md := mX5_says) (L := [some (.ref 0), some (.int (nI a1k)), some (.int (nI 5)), none, none]) rfl (Nat.le_of_ble_eq_true rfl) rfl ?_
                                refine E_iload_n at_X5_says_0 rfl ?_
                                refine E_callS (v := some (.int (nI 1))) (As := [.int (nI a1k)]) (r0 := []) (cs2 := (ww im lf s d k ls rf rz ra rn rq lt m1 m2 m3 m4 bd fc hd sz el s g fm hm so si sh ce ca td wa kp la bf oo bo pw ow tr)) at_X5_says_1 rfl rfl (Nat.le_of_ble_eq_true rfl) rfl (L39_X5_isShelf (by omega) (by omega) (by omega)) (by decide) rfl ?_
                                refine E_if (t := 14) (b := false) at_X5_says_4 rfl (by decide) ?_
                                refine E_iload_n at_X5_says_7 rfl ?_
                                refine E_callS (v := some (.int (nI 1))) (As := [.int (nI 5)]) (r0 := []) (cs2 := (ww im lf s d k ls rf rz ra rn rq lt m1 m2 m3 m4 bd fc hd sz el s g fm hm so si sh ce ca td wa kp la bf oo bo pw ow tr)) at_X5_says_8 rfl rfl (Nat.le_of_ble_eq_true rfl) rfl (L63_X4_isKind) (by decide) rfl ?_
                                refine E_if (t := 20) (b := true) at_X5_says_11 rfl (by decide) ?_
                                refine E_aload_n at_X5_says_20 rfl ?_
                                refine E_getfield (v := .ref 31) at_X5_says_21 w0 rfl (by decide) rfl ?_
                                refine E_iload_n at_X5_says_24 rfl ?_
                                refine E_aalN (b := 49 + 2 * a1k) at_X5_says_25 w31 (by omega) (w_shs (by omega)) ?_
                                refine E_astore_n (L2 := [some (.ref 0), some (.int (nI a1k)), some (.int (nI 5)), some (.ref (49 + 2 * a1k)), none]) at_X5_says_26 rfl ?_
                                refine E_aload_n at_X5_says_27 rfl ?_
                                have e1 : Ev ab_Z0 1 32 [.ref (49 + 2 * a1k)] (ww im lf s d k ls rf rz ra rn rq lt m1 m2 m3 m4 bd fc hd sz el s g fm hm so si sh ce ca td wa kp la bf oo bo pw ow tr) (some (.int (nI 0)), (ww im lf s d k ls rf rz ra rn rq lt m1 m2 m3 m4 bd fc hd sz el s g fm hm so si sh ce ca td wa kp la bf oo bo pw ow tr)) := by
                                  refine Ef.in (md := mX3_isEmpty) (L := [some (.ref (49 + 2 * a1k))]) rfl (Nat.le_of_ble_eq_true rfl) rfl ?_
                                  refine E_aload_n at_X3_isEmpty_0 rfl ?_
                                  refine E_getfield (v := .int (nI xq)) at_X3_isEmpty_1 (w_shv (j := a1k) (by omega) u2 u3) rfl (by decide) rfl ?_
                                  refine E_iconst (x := (-1)) at_X3_isEmpty_4 (by decide) ?_
                                  refine E_ic (t := 12) (b := true) at_X3_isEmpty_5 rfl ((cn_ne (nI_toInt (by omega)) (by decide : (-1 : Int32).toInt = -1)).trans (decide_eq_true (by omega))) ?_
                                  refine E_iconst (x := nI 0) at_X3_isEmpty_12 (by decide) ?_
                                  exact E_iret at_X3_isEmpty_13 rfl
                                refine E_callV (v := some (.int (nI 0))) (As := [.ref (49 + 2 * a1k)]) (r0 := []) (cs2 := (ww im lf s d k ls rf rz ra rn rq lt m1 m2 m3 m4 bd fc hd sz el s g fm hm so si sh ce ca td wa kp la bf oo bo pw ow tr)) at_X5_says_28 rfl rfl (Nat.le_of_ble_eq_true rfl) rfl (ab_rvOf (w_shv (j := a1k) (by omega) u2 u3) rfl) e1 (by decide) rfl ?_
                                refine E_if (t := 40) (b := true) at_X5_says_31 rfl (by decide) ?_
                                refine E_aload_n at_X5_says_40 rfl ?_
                                refine E_getfield (v := .int (nI xq)) at_X5_says_41 (w_shv (j := a1k) (by omega) u2 u3) rfl (by decide) rfl ?_
                                refine E_istore (L2 := [some (.ref 0), some (.int (nI a1k)), some (.int (nI 5)), some (.ref (49 + 2 * a1k)), some (.int (nI xq))]) at_X5_says_44 rfl ?_
                                refine E_aload_n at_X5_says_46 rfl ?_
                                refine E_getfield (v := .ref 1) at_X5_says_47 w0 rfl (by decide) rfl ?_
                                refine E_iload at_X5_says_50 rfl ?_
                                refine E_callV (v := some (.int (nI 1))) (As := [.ref 1, .int (nI xq)]) (r0 := []) (cs2 := (ww im lf s d k ls rf rz ra rn rq lt m1 m2 m3 m4 bd fc hd sz el s g fm hm so si sh ce ca td wa kp la bf oo bo pw ow tr)) at_X5_says_52 rfl rfl (Nat.le_of_ble_eq_true rfl) rfl (ab_rvOf w1 rfl) (L15_X4_isPiece (by omega) (by omega) (by omega) (by omega)) (by decide) rfl ?_
                                refine E_if (t := 71) (b := false) at_X5_says_55 rfl (by decide) ?_
                                refine E_aload_n at_X5_says_58 rfl ?_
                                refine E_getfield (v := .ref 1) at_X5_says_59 w0 rfl (by decide) rfl ?_
                                refine E_iload at_X5_says_62 rfl ?_
                                refine E_iload_n at_X5_says_64 rfl ?_
                                refine E_callV (v := some (.int (nI (qOf ((qK s).getD xq 0) 5)))) (As := [.ref 1, .int (nI xq), .int (nI 5)]) (r0 := []) (cs2 := (ww im lf s d k ls rf rz ra rn rq lt m1 m2 m3 m4 bd fc hd sz el s g fm hm so si sh ce ca td wa kp la bf oo bo pw ow tr)) at_X5_says_65 rfl rfl (Nat.le_of_ble_eq_true rfl) rfl (ab_rvOf w1 rfl) (sq_isOfKind w_q1 I (w_none 0) (by omega) (by omega)) (by decide) rfl ?_
                                refine E_if (t := 77) (b := true) at_X5_says_68 rfl ((cn_ne (nI_toInt (by omega)) (by decide : (0 : Int32).toInt = 0)).trans (decide_eq_true (by omega))) ?_
                                refine E_iload_n at_X5_says_77 rfl ?_
                                refine E_tsIn (off := 59) (t := 137) at_X5_says_78 (by decide) rfl rfl ?_
                                refine E_aload_n at_X5_says_137 rfl ?_
                                refine E_getfield (v := .ref 1) at_X5_says_138 w0 rfl (by decide) rfl ?_
                                refine E_iload at_X5_says_141 rfl ?_
                                refine E_callV (v := some (.int (nI (qWorth s xq)))) (As := [.ref 1, .int (nI xq)]) (r0 := []) (cs2 := (ww im lf s d k ls rf rz ra rn rq lt m1 m2 m3 m4 bd fc hd sz el s g fm hm so si sh ce ca td wa kp la bf oo bo pw ow tr)) at_X5_says_143 rfl rfl (Nat.le_of_ble_eq_true rfl) rfl (ab_rvOf w1 rfl) (sq_worthOf w_q1 I (by omega)) (by decide) rfl ?_
                                exact E_iret at_X5_says_146 rfl
                              · show Ev ab_Z0 2 141 [.ref 65, .int (nI a1k), .int (nI 5)] (ww im lf s d k ls rf rz ra rn rq lt m1 m2 m3 m4 bd fc hd sz el s g fm hm so si sh ce ca td wa kp la bf oo bo pw ow tr) (some (.int (nI (qWorth s xq))), (ww im lf s d k ls rf rz ra rn rq lt m1 m2 m3 m4 bd fc hd sz el s g fm hm so si sh ce ca td wa kp la bf oo bo pw ow tr))
                                refine Ef.in (md := mX6_says) (L := [some (.ref 65), some (.int (nI a1k)), some (.int (nI 5)), none, none, none]) rfl (Nat.le_of_ble_eq_true rfl) rfl ?_
                                refine E_aload_n at_X6_says_0 rfl ?_
                                refine E_iload_n at_X6_says_1 rfl ?_
                                refine E_callV (v := some (.int (nI 1))) (As := [.ref 65, .int (nI a1k)]) (r0 := []) (cs2 := (ww im lf s d k ls rf rz ra rn rq lt m1 m2 m3 m4 bd fc hd sz el s g fm hm so si sh ce ca td wa kp la bf oo bo pw ow tr)) at_X6_says_2 rfl rfl (Nat.le_of_ble_eq_true rfl) rfl (ab_rvOf w65 rfl) (L40_X6_isShelf (by omega) (by omega) (by omega)) (by decide) rfl ?_
                                refine E_if (t := 18) (b := false) at_X6_says_5 rfl (by decide) ?_
                                refine E_iload_n at_X6_says_8 rfl ?_
                                refine E_if (t := 18) (b := false) at_X6_says_9 rfl (by decide) ?_
                                refine E_iload_n at_X6_says_12 rfl ?_
                                refine E_bipush (x := nI 6) at_X6_says_13 (by decide) ?_
                                refine E_ic (t := 24) (b := true) at_X6_says_15 rfl (by decide) ?_
                                refine E_aload_n at_X6_says_24 rfl ?_
                                refine E_getfield (v := .ref 76) at_X6_says_25 w65 rfl (by decide) rfl ?_
                                refine E_iload_n at_X6_says_28 rfl ?_
                                refine E_ialN (l := hm) (v := hm.getD a1k 0) at_X6_says_29 w76 (by omega) (by omega) rfl ?_
                                refine E_iconst (x := nI 1) at_X6_says_30 (by decide) ?_
                                refine E_ic (t := 41) (b := true) at_X6_says_31 rfl ((cn_ne (nI_toInt (by omega)) (nI_toInt (by omega))).trans (decide_eq_true (by omega))) ?_
                                refine E_aload_n at_X6_says_41 rfl ?_
                                refine E_getfield (v := .ref 76) at_X6_says_42 w65 rfl (by decide) rfl ?_
                                refine E_iload_n at_X6_says_45 rfl ?_
                                refine E_ialN (l := hm) (v := hm.getD a1k 0) at_X6_says_46 w76 (by omega) (by omega) rfl ?_
                                refine E_if (t := 57) (b := true) at_X6_says_47 rfl ((cn_ne (nI_toInt (by omega)) (by decide : (0 : Int32).toInt = 0)).trans (decide_eq_true (by omega))) ?_
                                refine E_aload_n at_X6_says_57 rfl ?_
                                refine E_getfield (v := .ref 79) at_X6_says_58 w65 rfl (by decide) rfl ?_
                                refine E_iload_n at_X6_says_61 rfl ?_
                                refine E_ialI (l := sh) (v := nI xq) at_X6_says_62 w79 (by omega) (by omega) u5 ?_
                                refine E_istore_n (L2 := [some (.ref 65), some (.int (nI a1k)), some (.int (nI 5)), some (.int (nI xq)), none, none]) at_X6_says_63 rfl ?_
                                refine E_aload_n at_X6_says_64 rfl ?_
                                refine E_getfield (v := .ref 67) at_X6_says_65 w65 rfl (by decide) rfl ?_
                                refine E_iload_n at_X6_says_68 rfl ?_
                                refine E_ialN (l := qK s) (v := (qK s).getD xq 0) at_X6_says_69 w67 (by omega) (by omega) rfl ?_
                                refine E_istore (L2 := [some (.ref 65), some (.int (nI a1k)), some (.int (nI 5)), some (.int (nI xq)), some (.int (nI ((qK s).getD xq 0))), none]) at_X6_says_70 rfl ?_
                                refine E_iload_n at_X6_says_72 rfl ?_
                                refine E_iconst (x := nI 1) at_X6_says_73 (by decide) ?_
                                refine E_ic (t := 83) (b := true) at_X6_says_74 rfl (by decide) ?_
                                refine E_iload_n at_X6_says_83 rfl ?_
                                refine E_iconst (x := nI 2) at_X6_says_84 (by decide) ?_
                                refine E_ic (t := 94) (b := true) at_X6_says_85 rfl (by decide) ?_
                                refine E_iload_n at_X6_says_94 rfl ?_
                                refine E_iconst (x := nI 4) at_X6_says_95 (by decide) ?_
                                refine E_ic (t := 110) (b := true) at_X6_says_96 rfl (by decide) ?_
                                refine E_iconst (x := nI 0) at_X6_says_110 (by decide) ?_
                                refine E_istore (L2 := [some (.ref 65), some (.int (nI a1k)), some (.int (nI 5)), some (.int (nI xq)), some (.int (nI ((qK s).getD xq 0))), some (.int (nI 0))]) at_X6_says_111 rfl ?_
                                refine E_iload_n at_X6_says_113 rfl ?_
                                refine E_if (t := 135) (b := false) at_X6_says_114 rfl (by decide) ?_
                                refine E_iload_n at_X6_says_117 rfl ?_
                                refine E_iload at_X6_says_118 rfl ?_
                                refine E_ic (t := 135) (b := true) at_X6_says_120 rfl ((cn_eq (nI_toInt (by omega)) (nI_toInt (by omega))).trans (decide_eq_true (by omega))) ?_
                                refine E_iload_n at_X6_says_135 rfl ?_
                                refine E_tsIn (off := 53) (t := 189) at_X6_says_136 (by decide) rfl rfl ?_
                                refine E_aload_n at_X6_says_189 rfl ?_
                                refine E_iload_n at_X6_says_190 rfl ?_
                                refine E_callV (v := some (.int (nI (qWorth s xq)))) (As := [.ref 65, .int (nI xq)]) (r0 := []) (cs2 := (ww im lf s d k ls rf rz ra rn rq lt m1 m2 m3 m4 bd fc hd sz el s g fm hm so si sh ce ca td wa kp la bf oo bo pw ow tr)) at_X6_says_191 rfl rfl (Nat.le_of_ble_eq_true rfl) rfl (ab_rvOf w65 rfl) (mo_worth w_m I (by omega)) (by decide) rfl ?_
                                exact E_iret at_X6_says_194 rfl
                              · exact ⟨I, rfl, hf, iQ, iM, iT, iS, l_el, (lr.1), (lr.2.1), (lr.2.2.1), (lr.2.2.2.1), (lr.2.2.2.2.1), (lr.2.2.2.2.2.1), (lr.2.2.2.2.2.2.1), (lr.2.2.2.2.2.2.2.1), (lr.2.2.2.2.2.2.2.2.1), (lr.2.2.2.2.2.2.2.2.2.1), (lr.2.2.2.2.2.2.2.2.2.2.1), (lr.2.2.2.2.2.2.2.2.2.2.2.1), (lr.2.2.2.2.2.2.2.2.2.2.2.2.1), (lr.2.2.2.2.2.2.2.2.2.2.2.2.2.1), (lr.2.2.2.2.2.2.2.2.2.2.2.2.2.2.1), (lr.2.2.2.2.2.2.2.2.2.2.2.2.2.2.2.1), (lr.2.2.2.2.2.2.2.2.2.2.2.2.2.2.2.2.1), (lr.2.2.2.2.2.2.2.2.2.2.2.2.2.2.2.2.2.1), (lr.2.2.2.2.2.2.2.2.2.2.2.2.2.2.2.2.2.2.1), (lr.2.2.2.2.2.2.2.2.2.2.2.2.2.2.2.2.2.2.2.1), (lr.2.2.2.2.2.2.2.2.2.2.2.2.2.2.2.2.2.2.2.2)⟩
                          · have := I1 xq (by omega)
                            have := qOf_spec ((qK s).getD xq 0) a2k
                            exfalso; omega
                      · have := I1 xq (by omega)
                        have := qOf_spec ((qK s).getD xq 0) a2k
                        refine ⟨(-2), (im, lf, s, d, k, ls, rf, rz, ra, rn, rq, lt, m1, m2, m3, m4, bd, (fc.set 2 ((fc.getD 2 0) + (nI 1))), hd, sz, el, s, g, fm, hm, so, si, sh, ce, ca, td, wa, kp, la, bf, oo, bo, pw, ow, tr), (im, lf, s, d, k, ls, rf, rz, ra, rn, rq, lt, m1, m2, m3, m4, bd, (fc.set 2 ((fc.getD 2 0) + (nI 1))), hd, sz, el, s, g, (fm.set 2 ((fm.getD 2 0) + (nI 1))), hm, so, si, sh, ce, ca, td, wa, kp, la, bf, oo, bo, pw, ow, tr), ?_, ?_, ?_⟩
                        · show Ev ab_Z0 3 82 [.ref 0, .int (nI a1k), .int (nI a2k)] (ww im lf s d k ls rf rz ra rn rq lt m1 m2 m3 m4 bd fc hd sz el s g fm hm so si sh ce ca td wa kp la bf oo bo pw ow tr) (some (.int (-2)), (ww im lf s d k ls rf rz ra rn rq lt m1 m2 m3 m4 bd (fc.set 2 ((fc.getD 2 0) + (nI 1))) hd sz el s g fm hm so si sh ce ca td wa kp la bf oo bo pw ow tr))
                          refine Ef.in (md := mX5_says) (L := [some (.ref 0), some (.int (nI a1k)), some (.int (nI a2k)), none, none]) rfl (Nat.le_of_ble_eq_true rfl) rfl ?_
                          refine E_iload_n at_X5_says_0 rfl ?_
                          refine E_callS (v := some (.int (nI 1))) (As := [.int (nI a1k)]) (r0 := []) (cs2 := (ww im lf s d k ls rf rz ra rn rq lt m1 m2 m3 m4 bd fc hd sz el s g fm hm so si sh ce ca td wa kp la bf oo bo pw ow tr)) at_X5_says_1 rfl rfl (Nat.le_of_ble_eq_true rfl) rfl (L39_X5_isShelf (by omega) (by omega) (by omega)) (by decide) rfl ?_
                          refine E_if (t := 14) (b := false) at_X5_says_4 rfl (by decide) ?_
                          refine E_iload_n at_X5_says_7 rfl ?_
                          refine E_callS (v := some (.int (nI 1))) (As := [.int (nI a2k)]) (r0 := []) (cs2 := (ww im lf s d k ls rf rz ra rn rq lt m1 m2 m3 m4 bd fc hd sz el s g fm hm so si sh ce ca td wa kp la bf oo bo pw ow tr)) at_X5_says_8 rfl rfl (Nat.le_of_ble_eq_true rfl) rfl (L57_X4_isKind (by omega) (by omega) (by omega)) (by decide) rfl ?_
                          refine E_if (t := 20) (b := true) at_X5_says_11 rfl (by decide) ?_
                          refine E_aload_n at_X5_says_20 rfl ?_
                          refine E_getfield (v := .ref 31) at_X5_says_21 w0 rfl (by decide) rfl ?_
                          refine E_iload_n at_X5_says_24 rfl ?_
                          refine E_aalN (b := 49 + 2 * a1k) at_X5_says_25 w31 (by omega) (w_shs (by omega)) ?_
                          refine E_astore_n (L2 := [some (.ref 0), some (.int (nI a1k)), some (.int (nI a2k)), some (.ref (49 + 2 * a1k)), none]) at_X5_says_26 rfl ?_
                          refine E_aload_n at_X5_says_27 rfl ?_
                          have e1 : Ev ab_Z0 1 32 [.ref (49 + 2 * a1k)] (ww im lf s d k ls rf rz ra rn rq lt m1 m2 m3 m4 bd fc hd sz el s g fm hm so si sh ce ca td wa kp la bf oo bo pw ow tr) (some (.int (nI 0)), (ww im lf s d k ls rf rz ra rn rq lt m1 m2 m3 m4 bd fc hd sz el s g fm hm so si sh ce ca td wa kp la bf oo bo pw ow tr)) := by
                            refine Ef.in (md := mX3_isEmpty) (L := [some (.ref (49 + 2 * a1k))]) rfl (Nat.le_of_ble_eq_true rfl) rfl ?_
                            refine E_aload_n at_X3_isEmpty_0 rfl ?_
                            refine E_getfield (v := .int (nI xq)) at_X3_isEmpty_1 (w_shv (j := a1k) (by omega) u2 u3) rfl (by decide) rfl ?_
                            refine E_iconst (x := (-1)) at_X3_isEmpty_4 (by decide) ?_
                            refine E_ic (t := 12) (b := true) at_X3_isEmpty_5 rfl ((cn_ne (nI_toInt (by omega)) (by decide : (-1 : Int32).toInt = -1)).trans (decide_eq_true (by omega))) ?_
                            refine E_iconst (x := nI 0) at_X3_isEmpty_12 (by decide) ?_
                            exact E_iret at_X3_isEmpty_13 rfl
                          refine E_callV (v := some (.int (nI 0))) (As := [.ref (49 + 2 * a1k)]) (r0 := []) (cs2 := (ww im lf s d k ls rf rz ra rn rq lt m1 m2 m3 m4 bd fc hd sz el s g fm hm so si sh ce ca td wa kp la bf oo bo pw ow tr)) at_X5_says_28 rfl rfl (Nat.le_of_ble_eq_true rfl) rfl (ab_rvOf (w_shv (j := a1k) (by omega) u2 u3) rfl) e1 (by decide) rfl ?_
                          refine E_if (t := 40) (b := true) at_X5_says_31 rfl (by decide) ?_
                          refine E_aload_n at_X5_says_40 rfl ?_
                          refine E_getfield (v := .int (nI xq)) at_X5_says_41 (w_shv (j := a1k) (by omega) u2 u3) rfl (by decide) rfl ?_
                          refine E_istore (L2 := [some (.ref 0), some (.int (nI a1k)), some (.int (nI a2k)), some (.ref (49 + 2 * a1k)), some (.int (nI xq))]) at_X5_says_44 rfl ?_
                          refine E_aload_n at_X5_says_46 rfl ?_
                          refine E_getfield (v := .ref 1) at_X5_says_47 w0 rfl (by decide) rfl ?_
                          refine E_iload at_X5_says_50 rfl ?_
                          refine E_callV (v := some (.int (nI 1))) (As := [.ref 1, .int (nI xq)]) (r0 := []) (cs2 := (ww im lf s d k ls rf rz ra rn rq lt m1 m2 m3 m4 bd fc hd sz el s g fm hm so si sh ce ca td wa kp la bf oo bo pw ow tr)) at_X5_says_52 rfl rfl (Nat.le_of_ble_eq_true rfl) rfl (ab_rvOf w1 rfl) (L15_X4_isPiece (by omega) (by omega) (by omega) (by omega)) (by decide) rfl ?_
                          refine E_if (t := 71) (b := false) at_X5_says_55 rfl (by decide) ?_
                          refine E_aload_n at_X5_says_58 rfl ?_
                          refine E_getfield (v := .ref 1) at_X5_says_59 w0 rfl (by decide) rfl ?_
                          refine E_iload at_X5_says_62 rfl ?_
                          refine E_iload_n at_X5_says_64 rfl ?_
                          refine E_callV (v := some (.int (nI (qOf ((qK s).getD xq 0) a2k)))) (As := [.ref 1, .int (nI xq), .int (nI a2k)]) (r0 := []) (cs2 := (ww im lf s d k ls rf rz ra rn rq lt m1 m2 m3 m4 bd fc hd sz el s g fm hm so si sh ce ca td wa kp la bf oo bo pw ow tr)) at_X5_says_65 rfl rfl (Nat.le_of_ble_eq_true rfl) rfl (ab_rvOf w1 rfl) (sq_isOfKind w_q1 I (w_none 0) (by omega) (by omega)) (by decide) rfl ?_
                          refine E_if (t := 77) (b := false) at_X5_says_68 rfl ((cn_ne (nI_toInt (by omega)) (by decide : (0 : Int32).toInt = 0)).trans (decide_eq_false (by omega))) ?_
                          refine E_aload_n at_X5_says_71 rfl ?_
                          refine E_iconst (x := nI 2) at_X5_says_72 (by decide) ?_
                          refine E_callV (v := some (.int (-2))) (As := [.ref 0, .int (nI 2)]) (r0 := []) (cs2 := (ww im lf s d k ls rf rz ra rn rq lt m1 m2 m3 m4 bd (fc.set 2 ((fc.getD 2 0) + (nI 1))) hd sz el s g fm hm so si sh ce ca td wa kp la bf oo bo pw ow tr)) at_X5_says_73 rfl rfl (Nat.le_of_ble_eq_true rfl) rfl (ab_rvOf w0 rfl) (L55_X5_refuse (by omega)) (by decide) w_lens ?_
                          exact E_iret at_X5_says_76 rfl
                        · show Ev ab_Z0 2 141 [.ref 65, .int (nI a1k), .int (nI a2k)] (ww im lf s d k ls rf rz ra rn rq lt m1 m2 m3 m4 bd (fc.set 2 ((fc.getD 2 0) + (nI 1))) hd sz el s g fm hm so si sh ce ca td wa kp la bf oo bo pw ow tr) (some (.int (-2)), (ww im lf s d k ls rf rz ra rn rq lt m1 m2 m3 m4 bd (fc.set 2 ((fc.getD 2 0) + (nI 1))) hd sz el s g (fm.set 2 ((fm.getD 2 0) + (nI 1))) hm so si sh ce ca td wa kp la bf oo bo pw ow tr))
                          refine Ef.in (md := mX6_says) (L := [some (.ref 65), some (.int (nI a1k)), some (.int (nI a2k)), none, none, none]) rfl (Nat.le_of_ble_eq_true rfl) rfl ?_
                          refine E_aload_n at_X6_says_0 rfl ?_
                          refine E_iload_n at_X6_says_1 rfl ?_
                          refine E_callV (v := some (.int (nI 1))) (As := [.ref 65, .int (nI a1k)]) (r0 := []) (cs2 := (ww im lf s d k ls rf rz ra rn rq lt m1 m2 m3 m4 bd (fc.set 2 ((fc.getD 2 0) + (nI 1))) hd sz el s g fm hm so si sh ce ca td wa kp la bf oo bo pw ow tr)) at_X6_says_2 rfl rfl (Nat.le_of_ble_eq_true rfl) rfl (ab_rvOf w65 rfl) (L40_X6_isShelf (by omega) (by omega) (by omega)) (by decide) rfl ?_
                          refine E_if (t := 18) (b := false) at_X6_says_5 rfl (by decide) ?_
                          refine E_iload_n at_X6_says_8 rfl ?_
                          refine E_if (t := 18) (b := false) at_X6_says_9 rfl ((cn_lt (nI_toInt (by omega)) (by decide : (0 : Int32).toInt = 0)).trans (decide_eq_false (by omega))) ?_
                          refine E_iload_n at_X6_says_12 rfl ?_
                          refine E_bipush (x := nI 6) at_X6_says_13 (by decide) ?_
                          refine E_ic (t := 24) (b := true) at_X6_says_15 rfl ((cn_le (nI_toInt (by omega)) (nI_toInt (by omega))).trans (decide_eq_true (by omega))) ?_
                          refine E_aload_n at_X6_says_24 rfl ?_
                          refine E_getfield (v := .ref 76) at_X6_says_25 w65 rfl (by decide) rfl ?_
                          refine E_iload_n at_X6_says_28 rfl ?_
                          refine E_ialN (l := hm) (v := hm.getD a1k 0) at_X6_says_29 w76 (by omega) (by omega) rfl ?_
                          refine E_iconst (x := nI 1) at_X6_says_30 (by decide) ?_
                          refine E_ic (t := 41) (b := true) at_X6_says_31 rfl ((cn_ne (nI_toInt (by omega)) (nI_toInt (by omega))).trans (decide_eq_true (by omega))) ?_
                          refine E_aload_n at_X6_says_41 rfl ?_
                          refine E_getfield (v := .ref 76) at_X6_says_42 w65 rfl (by decide) rfl ?_
                          refine E_iload_n at_X6_says_45 rfl ?_
                          refine E_ialN (l := hm) (v := hm.getD a1k 0) at_X6_says_46 w76 (by omega) (by omega) rfl ?_
                          refine E_if (t := 57) (b := true) at_X6_says_47 rfl ((cn_ne (nI_toInt (by omega)) (by decide : (0 : Int32).toInt = 0)).trans (decide_eq_true (by omega))) ?_
                          refine E_aload_n at_X6_says_57 rfl ?_
                          refine E_getfield (v := .ref 79) at_X6_says_58 w65 rfl (by decide) rfl ?_
                          refine E_iload_n at_X6_says_61 rfl ?_
                          refine E_ialI (l := sh) (v := nI xq) at_X6_says_62 w79 (by omega) (by omega) u5 ?_
                          refine E_istore_n (L2 := [some (.ref 65), some (.int (nI a1k)), some (.int (nI a2k)), some (.int (nI xq)), none, none]) at_X6_says_63 rfl ?_
                          refine E_aload_n at_X6_says_64 rfl ?_
                          refine E_getfield (v := .ref 67) at_X6_says_65 w65 rfl (by decide) rfl ?_
                          refine E_iload_n at_X6_says_68 rfl ?_
                          refine E_ialN (l := qK s) (v := (qK s).getD xq 0) at_X6_says_69 w67 (by omega) (by omega) rfl ?_
                          refine E_istore (L2 := [some (.ref 65), some (.int (nI a1k)), some (.int (nI a2k)), some (.int (nI xq)), some (.int (nI ((qK s).getD xq 0))), none]) at_X6_says_70 rfl ?_
                          refine E_iload_n at_X6_says_72 rfl ?_
                          refine E_iconst (x := nI 1) at_X6_says_73 (by decide) ?_
                          refine E_ic (t := 83) (b := true) at_X6_says_74 rfl ((cn_ne (nI_toInt (by omega)) (nI_toInt (by omega))).trans (decide_eq_true (by omega))) ?_
                          refine E_iload_n at_X6_says_83 rfl ?_
                          refine E_iconst (x := nI 2) at_X6_says_84 (by decide) ?_
                          refine E_ic (t := 94) (b := true) at_X6_says_85 rfl ((cn_ne (nI_toInt (by omega)) (nI_toInt (by omega))).trans (decide_eq_true (by omega))) ?_
                          refine E_iload_n at_X6_says_94 rfl ?_
                          refine E_iconst (x := nI 4) at_X6_says_95 (by decide) ?_
                          refine E_ic (t := 110) (b := true) at_X6_says_96 rfl ((cn_ne (nI_toInt (by omega)) (nI_toInt (by omega))).trans (decide_eq_true (by omega))) ?_
                          refine E_iconst (x := nI 0) at_X6_says_110 (by decide) ?_
                          refine E_istore (L2 := [some (.ref 65), some (.int (nI a1k)), some (.int (nI a2k)), some (.int (nI xq)), some (.int (nI ((qK s).getD xq 0))), some (.int (nI 0))]) at_X6_says_111 rfl ?_
                          refine E_iload_n at_X6_says_113 rfl ?_
                          refine E_if (t := 135) (b := false) at_X6_says_114 rfl ((cn_eq (nI_toInt (by omega)) (by decide : (0 : Int32).toInt = 0)).trans (decide_eq_false (by omega))) ?_
                          refine E_iload_n at_X6_says_117 rfl ?_
                          refine E_iload at_X6_says_118 rfl ?_
                          refine E_ic (t := 135) (b := false) at_X6_says_120 rfl ((cn_eq (nI_toInt (by omega)) (nI_toInt (by omega))).trans (decide_eq_false (by omega))) ?_
                          refine E_iload at_X6_says_123 rfl ?_
                          refine E_if (t := 135) (b := false) at_X6_says_125 rfl (by decide) ?_
                          refine E_aload_n at_X6_says_128 rfl ?_
                          refine E_bipush (x := (-2)) at_X6_says_129 (by decide) ?_
                          refine E_callV (v := some (.int (-2))) (As := [.ref 65, .int (-2)]) (r0 := []) (cs2 := (ww im lf s d k ls rf rz ra rn rq lt m1 m2 m3 m4 bd (fc.set 2 ((fc.getD 2 0) + (nI 1))) hd sz el s g (fm.set 2 ((fm.getD 2 0) + (nI 1))) hm so si sh ce ca td wa kp la bf oo bo pw ow tr)) at_X6_says_131 rfl rfl (Nat.le_of_ble_eq_true rfl) rfl (ab_rvOf w65 rfl) (L56_X6_no (by omega)) (by decide) w_lens ?_
                          exact E_iret at_X6_says_134 rfl
                        · exact ⟨I, rfl, hf, iQ, iM, iT, iS, l_el, (lr.1), (lr.2.1), (lr.2.2.1), (by simp only [List.length_set]; exact (lr.2.2.2.1)), (by simp only [List.length_set]; exact (lr.2.2.2.2.1)), (lr.2.2.2.2.2.1), (lr.2.2.2.2.2.2.1), (lr.2.2.2.2.2.2.2.1), (lr.2.2.2.2.2.2.2.2.1), (lr.2.2.2.2.2.2.2.2.2.1), (lr.2.2.2.2.2.2.2.2.2.2.1), (lr.2.2.2.2.2.2.2.2.2.2.2.1), (lr.2.2.2.2.2.2.2.2.2.2.2.2.1), (lr.2.2.2.2.2.2.2.2.2.2.2.2.2.1), (lr.2.2.2.2.2.2.2.2.2.2.2.2.2.2.1), (lr.2.2.2.2.2.2.2.2.2.2.2.2.2.2.2.1), (lr.2.2.2.2.2.2.2.2.2.2.2.2.2.2.2.2.1), (lr.2.2.2.2.2.2.2.2.2.2.2.2.2.2.2.2.2.1), (lr.2.2.2.2.2.2.2.2.2.2.2.2.2.2.2.2.2.2.1), (lr.2.2.2.2.2.2.2.2.2.2.2.2.2.2.2.2.2.2.2.1), (lr.2.2.2.2.2.2.2.2.2.2.2.2.2.2.2.2.2.2.2.2)⟩
            · by_cases f6 : a2k = 0
              · subst f6
                by_cases f7 : (qOf ((qK s).getD xq 0) 0) = 0
                · have := I1 xq (by omega)
                  have := qOf_spec ((qK s).getD xq 0) 0
                  exfalso; omega
                · have := I1 xq (by omega)
                  have := qOf_spec ((qK s).getD xq 0) 0
                  refine ⟨(nI ((qB s).getD xq 0)), (im, lf, s, d, k, ls, rf, rz, ra, rn, rq, lt, m1, m2, m3, m4, bd, fc, hd, sz, el, s, g, fm, hm, so, si, sh, ce, ca, td, wa, kp, la, bf, oo, bo, pw, ow, tr), (im, lf, s, d, k, ls, rf, rz, ra, rn, rq, lt, m1, m2, m3, m4, bd, fc, hd, sz, el, s, g, fm, hm, so, si, sh, ce, ca, td, wa, kp, la, bf, oo, bo, pw, ow, tr), ?_, ?_, ?_⟩
                  · show Ev ab_Z0 3 82 [.ref 0, .int (nI a1k), .int (nI 0)] (ww im lf s d k ls rf rz ra rn rq lt m1 m2 m3 m4 bd fc hd sz el s g fm hm so si sh ce ca td wa kp la bf oo bo pw ow tr) (some (.int (nI ((qB s).getD xq 0))), (ww im lf s d k ls rf rz ra rn rq lt m1 m2 m3 m4 bd fc hd sz el s g fm hm so si sh ce ca td wa kp la bf oo bo pw ow tr))
                    refine Ef.in (md := mX5_says) (L := [some (.ref 0), some (.int (nI a1k)), some (.int (nI 0)), none, none]) rfl (Nat.le_of_ble_eq_true rfl) rfl ?_
                    refine E_iload_n at_X5_says_0 rfl ?_
                    refine E_callS (v := some (.int (nI 1))) (As := [.int (nI a1k)]) (r0 := []) (cs2 := (ww im lf s d k ls rf rz ra rn rq lt m1 m2 m3 m4 bd fc hd sz el s g fm hm so si sh ce ca td wa kp la bf oo bo pw ow tr)) at_X5_says_1 rfl rfl (Nat.le_of_ble_eq_true rfl) rfl (L39_X5_isShelf (by omega) (by omega) (by omega)) (by decide) rfl ?_
                    refine E_if (t := 14) (b := false) at_X5_says_4 rfl (by decide) ?_
                    refine E_iload_n at_X5_says_7 rfl ?_
                    refine E_callS (v := some (.int (nI 1))) (As := [.int (nI 0)]) (r0 := []) (cs2 := (ww im lf s d k ls rf rz ra rn rq lt m1 m2 m3 m4 bd fc hd sz el s g fm hm so si sh ce ca td wa kp la bf oo bo pw ow tr)) at_X5_says_8 rfl rfl (Nat.le_of_ble_eq_true rfl) rfl (L61_X4_isKind) (by decide) rfl ?_
                    refine E_if (t := 20) (b := true) at_X5_says_11 rfl (by decide) ?_
                    refine E_aload_n at_X5_says_20 rfl ?_
                    refine E_getfield (v := .ref 31) at_X5_says_21 w0 rfl (by decide) rfl ?_
                    refine E_iload_n at_X5_says_24 rfl ?_
                    refine E_aalN (b := 49 + 2 * a1k) at_X5_says_25 w31 (by omega) (w_shs (by omega)) ?_
                    refine E_astore_n (L2 := [some (.ref 0), some (.int (nI a1k)), some (.int (nI 0)), some (.ref (49 + 2 * a1k)), none]) at_X5_says_26 rfl ?_
                    refine E_aload_n at_X5_says_27 rfl ?_
                    have e1 : Ev ab_Z0 1 32 [.ref (49 + 2 * a1k)] (ww im lf s d k ls rf rz ra rn rq lt m1 m2 m3 m4 bd fc hd sz el s g fm hm so si sh ce ca td wa kp la bf oo bo pw ow tr) (some (.int (nI 0)), (ww im lf s d k ls rf rz ra rn rq lt m1 m2 m3 m4 bd fc hd sz el s g fm hm so si sh ce ca td wa kp la bf oo bo pw ow tr)) := by
                      refine Ef.in (md := mX3_isEmpty) (L := [some (.ref (49 + 2 * a1k))]) rfl (Nat.le_of_ble_eq_true rfl) rfl ?_
                      refine E_aload_n at_X3_isEmpty_0 rfl ?_
                      refine E_getfield (v := .int (nI xq)) at_X3_isEmpty_1 (w_shv (j := a1k) (by omega) u2 u3) rfl (by decide) rfl ?_
                      refine E_iconst (x := (-1)) at_X3_isEmpty_4 (by decide) ?_
                      refine E_ic (t := 12) (b := true) at_X3_isEmpty_5 rfl ((cn_ne (nI_toInt (by omega)) (by decide : (-1 : Int32).toInt = -1)).trans (decide_eq_true (by omega))) ?_
                      refine E_iconst (x := nI 0) at_X3_isEmpty_12 (by decide) ?_
                      exact E_iret at_X3_isEmpty_13 rfl
                    refine E_callV (v := some (.int (nI 0))) (As := [.ref (49 + 2 * a1k)]) (r0 := []) (cs2 := (ww im lf s d k ls rf rz ra rn rq lt m1 m2 m3 m4 bd fc hd sz el s g fm hm so si sh ce ca td wa kp la bf oo bo pw ow tr)) at_X5_says_28 rfl rfl (Nat.le_of_ble_eq_true rfl) rfl (ab_rvOf (w_shv (j := a1k) (by omega) u2 u3) rfl) e1 (by decide) rfl ?_
                    refine E_if (t := 40) (b := true) at_X5_says_31 rfl (by decide) ?_
                    refine E_aload_n at_X5_says_40 rfl ?_
                    refine E_getfield (v := .int (nI xq)) at_X5_says_41 (w_shv (j := a1k) (by omega) u2 u3) rfl (by decide) rfl ?_
                    refine E_istore (L2 := [some (.ref 0), some (.int (nI a1k)), some (.int (nI 0)), some (.ref (49 + 2 * a1k)), some (.int (nI xq))]) at_X5_says_44 rfl ?_
                    refine E_aload_n at_X5_says_46 rfl ?_
                    refine E_getfield (v := .ref 1) at_X5_says_47 w0 rfl (by decide) rfl ?_
                    refine E_iload at_X5_says_50 rfl ?_
                    refine E_callV (v := some (.int (nI 1))) (As := [.ref 1, .int (nI xq)]) (r0 := []) (cs2 := (ww im lf s d k ls rf rz ra rn rq lt m1 m2 m3 m4 bd fc hd sz el s g fm hm so si sh ce ca td wa kp la bf oo bo pw ow tr)) at_X5_says_52 rfl rfl (Nat.le_of_ble_eq_true rfl) rfl (ab_rvOf w1 rfl) (L15_X4_isPiece (by omega) (by omega) (by omega) (by omega)) (by decide) rfl ?_
                    refine E_if (t := 71) (b := false) at_X5_says_55 rfl (by decide) ?_
                    refine E_aload_n at_X5_says_58 rfl ?_
                    refine E_getfield (v := .ref 1) at_X5_says_59 w0 rfl (by decide) rfl ?_
                    refine E_iload at_X5_says_62 rfl ?_
                    refine E_iload_n at_X5_says_64 rfl ?_
                    refine E_callV (v := some (.int (nI (qOf ((qK s).getD xq 0) 0)))) (As := [.ref 1, .int (nI xq), .int (nI 0)]) (r0 := []) (cs2 := (ww im lf s d k ls rf rz ra rn rq lt m1 m2 m3 m4 bd fc hd sz el s g fm hm so si sh ce ca td wa kp la bf oo bo pw ow tr)) at_X5_says_65 rfl rfl (Nat.le_of_ble_eq_true rfl) rfl (ab_rvOf w1 rfl) (sq_isOfKind w_q1 I (w_none 0) (by omega) (by omega)) (by decide) rfl ?_
                    refine E_if (t := 77) (b := true) at_X5_says_68 rfl ((cn_ne (nI_toInt (by omega)) (by decide : (0 : Int32).toInt = 0)).trans (decide_eq_true (by omega))) ?_
                    refine E_iload_n at_X5_says_77 rfl ?_
                    refine E_tsIn (off := 38) (t := 116) at_X5_says_78 (by decide) rfl rfl ?_
                    refine E_aload_n rfl rfl ?_
                    refine E_getfield (v := .ref 1) rfl w0 rfl (by decide) rfl ?_
                    refine E_getfield (v := .ref 4) rfl w1 rfl (by decide) rfl ?_
                    refine E_iload rfl rfl ?_
                    refine E_ialN (l := qB s) (v := (qB s).getD xq 0) rfl w4 (by omega) (by omega) rfl ?_
                    exact E_iret rfl rfl
                  · show Ev ab_Z0 2 141 [.ref 65, .int (nI a1k), .int (nI 0)] (ww im lf s d k ls rf rz ra rn rq lt m1 m2 m3 m4 bd fc hd sz el s g fm hm so si sh ce ca td wa kp la bf oo bo pw ow tr) (some (.int (nI ((qB s).getD xq 0))), (ww im lf s d k ls rf rz ra rn rq lt m1 m2 m3 m4 bd fc hd sz el s g fm hm so si sh ce ca td wa kp la bf oo bo pw ow tr))
                    refine Ef.in (md := mX6_says) (L := [some (.ref 65), some (.int (nI a1k)), some (.int (nI 0)), none, none, none]) rfl (Nat.le_of_ble_eq_true rfl) rfl ?_
                    refine E_aload_n at_X6_says_0 rfl ?_
                    refine E_iload_n at_X6_says_1 rfl ?_
                    refine E_callV (v := some (.int (nI 1))) (As := [.ref 65, .int (nI a1k)]) (r0 := []) (cs2 := (ww im lf s d k ls rf rz ra rn rq lt m1 m2 m3 m4 bd fc hd sz el s g fm hm so si sh ce ca td wa kp la bf oo bo pw ow tr)) at_X6_says_2 rfl rfl (Nat.le_of_ble_eq_true rfl) rfl (ab_rvOf w65 rfl) (L40_X6_isShelf (by omega) (by omega) (by omega)) (by decide) rfl ?_
                    refine E_if (t := 18) (b := false) at_X6_says_5 rfl (by decide) ?_
                    refine E_iload_n at_X6_says_8 rfl ?_
                    refine E_if (t := 18) (b := false) at_X6_says_9 rfl (by decide) ?_
                    refine E_iload_n at_X6_says_12 rfl ?_
                    refine E_bipush (x := nI 6) at_X6_says_13 (by decide) ?_
                    refine E_ic (t := 24) (b := true) at_X6_says_15 rfl (by decide) ?_
                    refine E_aload_n at_X6_says_24 rfl ?_
                    refine E_getfield (v := .ref 76) at_X6_says_25 w65 rfl (by decide) rfl ?_
                    refine E_iload_n at_X6_says_28 rfl ?_
                    refine E_ialN (l := hm) (v := hm.getD a1k 0) at_X6_says_29 w76 (by omega) (by omega) rfl ?_
                    refine E_iconst (x := nI 1) at_X6_says_30 (by decide) ?_
                    refine E_ic (t := 41) (b := true) at_X6_says_31 rfl ((cn_ne (nI_toInt (by omega)) (nI_toInt (by omega))).trans (decide_eq_true (by omega))) ?_
                    refine E_aload_n at_X6_says_41 rfl ?_
                    refine E_getfield (v := .ref 76) at_X6_says_42 w65 rfl (by decide) rfl ?_
                    refine E_iload_n at_X6_says_45 rfl ?_
                    refine E_ialN (l := hm) (v := hm.getD a1k 0) at_X6_says_46 w76 (by omega) (by omega) rfl ?_
                    refine E_if (t := 57) (b := true) at_X6_says_47 rfl ((cn_ne (nI_toInt (by omega)) (by decide : (0 : Int32).toInt = 0)).trans (decide_eq_true (by omega))) ?_
                    refine E_aload_n at_X6_says_57 rfl ?_
                    refine E_getfield (v := .ref 79) at_X6_says_58 w65 rfl (by decide) rfl ?_
                    refine E_iload_n at_X6_says_61 rfl ?_
                    refine E_ialI (l := sh) (v := nI xq) at_X6_says_62 w79 (by omega) (by omega) u5 ?_
                    refine E_istore_n (L2 := [some (.ref 65), some (.int (nI a1k)), some (.int (nI 0)), some (.int (nI xq)), none, none]) at_X6_says_63 rfl ?_
                    refine E_aload_n at_X6_says_64 rfl ?_
                    refine E_getfield (v := .ref 67) at_X6_says_65 w65 rfl (by decide) rfl ?_
                    refine E_iload_n at_X6_says_68 rfl ?_
                    refine E_ialN (l := qK s) (v := (qK s).getD xq 0) at_X6_says_69 w67 (by omega) (by omega) rfl ?_
                    refine E_istore (L2 := [some (.ref 65), some (.int (nI a1k)), some (.int (nI 0)), some (.int (nI xq)), some (.int (nI ((qK s).getD xq 0))), none]) at_X6_says_70 rfl ?_
                    refine E_iload_n at_X6_says_72 rfl ?_
                    refine E_iconst (x := nI 1) at_X6_says_73 (by decide) ?_
                    refine E_ic (t := 83) (b := true) at_X6_says_74 rfl (by decide) ?_
                    refine E_iload_n at_X6_says_83 rfl ?_
                    refine E_iconst (x := nI 2) at_X6_says_84 (by decide) ?_
                    refine E_ic (t := 94) (b := true) at_X6_says_85 rfl (by decide) ?_
                    refine E_iload_n at_X6_says_94 rfl ?_
                    refine E_iconst (x := nI 4) at_X6_says_95 (by decide) ?_
                    refine E_ic (t := 110) (b := true) at_X6_says_96 rfl (by decide) ?_
                    refine E_iconst (x := nI 0) at_X6_says_110 (by decide) ?_
                    refine E_istore (L2 := [some (.ref 65), some (.int (nI a1k)), some (.int (nI 0)), some (.int (nI xq)), some (.int (nI ((qK s).getD xq 0))), some (.int (nI 0))]) at_X6_says_111 rfl ?_
                    refine E_iload_n at_X6_says_113 rfl ?_
                    refine E_if (t := 135) (b := true) at_X6_says_114 rfl (by decide) ?_
                    refine E_iload_n at_X6_says_135 rfl ?_
                    refine E_tsIn (off := 40) (t := 176) at_X6_says_136 (by decide) rfl rfl ?_
                    refine E_aload_n rfl rfl ?_
                    refine E_getfield (v := .ref 69) rfl w65 rfl (by decide) rfl ?_
                    refine E_iload_n rfl rfl ?_
                    refine E_ialN (l := qB s) (v := (qB s).getD xq 0) rfl w69 (by omega) (by omega) rfl ?_
                    exact E_iret rfl rfl
                  · exact ⟨I, rfl, hf, iQ, iM, iT, iS, l_el, (lr.1), (lr.2.1), (lr.2.2.1), (lr.2.2.2.1), (lr.2.2.2.2.1), (lr.2.2.2.2.2.1), (lr.2.2.2.2.2.2.1), (lr.2.2.2.2.2.2.2.1), (lr.2.2.2.2.2.2.2.2.1), (lr.2.2.2.2.2.2.2.2.2.1), (lr.2.2.2.2.2.2.2.2.2.2.1), (lr.2.2.2.2.2.2.2.2.2.2.2.1), (lr.2.2.2.2.2.2.2.2.2.2.2.2.1), (lr.2.2.2.2.2.2.2.2.2.2.2.2.2.1), (lr.2.2.2.2.2.2.2.2.2.2.2.2.2.2.1), (lr.2.2.2.2.2.2.2.2.2.2.2.2.2.2.2.1), (lr.2.2.2.2.2.2.2.2.2.2.2.2.2.2.2.2.1), (lr.2.2.2.2.2.2.2.2.2.2.2.2.2.2.2.2.2.1), (lr.2.2.2.2.2.2.2.2.2.2.2.2.2.2.2.2.2.2.1), (lr.2.2.2.2.2.2.2.2.2.2.2.2.2.2.2.2.2.2.2.1), (lr.2.2.2.2.2.2.2.2.2.2.2.2.2.2.2.2.2.2.2.2)⟩
              · by_cases f7 : a2k = 1
                · subst f7
                  by_cases f8 : (qOf ((qK s).getD xq 0) 1) = 0
                  · by_cases f9 : ((qK s).getD xq 0) = 3
                    · have := I1 xq (by omega)
                      have := qOf_spec ((qK s).getD xq 0) 1
                      have := qHarm_in I (x := xq) (by omega)
                      exfalso; omega
                    · by_cases f10 : 1 = ((qK s).getD xq 0)
                      · have := I1 xq (by omega)
                        have := qOf_spec ((qK s).getD xq 0) 1
                        have := qHarm_in I (x := xq) (by omega)
                        exfalso; omega
                      · have := I1 xq (by omega)
                        have := qOf_spec ((qK s).getD xq 0) 1
                        refine ⟨(-2), (im, lf, s, d, k, ls, rf, rz, ra, rn, rq, lt, m1, m2, m3, m4, bd, (fc.set 2 ((fc.getD 2 0) + (nI 1))), hd, sz, el, s, g, fm, hm, so, si, sh, ce, ca, td, wa, kp, la, bf, oo, bo, pw, ow, tr), (im, lf, s, d, k, ls, rf, rz, ra, rn, rq, lt, m1, m2, m3, m4, bd, (fc.set 2 ((fc.getD 2 0) + (nI 1))), hd, sz, el, s, g, (fm.set 2 ((fm.getD 2 0) + (nI 1))), hm, so, si, sh, ce, ca, td, wa, kp, la, bf, oo, bo, pw, ow, tr), ?_, ?_, ?_⟩
                        · show Ev ab_Z0 3 82 [.ref 0, .int (nI a1k), .int (nI 1)] (ww im lf s d k ls rf rz ra rn rq lt m1 m2 m3 m4 bd fc hd sz el s g fm hm so si sh ce ca td wa kp la bf oo bo pw ow tr) (some (.int (-2)), (ww im lf s d k ls rf rz ra rn rq lt m1 m2 m3 m4 bd (fc.set 2 ((fc.getD 2 0) + (nI 1))) hd sz el s g fm hm so si sh ce ca td wa kp la bf oo bo pw ow tr))
                          refine Ef.in (md := mX5_says) (L := [some (.ref 0), some (.int (nI a1k)), some (.int (nI 1)), none, none]) rfl (Nat.le_of_ble_eq_true rfl) rfl ?_
                          refine E_iload_n at_X5_says_0 rfl ?_
                          refine E_callS (v := some (.int (nI 1))) (As := [.int (nI a1k)]) (r0 := []) (cs2 := (ww im lf s d k ls rf rz ra rn rq lt m1 m2 m3 m4 bd fc hd sz el s g fm hm so si sh ce ca td wa kp la bf oo bo pw ow tr)) at_X5_says_1 rfl rfl (Nat.le_of_ble_eq_true rfl) rfl (L39_X5_isShelf (by omega) (by omega) (by omega)) (by decide) rfl ?_
                          refine E_if (t := 14) (b := false) at_X5_says_4 rfl (by decide) ?_
                          refine E_iload_n at_X5_says_7 rfl ?_
                          refine E_callS (v := some (.int (nI 1))) (As := [.int (nI 1)]) (r0 := []) (cs2 := (ww im lf s d k ls rf rz ra rn rq lt m1 m2 m3 m4 bd fc hd sz el s g fm hm so si sh ce ca td wa kp la bf oo bo pw ow tr)) at_X5_says_8 rfl rfl (Nat.le_of_ble_eq_true rfl) rfl (L58_X4_isKind) (by decide) rfl ?_
                          refine E_if (t := 20) (b := true) at_X5_says_11 rfl (by decide) ?_
                          refine E_aload_n at_X5_says_20 rfl ?_
                          refine E_getfield (v := .ref 31) at_X5_says_21 w0 rfl (by decide) rfl ?_
                          refine E_iload_n at_X5_says_24 rfl ?_
                          refine E_aalN (b := 49 + 2 * a1k) at_X5_says_25 w31 (by omega) (w_shs (by omega)) ?_
                          refine E_astore_n (L2 := [some (.ref 0), some (.int (nI a1k)), some (.int (nI 1)), some (.ref (49 + 2 * a1k)), none]) at_X5_says_26 rfl ?_
                          refine E_aload_n at_X5_says_27 rfl ?_
                          have e1 : Ev ab_Z0 1 32 [.ref (49 + 2 * a1k)] (ww im lf s d k ls rf rz ra rn rq lt m1 m2 m3 m4 bd fc hd sz el s g fm hm so si sh ce ca td wa kp la bf oo bo pw ow tr) (some (.int (nI 0)), (ww im lf s d k ls rf rz ra rn rq lt m1 m2 m3 m4 bd fc hd sz el s g fm hm so si sh ce ca td wa kp la bf oo bo pw ow tr)) := by
                            refine Ef.in (md := mX3_isEmpty) (L := [some (.ref (49 + 2 * a1k))]) rfl (Nat.le_of_ble_eq_true rfl) rfl ?_
                            refine E_aload_n at_X3_isEmpty_0 rfl ?_
                            refine E_getfield (v := .int (nI xq)) at_X3_isEmpty_1 (w_shv (j := a1k) (by omega) u2 u3) rfl (by decide) rfl ?_
                            refine E_iconst (x := (-1)) at_X3_isEmpty_4 (by decide) ?_
                            refine E_ic (t := 12) (b := true) at_X3_isEmpty_5 rfl ((cn_ne (nI_toInt (by omega)) (by decide : (-1 : Int32).toInt = -1)).trans (decide_eq_true (by omega))) ?_
                            refine E_iconst (x := nI 0) at_X3_isEmpty_12 (by decide) ?_
                            exact E_iret at_X3_isEmpty_13 rfl
                          refine E_callV (v := some (.int (nI 0))) (As := [.ref (49 + 2 * a1k)]) (r0 := []) (cs2 := (ww im lf s d k ls rf rz ra rn rq lt m1 m2 m3 m4 bd fc hd sz el s g fm hm so si sh ce ca td wa kp la bf oo bo pw ow tr)) at_X5_says_28 rfl rfl (Nat.le_of_ble_eq_true rfl) rfl (ab_rvOf (w_shv (j := a1k) (by omega) u2 u3) rfl) e1 (by decide) rfl ?_
                          refine E_if (t := 40) (b := true) at_X5_says_31 rfl (by decide) ?_
                          refine E_aload_n at_X5_says_40 rfl ?_
                          refine E_getfield (v := .int (nI xq)) at_X5_says_41 (w_shv (j := a1k) (by omega) u2 u3) rfl (by decide) rfl ?_
                          refine E_istore (L2 := [some (.ref 0), some (.int (nI a1k)), some (.int (nI 1)), some (.ref (49 + 2 * a1k)), some (.int (nI xq))]) at_X5_says_44 rfl ?_
                          refine E_aload_n at_X5_says_46 rfl ?_
                          refine E_getfield (v := .ref 1) at_X5_says_47 w0 rfl (by decide) rfl ?_
                          refine E_iload at_X5_says_50 rfl ?_
                          refine E_callV (v := some (.int (nI 1))) (As := [.ref 1, .int (nI xq)]) (r0 := []) (cs2 := (ww im lf s d k ls rf rz ra rn rq lt m1 m2 m3 m4 bd fc hd sz el s g fm hm so si sh ce ca td wa kp la bf oo bo pw ow tr)) at_X5_says_52 rfl rfl (Nat.le_of_ble_eq_true rfl) rfl (ab_rvOf w1 rfl) (L15_X4_isPiece (by omega) (by omega) (by omega) (by omega)) (by decide) rfl ?_
                          refine E_if (t := 71) (b := false) at_X5_says_55 rfl (by decide) ?_
                          refine E_aload_n at_X5_says_58 rfl ?_
                          refine E_getfield (v := .ref 1) at_X5_says_59 w0 rfl (by decide) rfl ?_
                          refine E_iload at_X5_says_62 rfl ?_
                          refine E_iload_n at_X5_says_64 rfl ?_
                          refine E_callV (v := some (.int (nI (qOf ((qK s).getD xq 0) 1)))) (As := [.ref 1, .int (nI xq), .int (nI 1)]) (r0 := []) (cs2 := (ww im lf s d k ls rf rz ra rn rq lt m1 m2 m3 m4 bd fc hd sz el s g fm hm so si sh ce ca td wa kp la bf oo bo pw ow tr)) at_X5_says_65 rfl rfl (Nat.le_of_ble_eq_true rfl) rfl (ab_rvOf w1 rfl) (sq_isOfKind w_q1 I (w_none 0) (by omega) (by omega)) (by decide) rfl ?_
                          refine E_if (t := 77) (b := false) at_X5_says_68 rfl ((cn_ne (nI_toInt (by omega)) (by decide : (0 : Int32).toInt = 0)).trans (decide_eq_false (by omega))) ?_
                          refine E_aload_n at_X5_says_71 rfl ?_
                          refine E_iconst (x := nI 2) at_X5_says_72 (by decide) ?_
                          refine E_callV (v := some (.int (-2))) (As := [.ref 0, .int (nI 2)]) (r0 := []) (cs2 := (ww im lf s d k ls rf rz ra rn rq lt m1 m2 m3 m4 bd (fc.set 2 ((fc.getD 2 0) + (nI 1))) hd sz el s g fm hm so si sh ce ca td wa kp la bf oo bo pw ow tr)) at_X5_says_73 rfl rfl (Nat.le_of_ble_eq_true rfl) rfl (ab_rvOf w0 rfl) (L55_X5_refuse (by omega)) (by decide) w_lens ?_
                          exact E_iret at_X5_says_76 rfl
                        · show Ev ab_Z0 2 141 [.ref 65, .int (nI a1k), .int (nI 1)] (ww im lf s d k ls rf rz ra rn rq lt m1 m2 m3 m4 bd (fc.set 2 ((fc.getD 2 0) + (nI 1))) hd sz el s g fm hm so si sh ce ca td wa kp la bf oo bo pw ow tr) (some (.int (-2)), (ww im lf s d k ls rf rz ra rn rq lt m1 m2 m3 m4 bd (fc.set 2 ((fc.getD 2 0) + (nI 1))) hd sz el s g (fm.set 2 ((fm.getD 2 0) + (nI 1))) hm so si sh ce ca td wa kp la bf oo bo pw ow tr))
                          refine Ef.in (md := mX6_says) (L := [some (.ref 65), some (.int (nI a1k)), some (.int (nI 1)), none, none, none]) rfl (Nat.le_of_ble_eq_true rfl) rfl ?_
                          refine E_aload_n at_X6_says_0 rfl ?_
                          refine E_iload_n at_X6_says_1 rfl ?_
                          refine E_callV (v := some (.int (nI 1))) (As := [.ref 65, .int (nI a1k)]) (r0 := []) (cs2 := (ww im lf s d k ls rf rz ra rn rq lt m1 m2 m3 m4 bd (fc.set 2 ((fc.getD 2 0) + (nI 1))) hd sz el s g fm hm so si sh ce ca td wa kp la bf oo bo pw ow tr)) at_X6_says_2 rfl rfl (Nat.le_of_ble_eq_true rfl) rfl (ab_rvOf w65 rfl) (L40_X6_isShelf (by omega) (by omega) (by omega)) (by decide) rfl ?_
                          refine E_if (t := 18) (b := false) at_X6_says_5 rfl (by decide) ?_
                          refine E_iload_n at_X6_says_8 rfl ?_
                          refine E_if (t := 18) (b := false) at_X6_says_9 rfl (by decide) ?_
                          refine E_iload_n at_X6_says_12 rfl ?_
                          refine E_bipush (x := nI 6) at_X6_says_13 (by decide) ?_
                          refine E_ic (t := 24) (b := true) at_X6_says_15 rfl (by decide) ?_
                          refine E_aload_n at_X6_says_24 rfl ?_
                          refine E_getfield (v := .ref 76) at_X6_says_25 w65 rfl (by decide) rfl ?_
                          refine E_iload_n at_X6_says_28 rfl ?_
                          refine E_ialN (l := hm) (v := hm.getD a1k 0) at_X6_says_29 w76 (by omega) (by omega) rfl ?_
                          refine E_iconst (x := nI 1) at_X6_says_30 (by decide) ?_
                          refine E_ic (t := 41) (b := true) at_X6_says_31 rfl ((cn_ne (nI_toInt (by omega)) (nI_toInt (by omega))).trans (decide_eq_true (by omega))) ?_
                          refine E_aload_n at_X6_says_41 rfl ?_
                          refine E_getfield (v := .ref 76) at_X6_says_42 w65 rfl (by decide) rfl ?_
                          refine E_iload_n at_X6_says_45 rfl ?_
                          refine E_ialN (l := hm) (v := hm.getD a1k 0) at_X6_says_46 w76 (by omega) (by omega) rfl ?_
                          refine E_if (t := 57) (b := true) at_X6_says_47 rfl ((cn_ne (nI_toInt (by omega)) (by decide : (0 : Int32).toInt = 0)).trans (decide_eq_true (by omega))) ?_
                          refine E_aload_n at_X6_says_57 rfl ?_
                          refine E_getfield (v := .ref 79) at_X6_says_58 w65 rfl (by decide) rfl ?_
                          refine E_iload_n at_X6_says_61 rfl ?_
                          refine E_ialI (l := sh) (v := nI xq) at_X6_says_62 w79 (by omega) (by omega) u5 ?_
                          refine E_istore_n (L2 := [some (.ref 65), some (.int (nI a1k)), some (.int (nI 1)), some (.int (nI xq)), none, none]) at_X6_says_63 rfl ?_
                          refine E_aload_n at_X6_says_64 rfl ?_
                          refine E_getfield (v := .ref 67) at_X6_says_65 w65 rfl (by decide) rfl ?_
                          refine E_iload_n at_X6_says_68 rfl ?_
                          refine E_ialN (l := qK s) (v := (qK s).getD xq 0) at_X6_says_69 w67 (by omega) (by omega) rfl ?_
                          refine E_istore (L2 := [some (.ref 65), some (.int (nI a1k)), some (.int (nI 1)), some (.int (nI xq)), some (.int (nI ((qK s).getD xq 0))), none]) at_X6_says_70 rfl ?_
                          refine E_iload_n at_X6_says_72 rfl ?_
                          refine E_iconst (x := nI 1) at_X6_says_73 (by decide) ?_
                          refine E_ic (t := 83) (b := false) at_X6_says_74 rfl (by decide) ?_
                          refine E_iload at_X6_says_77 rfl ?_
                          refine E_iconst (x := nI 3) at_X6_says_79 (by decide) ?_
                          refine E_ic (t := 106) (b := false) at_X6_says_80 rfl ((cn_eq (nI_toInt (by omega)) (nI_toInt (by omega))).trans (decide_eq_false (by omega))) ?_
                          refine E_iload_n at_X6_says_83 rfl ?_
                          refine E_iconst (x := nI 2) at_X6_says_84 (by decide) ?_
                          refine E_ic (t := 94) (b := true) at_X6_says_85 rfl (by decide) ?_
                          refine E_iload_n at_X6_says_94 rfl ?_
                          refine E_iconst (x := nI 4) at_X6_says_95 (by decide) ?_
                          refine E_ic (t := 110) (b := true) at_X6_says_96 rfl (by decide) ?_
                          refine E_iconst (x := nI 0) at_X6_says_110 (by decide) ?_
                          refine E_istore (L2 := [some (.ref 65), some (.int (nI a1k)), some (.int (nI 1)), some (.int (nI xq)), some (.int (nI ((qK s).getD xq 0))), some (.int (nI 0))]) at_X6_says_111 rfl ?_
                          refine E_iload_n at_X6_says_113 rfl ?_
                          refine E_if (t := 135) (b := false) at_X6_says_114 rfl (by decide) ?_
                          refine E_iload_n at_X6_says_117 rfl ?_
                          refine E_iload at_X6_says_118 rfl ?_
                          refine E_ic (t := 135) (b := false) at_X6_says_120 rfl ((cn_eq (nI_toInt (by omega)) (nI_toInt (by omega))).trans (decide_eq_false (by omega))) ?_
                          refine E_iload at_X6_says_123 rfl ?_
                          refine E_if (t := 135) (b := false) at_X6_says_125 rfl (by decide) ?_
                          refine E_aload_n at_X6_says_128 rfl ?_
                          refine E_bipush (x := (-2)) at_X6_says_129 (by decide) ?_
                          refine E_callV (v := some (.int (-2))) (As := [.ref 65, .int (-2)]) (r0 := []) (cs2 := (ww im lf s d k ls rf rz ra rn rq lt m1 m2 m3 m4 bd (fc.set 2 ((fc.getD 2 0) + (nI 1))) hd sz el s g (fm.set 2 ((fm.getD 2 0) + (nI 1))) hm so si sh ce ca td wa kp la bf oo bo pw ow tr)) at_X6_says_131 rfl rfl (Nat.le_of_ble_eq_true rfl) rfl (ab_rvOf w65 rfl) (L56_X6_no (by omega)) (by decide) w_lens ?_
                          exact E_iret at_X6_says_134 rfl
                        · exact ⟨I, rfl, hf, iQ, iM, iT, iS, l_el, (lr.1), (lr.2.1), (lr.2.2.1), (by simp only [List.length_set]; exact (lr.2.2.2.1)), (by simp only [List.length_set]; exact (lr.2.2.2.2.1)), (lr.2.2.2.2.2.1), (lr.2.2.2.2.2.2.1), (lr.2.2.2.2.2.2.2.1), (lr.2.2.2.2.2.2.2.2.1), (lr.2.2.2.2.2.2.2.2.2.1), (lr.2.2.2.2.2.2.2.2.2.2.1), (lr.2.2.2.2.2.2.2.2.2.2.2.1), (lr.2.2.2.2.2.2.2.2.2.2.2.2.1), (lr.2.2.2.2.2.2.2.2.2.2.2.2.2.1), (lr.2.2.2.2.2.2.2.2.2.2.2.2.2.2.1), (lr.2.2.2.2.2.2.2.2.2.2.2.2.2.2.2.1), (lr.2.2.2.2.2.2.2.2.2.2.2.2.2.2.2.2.1), (lr.2.2.2.2.2.2.2.2.2.2.2.2.2.2.2.2.2.1), (lr.2.2.2.2.2.2.2.2.2.2.2.2.2.2.2.2.2.2.1), (lr.2.2.2.2.2.2.2.2.2.2.2.2.2.2.2.2.2.2.2.1), (lr.2.2.2.2.2.2.2.2.2.2.2.2.2.2.2.2.2.2.2.2)⟩
                  · by_cases f9 : ((qK s).getD xq 0) = 3
                    · have := I1 xq (by omega)
                      have := qOf_spec ((qK s).getD xq 0) 1
                      have := qHarm_in I (x := xq) (by omega)
                      refine ⟨(nI (qHarm s xq)), (im, lf, s, d, k, ls, rf, rz, ra, rn, rq, lt, m1, m2, m3, m4, bd, fc, hd, sz, el, s, g, fm, hm, so, si, sh, ce, ca, td, wa, kp, la, bf, oo, bo, pw, ow, tr), (im, lf, s, d, k, ls, rf, rz, ra, rn, rq, lt, m1, m2, m3, m4, bd, fc, hd, sz, el, s, g, fm, hm, so, si, sh, ce, ca, td, wa, kp, la, bf, oo, bo, pw, ow, tr), ?_, ?_, ?_⟩
                      · show Ev ab_Z0 3 82 [.ref 0, .int (nI a1k), .int (nI 1)] (ww im lf s d k ls rf rz ra rn rq lt m1 m2 m3 m4 bd fc hd sz el s g fm hm so si sh ce ca td wa kp la bf oo bo pw ow tr) (some (.int (nI (qHarm s xq))), (ww im lf s d k ls rf rz ra rn rq lt m1 m2 m3 m4 bd fc hd sz el s g fm hm so si sh ce ca td wa kp la bf oo bo pw ow tr))
                        refine Ef.in (md := mX5_says) (L := [some (.ref 0), some (.int (nI a1k)), some (.int (nI 1)), none, none]) rfl (Nat.le_of_ble_eq_true rfl) rfl ?_
                        refine E_iload_n at_X5_says_0 rfl ?_
                        refine E_callS (v := some (.int (nI 1))) (As := [.int (nI a1k)]) (r0 := []) (cs2 := (ww im lf s d k ls rf rz ra rn rq lt m1 m2 m3 m4 bd fc hd sz el s g fm hm so si sh ce ca td wa kp la bf oo bo pw ow tr)) at_X5_says_1 rfl rfl (Nat.le_of_ble_eq_true rfl) rfl (L39_X5_isShelf (by omega) (by omega) (by omega)) (by decide) rfl ?_
                        refine E_if (t := 14) (b := false) at_X5_says_4 rfl (by decide) ?_
                        refine E_iload_n at_X5_says_7 rfl ?_
                        refine E_callS (v := some (.int (nI 1))) (As := [.int (nI 1)]) (r0 := []) (cs2 := (ww im lf s d k ls rf rz ra rn rq lt m1 m2 m3 m4 bd fc hd sz el s g fm hm so si sh ce ca td wa kp la bf oo bo pw ow tr)) at_X5_says_8 rfl rfl (Nat.le_of_ble_eq_true rfl) rfl (L58_X4_isKind) (by decide) rfl ?_
                        refine E_if (t := 20) (b := true) at_X5_says_11 rfl (by decide) ?_
                        refine E_aload_n at_X5_says_20 rfl ?_
                        refine E_getfield (v := .ref 31) at_X5_says_21 w0 rfl (by decide) rfl ?_
                        refine E_iload_n at_X5_says_24 rfl ?_
                        refine E_aalN (b := 49 + 2 * a1k) at_X5_says_25 w31 (by omega) (w_shs (by omega)) ?_
                        refine E_astore_n (L2 := [some (.ref 0), some (.int (nI a1k)), some (.int (nI 1)), some (.ref (49 + 2 * a1k)), none]) at_X5_says_26 rfl ?_
                        refine E_aload_n at_X5_says_27 rfl ?_
                        have e1 : Ev ab_Z0 1 32 [.ref (49 + 2 * a1k)] (ww im lf s d k ls rf rz ra rn rq lt m1 m2 m3 m4 bd fc hd sz el s g fm hm so si sh ce ca td wa kp la bf oo bo pw ow tr) (some (.int (nI 0)), (ww im lf s d k ls rf rz ra rn rq lt m1 m2 m3 m4 bd fc hd sz el s g fm hm so si sh ce ca td wa kp la bf oo bo pw ow tr)) := by
                          refine Ef.in (md := mX3_isEmpty) (L := [some (.ref (49 + 2 * a1k))]) rfl (Nat.le_of_ble_eq_true rfl) rfl ?_
                          refine E_aload_n at_X3_isEmpty_0 rfl ?_
                          refine E_getfield (v := .int (nI xq)) at_X3_isEmpty_1 (w_shv (j := a1k) (by omega) u2 u3) rfl (by decide) rfl ?_
                          refine E_iconst (x := (-1)) at_X3_isEmpty_4 (by decide) ?_
                          refine E_ic (t := 12) (b := true) at_X3_isEmpty_5 rfl ((cn_ne (nI_toInt (by omega)) (by decide : (-1 : Int32).toInt = -1)).trans (decide_eq_true (by omega))) ?_
                          refine E_iconst (x := nI 0) at_X3_isEmpty_12 (by decide) ?_
                          exact E_iret at_X3_isEmpty_13 rfl
                        refine E_callV (v := some (.int (nI 0))) (As := [.ref (49 + 2 * a1k)]) (r0 := []) (cs2 := (ww im lf s d k ls rf rz ra rn rq lt m1 m2 m3 m4 bd fc hd sz el s g fm hm so si sh ce ca td wa kp la bf oo bo pw ow tr)) at_X5_says_28 rfl rfl (Nat.le_of_ble_eq_true rfl) rfl (ab_rvOf (w_shv (j := a1k) (by omega) u2 u3) rfl) e1 (by decide) rfl ?_
                        refine E_if (t := 40) (b := true) at_X5_says_31 rfl (by decide) ?_
                        refine E_aload_n at_X5_says_40 rfl ?_
                        refine E_getfield (v := .int (nI xq)) at_X5_says_41 (w_shv (j := a1k) (by omega) u2 u3) rfl (by decide) rfl ?_
                        refine E_istore (L2 := [some (.ref 0), some (.int (nI a1k)), some (.int (nI 1)), some (.ref (49 + 2 * a1k)), some (.int (nI xq))]) at_X5_says_44 rfl ?_
                        refine E_aload_n at_X5_says_46 rfl ?_
                        refine E_getfield (v := .ref 1) at_X5_says_47 w0 rfl (by decide) rfl ?_
                        refine E_iload at_X5_says_50 rfl ?_
                        refine E_callV (v := some (.int (nI 1))) (As := [.ref 1, .int (nI xq)]) (r0 := []) (cs2 := (ww im lf s d k ls rf rz ra rn rq lt m1 m2 m3 m4 bd fc hd sz el s g fm hm so si sh ce ca td wa kp la bf oo bo pw ow tr)) at_X5_says_52 rfl rfl (Nat.le_of_ble_eq_true rfl) rfl (ab_rvOf w1 rfl) (L15_X4_isPiece (by omega) (by omega) (by omega) (by omega)) (by decide) rfl ?_
                        refine E_if (t := 71) (b := false) at_X5_says_55 rfl (by decide) ?_
                        refine E_aload_n at_X5_says_58 rfl ?_
                        refine E_getfield (v := .ref 1) at_X5_says_59 w0 rfl (by decide) rfl ?_
                        refine E_iload at_X5_says_62 rfl ?_
                        refine E_iload_n at_X5_says_64 rfl ?_
                        refine E_callV (v := some (.int (nI (qOf ((qK s).getD xq 0) 1)))) (As := [.ref 1, .int (nI xq), .int (nI 1)]) (r0 := []) (cs2 := (ww im lf s d k ls rf rz ra rn rq lt m1 m2 m3 m4 bd fc hd sz el s g fm hm so si sh ce ca td wa kp la bf oo bo pw ow tr)) at_X5_says_65 rfl rfl (Nat.le_of_ble_eq_true rfl) rfl (ab_rvOf w1 rfl) (sq_isOfKind w_q1 I (w_none 0) (by omega) (by omega)) (by decide) rfl ?_
                        refine E_if (t := 77) (b := true) at_X5_says_68 rfl ((cn_ne (nI_toInt (by omega)) (by decide : (0 : Int32).toInt = 0)).trans (decide_eq_true (by omega))) ?_
                        refine E_iload_n at_X5_says_77 rfl ?_
                        refine E_tsIn (off := 49) (t := 127) at_X5_says_78 (by decide) rfl rfl ?_
                        refine E_aload_n at_X5_says_127 rfl ?_
                        refine E_getfield (v := .ref 1) at_X5_says_128 w0 rfl (by decide) rfl ?_
                        refine E_iload at_X5_says_131 rfl ?_
                        refine E_callV (v := some (.int (nI (qHarm s xq)))) (As := [.ref 1, .int (nI xq)]) (r0 := []) (cs2 := (ww im lf s d k ls rf rz ra rn rq lt m1 m2 m3 m4 bd fc hd sz el s g fm hm so si sh ce ca td wa kp la bf oo bo pw ow tr)) at_X5_says_133 rfl rfl (Nat.le_of_ble_eq_true rfl) rfl (ab_rvOf w1 rfl) (sq_harmOf w_q1 I (by omega)) (by decide) rfl ?_
                        exact E_iret at_X5_says_136 rfl
                      · show Ev ab_Z0 2 141 [.ref 65, .int (nI a1k), .int (nI 1)] (ww im lf s d k ls rf rz ra rn rq lt m1 m2 m3 m4 bd fc hd sz el s g fm hm so si sh ce ca td wa kp la bf oo bo pw ow tr) (some (.int (nI (qHarm s xq))), (ww im lf s d k ls rf rz ra rn rq lt m1 m2 m3 m4 bd fc hd sz el s g fm hm so si sh ce ca td wa kp la bf oo bo pw ow tr))
                        refine Ef.in (md := mX6_says) (L := [some (.ref 65), some (.int (nI a1k)), some (.int (nI 1)), none, none, none]) rfl (Nat.le_of_ble_eq_true rfl) rfl ?_
                        refine E_aload_n at_X6_says_0 rfl ?_
                        refine E_iload_n at_X6_says_1 rfl ?_
                        refine E_callV (v := some (.int (nI 1))) (As := [.ref 65, .int (nI a1k)]) (r0 := []) (cs2 := (ww im lf s d k ls rf rz ra rn rq lt m1 m2 m3 m4 bd fc hd sz el s g fm hm so si sh ce ca td wa kp la bf oo bo pw ow tr)) at_X6_says_2 rfl rfl (Nat.le_of_ble_eq_true rfl) rfl (ab_rvOf w65 rfl) (L40_X6_isShelf (by omega) (by omega) (by omega)) (by decide) rfl ?_
                        refine E_if (t := 18) (b := false) at_X6_says_5 rfl (by decide) ?_
                        refine E_iload_n at_X6_says_8 rfl ?_
                        refine E_if (t := 18) (b := false) at_X6_says_9 rfl (by decide) ?_
                        refine E_iload_n at_X6_says_12 rfl ?_
                        refine E_bipush (x := nI 6) at_X6_says_13 (by decide) ?_
                        refine E_ic (t := 24) (b := true) at_X6_says_15 rfl (by decide) ?_
                        refine E_aload_n at_X6_says_24 rfl ?_
                        refine E_getfield (v := .ref 76) at_X6_says_25 w65 rfl (by decide) rfl ?_
                        refine E_iload_n at_X6_says_28 rfl ?_
                        refine E_ialN (l := hm) (v := hm.getD a1k 0) at_X6_says_29 w76 (by omega) (by omega) rfl ?_
                        refine E_iconst (x := nI 1) at_X6_says_30 (by decide) ?_
                        refine E_ic (t := 41) (b := true) at_X6_says_31 rfl ((cn_ne (nI_toInt (by omega)) (nI_toInt (by omega))).trans (decide_eq_true (by omega))) ?_
                        refine E_aload_n at_X6_says_41 rfl ?_
                        refine E_getfield (v := .ref 76) at_X6_says_42 w65 rfl (by decide) rfl ?_
                        refine E_iload_n at_X6_says_45 rfl ?_
                        refine E_ialN (l := hm) (v := hm.getD a1k 0) at_X6_says_46 w76 (by omega) (by omega) rfl ?_
                        refine E_if (t := 57) (b := true) at_X6_says_47 rfl ((cn_ne (nI_toInt (by omega)) (by decide : (0 : Int32).toInt = 0)).trans (decide_eq_true (by omega))) ?_
                        refine E_aload_n at_X6_says_57 rfl ?_
                        refine E_getfield (v := .ref 79) at_X6_says_58 w65 rfl (by decide) rfl ?_
                        refine E_iload_n at_X6_says_61 rfl ?_
                        refine E_ialI (l := sh) (v := nI xq) at_X6_says_62 w79 (by omega) (by omega) u5 ?_
                        refine E_istore_n (L2 := [some (.ref 65), some (.int (nI a1k)), some (.int (nI 1)), some (.int (nI xq)), none, none]) at_X6_says_63 rfl ?_
                        refine E_aload_n at_X6_says_64 rfl ?_
                        refine E_getfield (v := .ref 67) at_X6_says_65 w65 rfl (by decide) rfl ?_
                        refine E_iload_n at_X6_says_68 rfl ?_
                        refine E_ialN (l := qK s) (v := (qK s).getD xq 0) at_X6_says_69 w67 (by omega) (by omega) rfl ?_
                        refine E_istore (L2 := [some (.ref 65), some (.int (nI a1k)), some (.int (nI 1)), some (.int (nI xq)), some (.int (nI ((qK s).getD xq 0))), none]) at_X6_says_70 rfl ?_
                        refine E_iload_n at_X6_says_72 rfl ?_
                        refine E_iconst (x := nI 1) at_X6_says_73 (by decide) ?_
                        refine E_ic (t := 83) (b := false) at_X6_says_74 rfl (by decide) ?_
                        refine E_iload at_X6_says_77 rfl ?_
                        refine E_iconst (x := nI 3) at_X6_says_79 (by decide) ?_
                        refine E_ic (t := 106) (b := true) at_X6_says_80 rfl ((cn_eq (nI_toInt (by omega)) (nI_toInt (by omega))).trans (decide_eq_true (by omega))) ?_
                        refine E_iconst (x := nI 1) at_X6_says_106 (by decide) ?_
                        refine E_goto (t := 111) at_X6_says_107 rfl ?_
                        refine E_istore (L2 := [some (.ref 65), some (.int (nI a1k)), some (.int (nI 1)), some (.int (nI xq)), some (.int (nI ((qK s).getD xq 0))), some (.int (nI 1))]) at_X6_says_111 rfl ?_
                        refine E_iload_n at_X6_says_113 rfl ?_
                        refine E_if (t := 135) (b := false) at_X6_says_114 rfl (by decide) ?_
                        refine E_iload_n at_X6_says_117 rfl ?_
                        refine E_iload at_X6_says_118 rfl ?_
                        refine E_ic (t := 135) (b := false) at_X6_says_120 rfl ((cn_eq (nI_toInt (by omega)) (nI_toInt (by omega))).trans (decide_eq_false (by omega))) ?_
                        refine E_iload at_X6_says_123 rfl ?_
                        refine E_if (t := 135) (b := true) at_X6_says_125 rfl (by decide) ?_
                        refine E_iload_n at_X6_says_135 rfl ?_
                        refine E_tsIn (off := 47) (t := 183) at_X6_says_136 (by decide) rfl rfl ?_
                        refine E_aload_n at_X6_says_183 rfl ?_
                        refine E_iload_n at_X6_says_184 rfl ?_
                        refine E_callV (v := some (.int (nI (qHarm s xq)))) (As := [.ref 65, .int (nI xq)]) (r0 := []) (cs2 := (ww im lf s d k ls rf rz ra rn rq lt m1 m2 m3 m4 bd fc hd sz el s g fm hm so si sh ce ca td wa kp la bf oo bo pw ow tr)) at_X6_says_185 rfl rfl (Nat.le_of_ble_eq_true rfl) rfl (ab_rvOf w65 rfl) (mo_harms w_m I (by omega)) (by decide) rfl ?_
                        exact E_iret at_X6_says_188 rfl
                      · exact ⟨I, rfl, hf, iQ, iM, iT, iS, l_el, (lr.1), (lr.2.1), (lr.2.2.1), (lr.2.2.2.1), (lr.2.2.2.2.1), (lr.2.2.2.2.2.1), (lr.2.2.2.2.2.2.1), (lr.2.2.2.2.2.2.2.1), (lr.2.2.2.2.2.2.2.2.1), (lr.2.2.2.2.2.2.2.2.2.1), (lr.2.2.2.2.2.2.2.2.2.2.1), (lr.2.2.2.2.2.2.2.2.2.2.2.1), (lr.2.2.2.2.2.2.2.2.2.2.2.2.1), (lr.2.2.2.2.2.2.2.2.2.2.2.2.2.1), (lr.2.2.2.2.2.2.2.2.2.2.2.2.2.2.1), (lr.2.2.2.2.2.2.2.2.2.2.2.2.2.2.2.1), (lr.2.2.2.2.2.2.2.2.2.2.2.2.2.2.2.2.1), (lr.2.2.2.2.2.2.2.2.2.2.2.2.2.2.2.2.2.1), (lr.2.2.2.2.2.2.2.2.2.2.2.2.2.2.2.2.2.2.1), (lr.2.2.2.2.2.2.2.2.2.2.2.2.2.2.2.2.2.2.2.1), (lr.2.2.2.2.2.2.2.2.2.2.2.2.2.2.2.2.2.2.2.2)⟩
                    · by_cases f10 : 1 = ((qK s).getD xq 0)
                      · have := I1 xq (by omega)
                        have := qOf_spec ((qK s).getD xq 0) 1
                        have := qHarm_in I (x := xq) (by omega)
                        refine ⟨(nI (qHarm s xq)), (im, lf, s, d, k, ls, rf, rz, ra, rn, rq, lt, m1, m2, m3, m4, bd, fc, hd, sz, el, s, g, fm, hm, so, si, sh, ce, ca, td, wa, kp, la, bf, oo, bo, pw, ow, tr), (im, lf, s, d, k, ls, rf, rz, ra, rn, rq, lt, m1, m2, m3, m4, bd, fc, hd, sz, el, s, g, fm, hm, so, si, sh, ce, ca, td, wa, kp, la, bf, oo, bo, pw, ow, tr), ?_, ?_, ?_⟩
                        · show Ev ab_Z0 3 82 [.ref 0, .int (nI a1k), .int (nI 1)] (ww im lf s d k ls rf rz ra rn rq lt m1 m2 m3 m4 bd fc hd sz el s g fm hm so si sh ce ca td wa kp la bf oo bo pw ow tr) (some (.int (nI (qHarm s xq))), (ww im lf s d k ls rf rz ra rn rq lt m1 m2 m3 m4 bd fc hd sz el s g fm hm so si sh ce ca td wa kp la bf oo bo pw ow tr))
                          refine Ef.in (md := mX5_says) (L := [some (.ref 0), some (.int (nI a1k)), some (.int (nI 1)), none, none]) rfl (Nat.le_of_ble_eq_true rfl) rfl ?_
                          refine E_iload_n at_X5_says_0 rfl ?_
                          refine E_callS (v := some (.int (nI 1))) (As := [.int (nI a1k)]) (r0 := []) (cs2 := (ww im lf s d k ls rf rz ra rn rq lt m1 m2 m3 m4 bd fc hd sz el s g fm hm so si sh ce ca td wa kp la bf oo bo pw ow tr)) at_X5_says_1 rfl rfl (Nat.le_of_ble_eq_true rfl) rfl (L39_X5_isShelf (by omega) (by omega) (by omega)) (by decide) rfl ?_
                          refine E_if (t := 14) (b := false) at_X5_says_4 rfl (by decide) ?_
                          refine E_iload_n at_X5_says_7 rfl ?_
                          refine E_callS (v := some (.int (nI 1))) (As := [.int (nI 1)]) (r0 := []) (cs2 := (ww im lf s d k ls rf rz ra rn rq lt m1 m2 m3 m4 bd fc hd sz el s g fm hm so si sh ce ca td wa kp la bf oo bo pw ow tr)) at_X5_says_8 rfl rfl (Nat.le_of_ble_eq_true rfl) rfl (L58_X4_isKind) (by decide) rfl ?_
                          refine E_if (t := 20) (b := true) at_X5_says_11 rfl (by decide) ?_
                          refine E_aload_n at_X5_says_20 rfl ?_
                          refine E_getfield (v := .ref 31) at_X5_says_21 w0 rfl (by decide) rfl ?_
                          refine E_iload_n at_X5_says_24 rfl ?_
                          refine E_aalN (b := 49 + 2 * a1k) at_X5_says_25 w31 (by omega) (w_shs (by omega)) ?_
                          refine E_astore_n (L2 := [some (.ref 0), some (.int (nI a1k)), some (.int (nI 1)), some (.ref (49 + 2 * a1k)), none]) at_X5_says_26 rfl ?_
                          refine E_aload_n at_X5_says_27 rfl ?_
                          have e1 : Ev ab_Z0 1 32 [.ref (49 + 2 * a1k)] (ww im lf s d k ls rf rz ra rn rq lt m1 m2 m3 m4 bd fc hd sz el s g fm hm so si sh ce ca td wa kp la bf oo bo pw ow tr) (some (.int (nI 0)), (ww im lf s d k ls rf rz ra rn rq lt m1 m2 m3 m4 bd fc hd sz el s g fm hm so si sh ce ca td wa kp la bf oo bo pw ow tr)) := by
                            refine Ef.in (md := mX3_isEmpty) (L := [some (.ref (49 + 2 * a1k))]) rfl (Nat.le_of_ble_eq_true rfl) rfl ?_
                            refine E_aload_n at_X3_isEmpty_0 rfl ?_
                            refine E_getfield (v := .int (nI xq)) at_X3_isEmpty_1 (w_shv (j := a1k) (by omega) u2 u3) rfl (by decide) rfl ?_
                            refine E_iconst (x := (-1)) at_X3_isEmpty_4 (by decide) ?_
                            refine E_ic (t := 12) (b := true) at_X3_isEmpty_5 rfl ((cn_ne (nI_toInt (by omega)) (by decide : (-1 : Int32).toInt = -1)).trans (decide_eq_true (by omega))) ?_
                            refine E_iconst (x := nI 0) at_X3_isEmpty_12 (by decide) ?_
                            exact E_iret at_X3_isEmpty_13 rfl
                          refine E_callV (v := some (.int (nI 0))) (As := [.ref (49 + 2 * a1k)]) (r0 := []) (cs2 := (ww im lf s d k ls rf rz ra rn rq lt m1 m2 m3 m4 bd fc hd sz el s g fm hm so si sh ce ca td wa kp la bf oo bo pw ow tr)) at_X5_says_28 rfl rfl (Nat.le_of_ble_eq_true rfl) rfl (ab_rvOf (w_shv (j := a1k) (by omega) u2 u3) rfl) e1 (by decide) rfl ?_
                          refine E_if (t := 40) (b := true) at_X5_says_31 rfl (by decide) ?_
                          refine E_aload_n at_X5_says_40 rfl ?_
                          refine E_getfield (v := .int (nI xq)) at_X5_says_41 (w_shv (j := a1k) (by omega) u2 u3) rfl (by decide) rfl ?_
                          refine E_istore (L2 := [some (.ref 0), some (.int (nI a1k)), some (.int (nI 1)), some (.ref (49 + 2 * a1k)), some (.int (nI xq))]) at_X5_says_44 rfl ?_
                          refine E_aload_n at_X5_says_46 rfl ?_
                          refine E_getfield (v := .ref 1) at_X5_says_47 w0 rfl (by decide) rfl ?_
                          refine E_iload at_X5_says_50 rfl ?_
                          refine E_callV (v := some (.int (nI 1))) (As := [.ref 1, .int (nI xq)]) (r0 := []) (cs2 := (ww im lf s d k ls rf rz ra rn rq lt m1 m2 m3 m4 bd fc hd sz el s g fm hm so si sh ce ca td wa kp la bf oo bo pw ow tr)) at_X5_says_52 rfl rfl (Nat.le_of_ble_eq_true rfl) rfl (ab_rvOf w1 rfl) (L15_X4_isPiece (by omega) (by omega) (by omega) (by omega)) (by decide) rfl ?_
                          refine E_if (t := 71) (b := false) at_X5_says_55 rfl (by decide) ?_
                          refine E_aload_n at_X5_says_58 rfl ?_
                          refine E_getfield (v := .ref 1) at_X5_says_59 w0 rfl (by decide) rfl ?_
                          refine E_iload at_X5_says_62 rfl ?_
                          refine E_iload_n at_X5_says_64 rfl ?_
                          refine E_callV (v := some (.int (nI (qOf ((qK s).getD xq 0) 1)))) (As := [.ref 1, .int (nI xq), .int (nI 1)]) (r0 := []) (cs2 := (ww im lf s d k ls rf rz ra rn rq lt m1 m2 m3 m4 bd fc hd sz el s g fm hm so si sh ce ca td wa kp la bf oo bo pw ow tr)) at_X5_says_65 rfl rfl (Nat.le_of_ble_eq_true rfl) rfl (ab_rvOf w1 rfl) (sq_isOfKind w_q1 I (w_none 0) (by omega) (by omega)) (by decide) rfl ?_
                          refine E_if (t := 77) (b := true) at_X5_says_68 rfl ((cn_ne (nI_toInt (by omega)) (by decide : (0 : Int32).toInt = 0)).trans (decide_eq_true (by omega))) ?_
                          refine E_iload_n at_X5_says_77 rfl ?_
                          refine E_tsIn (off := 49) (t := 127) at_X5_says_78 (by decide) rfl rfl ?_
                          refine E_aload_n at_X5_says_127 rfl ?_
                          refine E_getfield (v := .ref 1) at_X5_says_128 w0 rfl (by decide) rfl ?_
                          refine E_iload at_X5_says_131 rfl ?_
                          refine E_callV (v := some (.int (nI (qHarm s xq)))) (As := [.ref 1, .int (nI xq)]) (r0 := []) (cs2 := (ww im lf s d k ls rf rz ra rn rq lt m1 m2 m3 m4 bd fc hd sz el s g fm hm so si sh ce ca td wa kp la bf oo bo pw ow tr)) at_X5_says_133 rfl rfl (Nat.le_of_ble_eq_true rfl) rfl (ab_rvOf w1 rfl) (sq_harmOf w_q1 I (by omega)) (by decide) rfl ?_
                          exact E_iret at_X5_says_136 rfl
                        · show Ev ab_Z0 2 141 [.ref 65, .int (nI a1k), .int (nI 1)] (ww im lf s d k ls rf rz ra rn rq lt m1 m2 m3 m4 bd fc hd sz el s g fm hm so si sh ce ca td wa kp la bf oo bo pw ow tr) (some (.int (nI (qHarm s xq))), (ww im lf s d k ls rf rz ra rn rq lt m1 m2 m3 m4 bd fc hd sz el s g fm hm so si sh ce ca td wa kp la bf oo bo pw ow tr))
                          refine Ef.in (md := mX6_says) (L := [some (.ref 65), some (.int (nI a1k)), some (.int (nI 1)), none, none, none]) rfl (Nat.le_of_ble_eq_true rfl) rfl ?_
                          refine E_aload_n at_X6_says_0 rfl ?_
                          refine E_iload_n at_X6_says_1 rfl ?_
                          refine E_callV (v := some (.int (nI 1))) (As := [.ref 65, .int (nI a1k)]) (r0 := []) (cs2 := (ww im lf s d k ls rf rz ra rn rq lt m1 m2 m3 m4 bd fc hd sz el s g fm hm so si sh ce ca td wa kp la bf oo bo pw ow tr)) at_X6_says_2 rfl rfl (Nat.le_of_ble_eq_true rfl) rfl (ab_rvOf w65 rfl) (L40_X6_isShelf (by omega) (by omega) (by omega)) (by decide) rfl ?_
                          refine E_if (t := 18) (b := false) at_X6_says_5 rfl (by decide) ?_
                          refine E_iload_n at_X6_says_8 rfl ?_
                          refine E_if (t := 18) (b := false) at_X6_says_9 rfl (by decide) ?_
                          refine E_iload_n at_X6_says_12 rfl ?_
                          refine E_bipush (x := nI 6) at_X6_says_13 (by decide) ?_
                          refine E_ic (t := 24) (b := true) at_X6_says_15 rfl (by decide) ?_
                          refine E_aload_n at_X6_says_24 rfl ?_
                          refine E_getfield (v := .ref 76) at_X6_says_25 w65 rfl (by decide) rfl ?_
                          refine E_iload_n at_X6_says_28 rfl ?_
                          refine E_ialN (l := hm) (v := hm.getD a1k 0) at_X6_says_29 w76 (by omega) (by omega) rfl ?_
                          refine E_iconst (x := nI 1) at_X6_says_30 (by decide) ?_
                          refine E_ic (t := 41) (b := true) at_X6_says_31 rfl ((cn_ne (nI_toInt (by omega)) (nI_toInt (by omega))).trans (decide_eq_true (by omega))) ?_
                          refine E_aload_n at_X6_says_41 rfl ?_
                          refine E_getfield (v := .ref 76) at_X6_says_42 w65 rfl (by decide) rfl ?_
                          refine E_iload_n at_X6_says_45 rfl ?_
                          refine E_ialN (l := hm) (v := hm.getD a1k 0) at_X6_says_46 w76 (by omega) (by omega) rfl ?_
                          refine E_if (t := 57) (b := true) at_X6_says_47 rfl ((cn_ne (nI_toInt (by omega)) (by decide : (0 : Int32).toInt = 0)).trans (decide_eq_true (by omega))) ?_
                          refine E_aload_n at_X6_says_57 rfl ?_
                          refine E_getfield (v := .ref 79) at_X6_says_58 w65 rfl (by decide) rfl ?_
                          refine E_iload_n at_X6_says_61 rfl ?_
                          refine E_ialI (l := sh) (v := nI xq) at_X6_says_62 w79 (by omega) (by omega) u5 ?_
                          refine E_istore_n (L2 := [some (.ref 65), some (.int (nI a1k)), some (.int (nI 1)), some (.int (nI xq)), none, none]) at_X6_says_63 rfl ?_
                          refine E_aload_n at_X6_says_64 rfl ?_
                          refine E_getfield (v := .ref 67) at_X6_says_65 w65 rfl (by decide) rfl ?_
                          refine E_iload_n at_X6_says_68 rfl ?_
                          refine E_ialN (l := qK s) (v := (qK s).getD xq 0) at_X6_says_69 w67 (by omega) (by omega) rfl ?_
                          refine E_istore (L2 := [some (.ref 65), some (.int (nI a1k)), some (.int (nI 1)), some (.int (nI xq)), some (.int (nI ((qK s).getD xq 0))), none]) at_X6_says_70 rfl ?_
                          refine E_iload_n at_X6_says_72 rfl ?_
                          refine E_iconst (x := nI 1) at_X6_says_73 (by decide) ?_
                          refine E_ic (t := 83) (b := false) at_X6_says_74 rfl (by decide) ?_
                          refine E_iload at_X6_says_77 rfl ?_
                          refine E_iconst (x := nI 3) at_X6_says_79 (by decide) ?_
                          refine E_ic (t := 106) (b := false) at_X6_says_80 rfl ((cn_eq (nI_toInt (by omega)) (nI_toInt (by omega))).trans (decide_eq_false (by omega))) ?_
                          refine E_iload_n at_X6_says_83 rfl ?_
                          refine E_iconst (x := nI 2) at_X6_says_84 (by decide) ?_
                          refine E_ic (t := 94) (b := true) at_X6_says_85 rfl (by decide) ?_
                          refine E_iload_n at_X6_says_94 rfl ?_
                          refine E_iconst (x := nI 4) at_X6_says_95 (by decide) ?_
                          refine E_ic (t := 110) (b := true) at_X6_says_96 rfl (by decide) ?_
                          refine E_iconst (x := nI 0) at_X6_says_110 (by decide) ?_
                          refine E_istore (L2 := [some (.ref 65), some (.int (nI a1k)), some (.int (nI 1)), some (.int (nI xq)), some (.int (nI ((qK s).getD xq 0))), some (.int (nI 0))]) at_X6_says_111 rfl ?_
                          refine E_iload_n at_X6_says_113 rfl ?_
                          refine E_if (t := 135) (b := false) at_X6_says_114 rfl (by decide) ?_
                          refine E_iload_n at_X6_says_117 rfl ?_
                          refine E_iload at_X6_says_118 rfl ?_
                          refine E_ic (t := 135) (b := true) at_X6_says_120 rfl ((cn_eq (nI_toInt (by omega)) (nI_toInt (by omega))).trans (decide_eq_true (by omega))) ?_
                          refine E_iload_n at_X6_says_135 rfl ?_
                          refine E_tsIn (off := 47) (t := 183) at_X6_says_136 (by decide) rfl rfl ?_
                          refine E_aload_n at_X6_says_183 rfl ?_
                          refine E_iload_n at_X6_says_184 rfl ?_
                          refine E_callV (v := some (.int (nI (qHarm s xq)))) (As := [.ref 65, .int (nI xq)]) (r0 := []) (cs2 := (ww im lf s d k ls rf rz ra rn rq lt m1 m2 m3 m4 bd fc hd sz el s g fm hm so si sh ce ca td wa kp la bf oo bo pw ow tr)) at_X6_says_185 rfl rfl (Nat.le_of_ble_eq_true rfl) rfl (ab_rvOf w65 rfl) (mo_harms w_m I (by omega)) (by decide) rfl ?_
                          exact E_iret at_X6_says_188 rfl
                        · exact ⟨I, rfl, hf, iQ, iM, iT, iS, l_el, (lr.1), (lr.2.1), (lr.2.2.1), (lr.2.2.2.1), (lr.2.2.2.2.1), (lr.2.2.2.2.2.1), (lr.2.2.2.2.2.2.1), (lr.2.2.2.2.2.2.2.1), (lr.2.2.2.2.2.2.2.2.1), (lr.2.2.2.2.2.2.2.2.2.1), (lr.2.2.2.2.2.2.2.2.2.2.1), (lr.2.2.2.2.2.2.2.2.2.2.2.1), (lr.2.2.2.2.2.2.2.2.2.2.2.2.1), (lr.2.2.2.2.2.2.2.2.2.2.2.2.2.1), (lr.2.2.2.2.2.2.2.2.2.2.2.2.2.2.1), (lr.2.2.2.2.2.2.2.2.2.2.2.2.2.2.2.1), (lr.2.2.2.2.2.2.2.2.2.2.2.2.2.2.2.2.1), (lr.2.2.2.2.2.2.2.2.2.2.2.2.2.2.2.2.2.1), (lr.2.2.2.2.2.2.2.2.2.2.2.2.2.2.2.2.2.2.1), (lr.2.2.2.2.2.2.2.2.2.2.2.2.2.2.2.2.2.2.2.1), (lr.2.2.2.2.2.2.2.2.2.2.2.2.2.2.2.2.2.2.2.2)⟩
                      · have := I1 xq (by omega)
                        have := qOf_spec ((qK s).getD xq 0) 1
                        have := qHarm_in I (x := xq) (by omega)
                        exfalso; omega
                · by_cases f8 : a2k = 2
                  · subst f8
                    by_cases f9 : (qOf ((qK s).getD xq 0) 2) = 0
                    · by_cases f10 : ((qK s).getD xq 0) = 5
                      · have := I1 xq (by omega)
                        have := qOf_spec ((qK s).getD xq 0) 2
                        have := qWorth_in I (x := xq) (by omega)
                        exfalso; omega
                      · by_cases f11 : 2 = ((qK s).getD xq 0)
                        · have := I1 xq (by omega)
                          have := qOf_spec ((qK s).getD xq 0) 2
                          have := qWorth_in I (x := xq) (by omega)
                          exfalso; omega
                        · have := I1 xq (by omega)
                          have := qOf_spec ((qK s).getD xq 0) 2
                          refine ⟨(-2), (im, lf, s, d, k, ls, rf, rz, ra, rn, rq, lt, m1, m2, m3, m4, bd, (fc.set 2 ((fc.getD 2 0) + (nI 1))), hd, sz, el, s, g, fm, hm, so, si, sh, ce, ca, td, wa, kp, la, bf, oo, bo, pw, ow, tr), (im, lf, s, d, k, ls, rf, rz, ra, rn, rq, lt, m1, m2, m3, m4, bd, (fc.set 2 ((fc.getD 2 0) + (nI 1))), hd, sz, el, s, g, (fm.set 2 ((fm.getD 2 0) + (nI 1))), hm, so, si, sh, ce, ca, td, wa, kp, la, bf, oo, bo, pw, ow, tr), ?_, ?_, ?_⟩
                          · show Ev ab_Z0 3 82 [.ref 0, .int (nI a1k), .int (nI 2)] (ww im lf s d k ls rf rz ra rn rq lt m1 m2 m3 m4 bd fc hd sz el s g fm hm so si sh ce ca td wa kp la bf oo bo pw ow tr) (some (.int (-2)), (ww im lf s d k ls rf rz ra rn rq lt m1 m2 m3 m4 bd (fc.set 2 ((fc.getD 2 0) + (nI 1))) hd sz el s g fm hm so si sh ce ca td wa kp la bf oo bo pw ow tr))
                            refine Ef.in (md := mX5_says) (L := [some (.ref 0), some (.int (nI a1k)), some (.int (nI 2)), none, none]) rfl (Nat.le_of_ble_eq_true rfl) rfl ?_
                            refine E_iload_n at_X5_says_0 rfl ?_
                            refine E_callS (v := some (.int (nI 1))) (As := [.int (nI a1k)]) (r0 := []) (cs2 := (ww im lf s d k ls rf rz ra rn rq lt m1 m2 m3 m4 bd fc hd sz el s g fm hm so si sh ce ca td wa kp la bf oo bo pw ow tr)) at_X5_says_1 rfl rfl (Nat.le_of_ble_eq_true rfl) rfl (L39_X5_isShelf (by omega) (by omega) (by omega)) (by decide) rfl ?_
                            refine E_if (t := 14) (b := false) at_X5_says_4 rfl (by decide) ?_
                            refine E_iload_n at_X5_says_7 rfl ?_
                            refine E_callS (v := some (.int (nI 1))) (As := [.int (nI 2)]) (r0 := []) (cs2 := (ww im lf s d k ls rf rz ra rn rq lt m1 m2 m3 m4 bd fc hd sz el s g fm hm so si sh ce ca td wa kp la bf oo bo pw ow tr)) at_X5_says_8 rfl rfl (Nat.le_of_ble_eq_true rfl) rfl (L59_X4_isKind) (by decide) rfl ?_
                            refine E_if (t := 20) (b := true) at_X5_says_11 rfl (by decide) ?_
                            refine E_aload_n at_X5_says_20 rfl ?_
                            refine E_getfield (v := .ref 31) at_X5_says_21 w0 rfl (by decide) rfl ?_
                            refine E_iload_n at_X5_says_24 rfl ?_
                            refine E_aalN (b := 49 + 2 * a1k) at_X5_says_25 w31 (by omega) (w_shs (by omega)) ?_
                            refine E_astore_n (L2 := [some (.ref 0), some (.int (nI a1k)), some (.int (nI 2)), some (.ref (49 + 2 * a1k)), none]) at_X5_says_26 rfl ?_
                            refine E_aload_n at_X5_says_27 rfl ?_
                            have e1 : Ev ab_Z0 1 32 [.ref (49 + 2 * a1k)] (ww im lf s d k ls rf rz ra rn rq lt m1 m2 m3 m4 bd fc hd sz el s g fm hm so si sh ce ca td wa kp la bf oo bo pw ow tr) (some (.int (nI 0)), (ww im lf s d k ls rf rz ra rn rq lt m1 m2 m3 m4 bd fc hd sz el s g fm hm so si sh ce ca td wa kp la bf oo bo pw ow tr)) := by
                              refine Ef.in (md := mX3_isEmpty) (L := [some (.ref (49 + 2 * a1k))]) rfl (Nat.le_of_ble_eq_true rfl) rfl ?_
                              refine E_aload_n at_X3_isEmpty_0 rfl ?_
                              refine E_getfield (v := .int (nI xq)) at_X3_isEmpty_1 (w_shv (j := a1k) (by omega) u2 u3) rfl (by decide) rfl ?_
                              refine E_iconst (x := (-1)) at_X3_isEmpty_4 (by decide) ?_
                              refine E_ic (t := 12) (b := true) at_X3_isEmpty_5 rfl ((cn_ne (nI_toInt (by omega)) (by decide : (-1 : Int32).toInt = -1)).trans (decide_eq_true (by omega))) ?_
                              refine E_iconst (x := nI 0) at_X3_isEmpty_12 (by decide) ?_
                              exact E_iret at_X3_isEmpty_13 rfl
                            refine E_callV (v := some (.int (nI 0))) (As := [.ref (49 + 2 * a1k)]) (r0 := []) (cs2 := (ww im lf s d k ls rf rz ra rn rq lt m1 m2 m3 m4 bd fc hd sz el s g fm hm so si sh ce ca td wa kp la bf oo bo pw ow tr)) at_X5_says_28 rfl rfl (Nat.le_of_ble_eq_true rfl) rfl (ab_rvOf (w_shv (j := a1k) (by omega) u2 u3) rfl) e1 (by decide) rfl ?_
                            refine E_if (t := 40) (b := true) at_X5_says_31 rfl (by decide) ?_
                            refine E_aload_n at_X5_says_40 rfl ?_
                            refine E_getfield (v := .int (nI xq)) at_X5_says_41 (w_shv (j := a1k) (by omega) u2 u3) rfl (by decide) rfl ?_
                            refine E_istore (L2 := [some (.ref 0), some (.int (nI a1k)), some (.int (nI 2)), some (.ref (49 + 2 * a1k)), some (.int (nI xq))]) at_X5_says_44 rfl ?_
                            refine E_aload_n at_X5_says_46 rfl ?_
                            refine E_getfield (v := .ref 1) at_X5_says_47 w0 rfl (by decide) rfl ?_
                            refine E_iload at_X5_says_50 rfl ?_
                            refine E_callV (v := some (.int (nI 1))) (As := [.ref 1, .int (nI xq)]) (r0 := []) (cs2 := (ww im lf s d k ls rf rz ra rn rq lt m1 m2 m3 m4 bd fc hd sz el s g fm hm so si sh ce ca td wa kp la bf oo bo pw ow tr)) at_X5_says_52 rfl rfl (Nat.le_of_ble_eq_true rfl) rfl (ab_rvOf w1 rfl) (L15_X4_isPiece (by omega) (by omega) (by omega) (by omega)) (by decide) rfl ?_
                            refine E_if (t := 71) (b := false) at_X5_says_55 rfl (by decide) ?_
                            refine E_aload_n at_X5_says_58 rfl ?_
                            refine E_getfield (v := .ref 1) at_X5_says_59 w0 rfl (by decide) rfl ?_
                            refine E_iload at_X5_says_62 rfl ?_
                            refine E_iload_n at_X5_says_64 rfl ?_
                            refine E_callV (v := some (.int (nI (qOf ((qK s).getD xq 0) 2)))) (As := [.ref 1, .int (nI xq), .int (nI 2)]) (r0 := []) (cs2 := (ww im lf s d k ls rf rz ra rn rq lt m1 m2 m3 m4 bd fc hd sz el s g fm hm so si sh ce ca td wa kp la bf oo bo pw ow tr)) at_X5_says_65 rfl rfl (Nat.le_of_ble_eq_true rfl) rfl (ab_rvOf w1 rfl) (sq_isOfKind w_q1 I (w_none 0) (by omega) (by omega)) (by decide) rfl ?_
                            refine E_if (t := 77) (b := false) at_X5_says_68 rfl ((cn_ne (nI_toInt (by omega)) (by decide : (0 : Int32).toInt = 0)).trans (decide_eq_false (by omega))) ?_
                            refine E_aload_n at_X5_says_71 rfl ?_
                            refine E_iconst (x := nI 2) at_X5_says_72 (by decide) ?_
                            refine E_callV (v := some (.int (-2))) (As := [.ref 0, .int (nI 2)]) (r0 := []) (cs2 := (ww im lf s d k ls rf rz ra rn rq lt m1 m2 m3 m4 bd (fc.set 2 ((fc.getD 2 0) + (nI 1))) hd sz el s g fm hm so si sh ce ca td wa kp la bf oo bo pw ow tr)) at_X5_says_73 rfl rfl (Nat.le_of_ble_eq_true rfl) rfl (ab_rvOf w0 rfl) (L55_X5_refuse (by omega)) (by decide) w_lens ?_
                            exact E_iret at_X5_says_76 rfl
                          · show Ev ab_Z0 2 141 [.ref 65, .int (nI a1k), .int (nI 2)] (ww im lf s d k ls rf rz ra rn rq lt m1 m2 m3 m4 bd (fc.set 2 ((fc.getD 2 0) + (nI 1))) hd sz el s g fm hm so si sh ce ca td wa kp la bf oo bo pw ow tr) (some (.int (-2)), (ww im lf s d k ls rf rz ra rn rq lt m1 m2 m3 m4 bd (fc.set 2 ((fc.getD 2 0) + (nI 1))) hd sz el s g (fm.set 2 ((fm.getD 2 0) + (nI 1))) hm so si sh ce ca td wa kp la bf oo bo pw ow tr))
                            refine Ef.in (md := mX6_says) (L := [some (.ref 65), some (.int (nI a1k)), some (.int (nI 2)), none, none, none]) rfl (Nat.le_of_ble_eq_true rfl) rfl ?_
                            refine E_aload_n at_X6_says_0 rfl ?_
                            refine E_iload_n at_X6_says_1 rfl ?_
                            refine E_callV (v := some (.int (nI 1))) (As := [.ref 65, .int (nI a1k)]) (r0 := []) (cs2 := (ww im lf s d k ls rf rz ra rn rq lt m1 m2 m3 m4 bd (fc.set 2 ((fc.getD 2 0) + (nI 1))) hd sz el s g fm hm so si sh ce ca td wa kp la bf oo bo pw ow tr)) at_X6_says_2 rfl rfl (Nat.le_of_ble_eq_true rfl) rfl (ab_rvOf w65 rfl) (L40_X6_isShelf (by omega) (by omega) (by omega)) (by decide) rfl ?_
                            refine E_if (t := 18) (b := false) at_X6_says_5 rfl (by decide) ?_
                            refine E_iload_n at_X6_says_8 rfl ?_
                            refine E_if (t := 18) (b := false) at_X6_says_9 rfl (by decide) ?_
                            refine E_iload_n at_X6_says_12 rfl ?_
                            refine E_bipush (x := nI 6) at_X6_says_13 (by decide) ?_
                            refine E_ic (t := 24) (b := true) at_X6_says_15 rfl (by decide) ?_
                            refine E_aload_n at_X6_says_24 rfl ?_
                            refine E_getfield (v := .ref 76) at_X6_says_25 w65 rfl (by decide) rfl ?_
                            refine E_iload_n at_X6_says_28 rfl ?_
                            refine E_ialN (l := hm) (v := hm.getD a1k 0) at_X6_says_29 w76 (by omega) (by omega) rfl ?_
                            refine E_iconst (x := nI 1) at_X6_says_30 (by decide) ?_
                            refine E_ic (t := 41) (b := true) at_X6_says_31 rfl ((cn_ne (nI_toInt (by omega)) (nI_toInt (by omega))).trans (decide_eq_true (by omega))) ?_
                            refine E_aload_n at_X6_says_41 rfl ?_
                            refine E_getfield (v := .ref 76) at_X6_says_42 w65 rfl (by decide) rfl ?_
                            refine E_iload_n at_X6_says_45 rfl ?_
                            refine E_ialN (l := hm) (v := hm.getD a1k 0) at_X6_says_46 w76 (by omega) (by omega) rfl ?_
                            refine E_if (t := 57) (b := true) at_X6_says_47 rfl ((cn_ne (nI_toInt (by omega)) (by decide : (0 : Int32).toInt = 0)).trans (decide_eq_true (by omega))) ?_
                            refine E_aload_n at_X6_says_57 rfl ?_
                            refine E_getfield (v := .ref 79) at_X6_says_58 w65 rfl (by decide) rfl ?_
                            refine E_iload_n at_X6_says_61 rfl ?_
                            refine E_ialI (l := sh) (v := nI xq) at_X6_says_62 w79 (by omega) (by omega) u5 ?_
                            refine E_istore_n (L2 := [some (.ref 65), some (.int (nI a1k)), some (.int (nI 2)), some (.int (nI xq)), none, none]) at_X6_says_63 rfl ?_
                            refine E_aload_n at_X6_says_64 rfl ?_
                            refine E_getfield (v := .ref 67) at_X6_says_65 w65 rfl (by decide) rfl ?_
                            refine E_iload_n at_X6_says_68 rfl ?_
                            refine E_ialN (l := qK s) (v := (qK s).getD xq 0) at_X6_says_69 w67 (by omega) (by omega) rfl ?_
                            refine E_istore (L2 := [some (.ref 65), some (.int (nI a1k)), some (.int (nI 2)), some (.int (nI xq)), some (.int (nI ((qK s).getD xq 0))), none]) at_X6_says_70 rfl ?_
                            refine E_iload_n at_X6_says_72 rfl ?_
                            refine E_iconst (x := nI 1) at_X6_says_73 (by decide) ?_
                            refine E_ic (t := 83) (b := true) at_X6_says_74 rfl (by decide) ?_
                            refine E_iload_n at_X6_says_83 rfl ?_
                            refine E_iconst (x := nI 2) at_X6_says_84 (by decide) ?_
                            refine E_ic (t := 94) (b := false) at_X6_says_85 rfl (by decide) ?_
                            refine E_iload at_X6_says_88 rfl ?_
                            refine E_iconst (x := nI 5) at_X6_says_90 (by decide) ?_
                            refine E_ic (t := 106) (b := false) at_X6_says_91 rfl ((cn_eq (nI_toInt (by omega)) (nI_toInt (by omega))).trans (decide_eq_false (by omega))) ?_
                            refine E_iload_n at_X6_says_94 rfl ?_
                            refine E_iconst (x := nI 4) at_X6_says_95 (by decide) ?_
                            refine E_ic (t := 110) (b := true) at_X6_says_96 rfl (by decide) ?_
                            refine E_iconst (x := nI 0) at_X6_says_110 (by decide) ?_
                            refine E_istore (L2 := [some (.ref 65), some (.int (nI a1k)), some (.int (nI 2)), some (.int (nI xq)), some (.int (nI ((qK s).getD xq 0))), some (.int (nI 0))]) at_X6_says_111 rfl ?_
                            refine E_iload_n at_X6_says_113 rfl ?_
                            refine E_if (t := 135) (b := false) at_X6_says_114 rfl (by decide) ?_
                            refine E_iload_n at_X6_says_117 rfl ?_
                            refine E_iload at_X6_says_118 rfl ?_
                            refine E_ic (t := 135) (b := false) at_X6_says_120 rfl ((cn_eq (nI_toInt (by omega)) (nI_toInt (by omega))).trans (decide_eq_false (by omega))) ?_
                            refine E_iload at_X6_says_123 rfl ?_
                            refine E_if (t := 135) (b := false) at_X6_says_125 rfl (by decide) ?_
                            refine E_aload_n at_X6_says_128 rfl ?_
                            refine E_bipush (x := (-2)) at_X6_says_129 (by decide) ?_
                            refine E_callV (v := some (.int (-2))) (As := [.ref 65, .int (-2)]) (r0 := []) (cs2 := (ww im lf s d k ls rf rz ra rn rq lt m1 m2 m3 m4 bd (fc.set 2 ((fc.getD 2 0) + (nI 1))) hd sz el s g (fm.set 2 ((fm.getD 2 0) + (nI 1))) hm so si sh ce ca td wa kp la bf oo bo pw ow tr)) at_X6_says_131 rfl rfl (Nat.le_of_ble_eq_true rfl) rfl (ab_rvOf w65 rfl) (L56_X6_no (by omega)) (by decide) w_lens ?_
                            exact E_iret at_X6_says_134 rfl
                          · exact ⟨I, rfl, hf, iQ, iM, iT, iS, l_el, (lr.1), (lr.2.1), (lr.2.2.1), (by simp only [List.length_set]; exact (lr.2.2.2.1)), (by simp only [List.length_set]; exact (lr.2.2.2.2.1)), (lr.2.2.2.2.2.1), (lr.2.2.2.2.2.2.1), (lr.2.2.2.2.2.2.2.1), (lr.2.2.2.2.2.2.2.2.1), (lr.2.2.2.2.2.2.2.2.2.1), (lr.2.2.2.2.2.2.2.2.2.2.1), (lr.2.2.2.2.2.2.2.2.2.2.2.1), (lr.2.2.2.2.2.2.2.2.2.2.2.2.1), (lr.2.2.2.2.2.2.2.2.2.2.2.2.2.1), (lr.2.2.2.2.2.2.2.2.2.2.2.2.2.2.1), (lr.2.2.2.2.2.2.2.2.2.2.2.2.2.2.2.1), (lr.2.2.2.2.2.2.2.2.2.2.2.2.2.2.2.2.1), (lr.2.2.2.2.2.2.2.2.2.2.2.2.2.2.2.2.2.1), (lr.2.2.2.2.2.2.2.2.2.2.2.2.2.2.2.2.2.2.1), (lr.2.2.2.2.2.2.2.2.2.2.2.2.2.2.2.2.2.2.2.1), (lr.2.2.2.2.2.2.2.2.2.2.2.2.2.2.2.2.2.2.2.2)⟩
                    · by_cases f10 : ((qK s).getD xq 0) = 5
                      · have := I1 xq (by omega)
                        have := qOf_spec ((qK s).getD xq 0) 2
                        have := qWorth_in I (x := xq) (by omega)
                        refine ⟨(nI (qWorth s xq)), (im, lf, s, d, k, ls, rf, rz, ra, rn, rq, lt, m1, m2, m3, m4, bd, fc, hd, sz, el, s, g, fm, hm, so, si, sh, ce, ca, td, wa, kp, la, bf, oo, bo, pw, ow, tr), (im, lf, s, d, k, ls, rf, rz, ra, rn, rq, lt, m1, m2, m3, m4, bd, fc, hd, sz, el, s, g, fm, hm, so, si, sh, ce, ca, td, wa, kp, la, bf, oo, bo, pw, ow, tr), ?_, ?_, ?_⟩
                        · show Ev ab_Z0 3 82 [.ref 0, .int (nI a1k), .int (nI 2)] (ww im lf s d k ls rf rz ra rn rq lt m1 m2 m3 m4 bd fc hd sz el s g fm hm so si sh ce ca td wa kp la bf oo bo pw ow tr) (some (.int (nI (qWorth s xq))), (ww im lf s d k ls rf rz ra rn rq lt m1 m2 m3 m4 bd fc hd sz el s g fm hm so si sh ce ca td wa kp la bf oo bo pw ow tr))
                          refine Ef.in (md := mX5_says) (L := [some (.ref 0), some (.int (nI a1k)), some (.int (nI 2)), none, none]) rfl (Nat.le_of_ble_eq_true rfl) rfl ?_
                          refine E_iload_n at_X5_says_0 rfl ?_
                          refine E_callS (v := some (.int (nI 1))) (As := [.int (nI a1k)]) (r0 := []) (cs2 := (ww im lf s d k ls rf rz ra rn rq lt m1 m2 m3 m4 bd fc hd sz el s g fm hm so si sh ce ca td wa kp la bf oo bo pw ow tr)) at_X5_says_1 rfl rfl (Nat.le_of_ble_eq_true rfl) rfl (L39_X5_isShelf (by omega) (by omega) (by omega)) (by decide) rfl ?_
                          refine E_if (t := 14) (b := false) at_X5_says_4 rfl (by decide) ?_
                          refine E_iload_n at_X5_says_7 rfl ?_
                          refine E_callS (v := some (.int (nI 1))) (As := [.int (nI 2)]) (r0 := []) (cs2 := (ww im lf s d k ls rf rz ra rn rq lt m1 m2 m3 m4 bd fc hd sz el s g fm hm so si sh ce ca td wa kp la bf oo bo pw ow tr)) at_X5_says_8 rfl rfl (Nat.le_of_ble_eq_true rfl) rfl (L59_X4_isKind) (by decide) rfl ?_
                          refine E_if (t := 20) (b := true) at_X5_says_11 rfl (by decide) ?_
                          refine E_aload_n at_X5_says_20 rfl ?_
                          refine E_getfield (v := .ref 31) at_X5_says_21 w0 rfl (by decide) rfl ?_
                          refine E_iload_n at_X5_says_24 rfl ?_
                          refine E_aalN (b := 49 + 2 * a1k) at_X5_says_25 w31 (by omega) (w_shs (by omega)) ?_
                          refine E_astore_n (L2 := [some (.ref 0), some (.int (nI a1k)), some (.int (nI 2)), some (.ref (49 + 2 * a1k)), none]) at_X5_says_26 rfl ?_
                          refine E_aload_n at_X5_says_27 rfl ?_
                          have e1 : Ev ab_Z0 1 32 [.ref (49 + 2 * a1k)] (ww im lf s d k ls rf rz ra rn rq lt m1 m2 m3 m4 bd fc hd sz el s g fm hm so si sh ce ca td wa kp la bf oo bo pw ow tr) (some (.int (nI 0)), (ww im lf s d k ls rf rz ra rn rq lt m1 m2 m3 m4 bd fc hd sz el s g fm hm so si sh ce ca td wa kp la bf oo bo pw ow tr)) := by
                            refine Ef.in (md := mX3_isEmpty) (L := [some (.ref (49 + 2 * a1k))]) rfl (Nat.le_of_ble_eq_true rfl) rfl ?_
                            refine E_aload_n at_X3_isEmpty_0 rfl ?_
                            refine E_getfield (v := .int (nI xq)) at_X3_isEmpty_1 (w_shv (j := a1k) (by omega) u2 u3) rfl (by decide) rfl ?_
                            refine E_iconst (x := (-1)) at_X3_isEmpty_4 (by decide) ?_
                            refine E_ic (t := 12) (b := true) at_X3_isEmpty_5 rfl ((cn_ne (nI_toInt (by omega)) (by decide : (-1 : Int32).toInt = -1)).trans (decide_eq_true (by omega))) ?_
                            refine E_iconst (x := nI 0) at_X3_isEmpty_12 (by decide) ?_
                            exact E_iret at_X3_isEmpty_13 rfl
                          refine E_callV (v := some (.int (nI 0))) (As := [.ref (49 + 2 * a1k)]) (r0 := []) (cs2 := (ww im lf s d k ls rf rz ra rn rq lt m1 m2 m3 m4 bd fc hd sz el s g fm hm so si sh ce ca td wa kp la bf oo bo pw ow tr)) at_X5_says_28 rfl rfl (Nat.le_of_ble_eq_true rfl) rfl (ab_rvOf (w_shv (j := a1k) (by omega) u2 u3) rfl) e1 (by decide) rfl ?_
                          refine E_if (t := 40) (b := true) at_X5_says_31 rfl (by decide) ?_
                          refine E_aload_n at_X5_says_40 rfl ?_
                          refine E_getfield (v := .int (nI xq)) at_X5_says_41 (w_shv (j := a1k) (by omega) u2 u3) rfl (by decide) rfl ?_
                          refine E_istore (L2 := [some (.ref 0), some (.int (nI a1k)), some (.int (nI 2)), some (.ref (49 + 2 * a1k)), some (.int (nI xq))]) at_X5_says_44 rfl ?_
                          refine E_aload_n at_X5_says_46 rfl ?_
                          refine E_getfield (v := .ref 1) at_X5_says_47 w0 rfl (by decide) rfl ?_
                          refine E_iload at_X5_says_50 rfl ?_
                          refine E_callV (v := some (.int (nI 1))) (As := [.ref 1, .int (nI xq)]) (r0 := []) (cs2 := (ww im lf s d k ls rf rz ra rn rq lt m1 m2 m3 m4 bd fc hd sz el s g fm hm so si sh ce ca td wa kp la bf oo bo pw ow tr)) at_X5_says_52 rfl rfl (Nat.le_of_ble_eq_true rfl) rfl (ab_rvOf w1 rfl) (L15_X4_isPiece (by omega) (by omega) (by omega) (by omega)) (by decide) rfl ?_
                          refine E_if (t := 71) (b := false) at_X5_says_55 rfl (by decide) ?_
                          refine E_aload_n at_X5_says_58 rfl ?_
                          refine E_getfield (v := .ref 1) at_X5_says_59 w0 rfl (by decide) rfl ?_
                          refine E_iload at_X5_says_62 rfl ?_
                          refine E_iload_n at_X5_says_64 rfl ?_
                          refine E_callV (v := some (.int (nI (qOf ((qK s).getD xq 0) 2)))) (As := [.ref 1, .int (nI xq), .int (nI 2)]) (r0 := []) (cs2 := (ww im lf s d k ls rf rz ra rn rq lt m1 m2 m3 m4 bd fc hd sz el s g fm hm so si sh ce ca td wa kp la bf oo bo pw ow tr)) at_X5_says_65 rfl rfl (Nat.le_of_ble_eq_true rfl) rfl (ab_rvOf w1 rfl) (sq_isOfKind w_q1 I (w_none 0) (by omega) (by omega)) (by decide) rfl ?_
                          refine E_if (t := 77) (b := true) at_X5_says_68 rfl ((cn_ne (nI_toInt (by omega)) (by decide : (0 : Int32).toInt = 0)).trans (decide_eq_true (by omega))) ?_
                          refine E_iload_n at_X5_says_77 rfl ?_
                          refine E_tsIn (off := 59) (t := 137) at_X5_says_78 (by decide) rfl rfl ?_
                          refine E_aload_n at_X5_says_137 rfl ?_
                          refine E_getfield (v := .ref 1) at_X5_says_138 w0 rfl (by decide) rfl ?_
                          refine E_iload at_X5_says_141 rfl ?_
                          refine E_callV (v := some (.int (nI (qWorth s xq)))) (As := [.ref 1, .int (nI xq)]) (r0 := []) (cs2 := (ww im lf s d k ls rf rz ra rn rq lt m1 m2 m3 m4 bd fc hd sz el s g fm hm so si sh ce ca td wa kp la bf oo bo pw ow tr)) at_X5_says_143 rfl rfl (Nat.le_of_ble_eq_true rfl) rfl (ab_rvOf w1 rfl) (sq_worthOf w_q1 I (by omega)) (by decide) rfl ?_
                          exact E_iret at_X5_says_146 rfl
                        · show Ev ab_Z0 2 141 [.ref 65, .int (nI a1k), .int (nI 2)] (ww im lf s d k ls rf rz ra rn rq lt m1 m2 m3 m4 bd fc hd sz el s g fm hm so si sh ce ca td wa kp la bf oo bo pw ow tr) (some (.int (nI (qWorth s xq))), (ww im lf s d k ls rf rz ra rn rq lt m1 m2 m3 m4 bd fc hd sz el s g fm hm so si sh ce ca td wa kp la bf oo bo pw ow tr))
                          refine Ef.in (md := mX6_says) (L := [some (.ref 65), some (.int (nI a1k)), some (.int (nI 2)), none, none, none]) rfl (Nat.le_of_ble_eq_true rfl) rfl ?_
                          refine E_aload_n at_X6_says_0 rfl ?_
                          refine E_iload_n at_X6_says_1 rfl ?_
                          refine E_callV (v := some (.int (nI 1))) (As := [.ref 65, .int (nI a1k)]) (r0 := []) (cs2 := (ww im lf s d k ls rf rz ra rn rq lt m1 m2 m3 m4 bd fc hd sz el s g fm hm so si sh ce ca td wa kp la bf oo bo pw ow tr)) at_X6_says_2 rfl rfl (Nat.le_of_ble_eq_true rfl) rfl (ab_rvOf w65 rfl) (L40_X6_isShelf (by omega) (by omega) (by omega)) (by decide) rfl ?_
                          refine E_if (t := 18) (b := false) at_X6_says_5 rfl (by decide) ?_
                          refine E_iload_n at_X6_says_8 rfl ?_
                          refine E_if (t := 18) (b := false) at_X6_says_9 rfl (by decide) ?_
                          refine E_iload_n at_X6_says_12 rfl ?_
                          refine E_bipush (x := nI 6) at_X6_says_13 (by decide) ?_
                          refine E_ic (t := 24) (b := true) at_X6_says_15 rfl (by decide) ?_
                          refine E_aload_n at_X6_says_24 rfl ?_
                          refine E_getfield (v := .ref 76) at_X6_says_25 w65 rfl (by decide) rfl ?_
                          refine E_iload_n at_X6_says_28 rfl ?_
                          refine E_ialN (l := hm) (v := hm.getD a1k 0) at_X6_says_29 w76 (by omega) (by omega) rfl ?_
                          refine E_iconst (x := nI 1) at_X6_says_30 (by decide) ?_
                          refine E_ic (t := 41) (b := true) at_X6_says_31 rfl ((cn_ne (nI_toInt (by omega)) (nI_toInt (by omega))).trans (decide_eq_true (by omega))) ?_
                          refine E_aload_n at_X6_says_41 rfl ?_
                          refine E_getfield (v := .ref 76) at_X6_says_42 w65 rfl (by decide) rfl ?_
                          refine E_iload_n at_X6_says_45 rfl ?_
                          refine E_ialN (l := hm) (v := hm.getD a1k 0) at_X6_says_46 w76 (by omega) (by omega) rfl ?_
                          refine E_if (t := 57) (b := true) at_X6_says_47 rfl ((cn_ne (nI_toInt (by omega)) (by decide : (0 : Int32).toInt = 0)).trans (decide_eq_true (by omega))) ?_
                          refine E_aload_n at_X6_says_57 rfl ?_
                          refine E_getfield (v := .ref 79) at_X6_says_58 w65 rfl (by decide) rfl ?_
                          refine E_iload_n at_X6_says_61 rfl ?_
                          refine E_ialI (l := sh) (v := nI xq) at_X6_says_62 w79 (by omega) (by omega) u5 ?_
                          refine E_istore_n (L2 := [some (.ref 65), some (.int (nI a1k)), some (.int (nI 2)), some (.int (nI xq)), none, none]) at_X6_says_63 rfl ?_
                          refine E_aload_n at_X6_says_64 rfl ?_
                          refine E_getfield (v := .ref 67) at_X6_says_65 w65 rfl (by decide) rfl ?_
                          refine E_iload_n at_X6_says_68 rfl ?_
                          refine E_ialN (l := qK s) (v := (qK s).getD xq 0) at_X6_says_69 w67 (by omega) (by omega) rfl ?_
                          refine E_istore (L2 := [some (.ref 65), some (.int (nI a1k)), some (.int (nI 2)), some (.int (nI xq)), some (.int (nI ((qK s).getD xq 0))), none]) at_X6_says_70 rfl ?_
                          refine E_iload_n at_X6_says_72 rfl ?_
                          refine E_iconst (x := nI 1) at_X6_says_73 (by decide) ?_
                          refine E_ic (t := 83) (b := true) at_X6_says_74 rfl (by decide) ?_
                          refine E_iload_n at_X6_says_83 rfl ?_
                          refine E_iconst (x := nI 2) at_X6_says_84 (by decide) ?_
                          refine E_ic (t := 94) (b := false) at_X6_says_85 rfl (by decide) ?_
                          refine E_iload at_X6_says_88 rfl ?_
                          refine E_iconst (x := nI 5) at_X6_says_90 (by decide) ?_
                          refine E_ic (t := 106) (b := true) at_X6_says_91 rfl ((cn_eq (nI_toInt (by omega)) (nI_toInt (by omega))).trans (decide_eq_true (by omega))) ?_
                          refine E_iconst (x := nI 1) at_X6_says_106 (by decide) ?_
                          refine E_goto (t := 111) at_X6_says_107 rfl ?_
                          refine E_istore (L2 := [some (.ref 65), some (.int (nI a1k)), some (.int (nI 2)), some (.int (nI xq)), some (.int (nI ((qK s).getD xq 0))), some (.int (nI 1))]) at_X6_says_111 rfl ?_
                          refine E_iload_n at_X6_says_113 rfl ?_
                          refine E_if (t := 135) (b := false) at_X6_says_114 rfl (by decide) ?_
                          refine E_iload_n at_X6_says_117 rfl ?_
                          refine E_iload at_X6_says_118 rfl ?_
                          refine E_ic (t := 135) (b := false) at_X6_says_120 rfl ((cn_eq (nI_toInt (by omega)) (nI_toInt (by omega))).trans (decide_eq_false (by omega))) ?_
                          refine E_iload at_X6_says_123 rfl ?_
                          refine E_if (t := 135) (b := true) at_X6_says_125 rfl (by decide) ?_
                          refine E_iload_n at_X6_says_135 rfl ?_
                          refine E_tsIn (off := 53) (t := 189) at_X6_says_136 (by decide) rfl rfl ?_
                          refine E_aload_n at_X6_says_189 rfl ?_
                          refine E_iload_n at_X6_says_190 rfl ?_
                          refine E_callV (v := some (.int (nI (qWorth s xq)))) (As := [.ref 65, .int (nI xq)]) (r0 := []) (cs2 := (ww im lf s d k ls rf rz ra rn rq lt m1 m2 m3 m4 bd fc hd sz el s g fm hm so si sh ce ca td wa kp la bf oo bo pw ow tr)) at_X6_says_191 rfl rfl (Nat.le_of_ble_eq_true rfl) rfl (ab_rvOf w65 rfl) (mo_worth w_m I (by omega)) (by decide) rfl ?_
                          exact E_iret at_X6_says_194 rfl
                        · exact ⟨I, rfl, hf, iQ, iM, iT, iS, l_el, (lr.1), (lr.2.1), (lr.2.2.1), (lr.2.2.2.1), (lr.2.2.2.2.1), (lr.2.2.2.2.2.1), (lr.2.2.2.2.2.2.1), (lr.2.2.2.2.2.2.2.1), (lr.2.2.2.2.2.2.2.2.1), (lr.2.2.2.2.2.2.2.2.2.1), (lr.2.2.2.2.2.2.2.2.2.2.1), (lr.2.2.2.2.2.2.2.2.2.2.2.1), (lr.2.2.2.2.2.2.2.2.2.2.2.2.1), (lr.2.2.2.2.2.2.2.2.2.2.2.2.2.1), (lr.2.2.2.2.2.2.2.2.2.2.2.2.2.2.1), (lr.2.2.2.2.2.2.2.2.2.2.2.2.2.2.2.1), (lr.2.2.2.2.2.2.2.2.2.2.2.2.2.2.2.2.1), (lr.2.2.2.2.2.2.2.2.2.2.2.2.2.2.2.2.2.1), (lr.2.2.2.2.2.2.2.2.2.2.2.2.2.2.2.2.2.2.1), (lr.2.2.2.2.2.2.2.2.2.2.2.2.2.2.2.2.2.2.2.1), (lr.2.2.2.2.2.2.2.2.2.2.2.2.2.2.2.2.2.2.2.2)⟩
                      · by_cases f11 : 2 = ((qK s).getD xq 0)
                        · have := I1 xq (by omega)
                          have := qOf_spec ((qK s).getD xq 0) 2
                          have := qWorth_in I (x := xq) (by omega)
                          refine ⟨(nI (qWorth s xq)), (im, lf, s, d, k, ls, rf, rz, ra, rn, rq, lt, m1, m2, m3, m4, bd, fc, hd, sz, el, s, g, fm, hm, so, si, sh, ce, ca, td, wa, kp, la, bf, oo, bo, pw, ow, tr), (im, lf, s, d, k, ls, rf, rz, ra, rn, rq, lt, m1, m2, m3, m4, bd, fc, hd, sz, el, s, g, fm, hm, so, si, sh, ce, ca, td, wa, kp, la, bf, oo, bo, pw, ow, tr), ?_, ?_, ?_⟩
                          · show Ev ab_Z0 3 82 [.ref 0, .int (nI a1k), .int (nI 2)] (ww im lf s d k ls rf rz ra rn rq lt m1 m2 m3 m4 bd fc hd sz el s g fm hm so si sh ce ca td wa kp la bf oo bo pw ow tr) (some (.int (nI (qWorth s xq))), (ww im lf s d k ls rf rz ra rn rq lt m1 m2 m3 m4 bd fc hd sz el s g fm hm so si sh ce ca td wa kp la bf oo bo pw ow tr))
                            refine Ef.in (md := mX5_says) (L := [some (.ref 0), some (.int (nI a1k)), some (.int (nI 2)), none, none]) rfl (Nat.le_of_ble_eq_true rfl) rfl ?_
                            refine E_iload_n at_X5_says_0 rfl ?_
                            refine E_callS (v := some (.int (nI 1))) (As := [.int (nI a1k)]) (r0 := []) (cs2 := (ww im lf s d k ls rf rz ra rn rq lt m1 m2 m3 m4 bd fc hd sz el s g fm hm so si sh ce ca td wa kp la bf oo bo pw ow tr)) at_X5_says_1 rfl rfl (Nat.le_of_ble_eq_true rfl) rfl (L39_X5_isShelf (by omega) (by omega) (by omega)) (by decide) rfl ?_
                            refine E_if (t := 14) (b := false) at_X5_says_4 rfl (by decide) ?_
                            refine E_iload_n at_X5_says_7 rfl ?_
                            refine E_callS (v := some (.int (nI 1))) (As := [.int (nI 2)]) (r0 := []) (cs2 := (ww im lf s d k ls rf rz ra rn rq lt m1 m2 m3 m4 bd fc hd sz el s g fm hm so si sh ce ca td wa kp la bf oo bo pw ow tr)) at_X5_says_8 rfl rfl (Nat.le_of_ble_eq_true rfl) rfl (L59_X4_isKind) (by decide) rfl ?_
                            refine E_if (t := 20) (b := true) at_X5_says_11 rfl (by decide) ?_
                            refine E_aload_n at_X5_says_20 rfl ?_
                            refine E_getfield (v := .ref 31) at_X5_says_21 w0 rfl (by decide) rfl ?_
                            refine E_iload_n at_X5_says_24 rfl ?_
                            refine E_aalN (b := 49 + 2 * a1k) at_X5_says_25 w31 (by omega) (w_shs (by omega)) ?_
                            refine E_astore_n (L2 := [some (.ref 0), some (.int (nI a1k)), some (.int (nI 2)), some (.ref (49 + 2 * a1k)), none]) at_X5_says_26 rfl ?_
                            refine E_aload_n at_X5_says_27 rfl ?_
                            have e1 : Ev ab_Z0 1 32 [.ref (49 + 2 * a1k)] (ww im lf s d k ls rf rz ra rn rq lt m1 m2 m3 m4 bd fc hd sz el s g fm hm so si sh ce ca td wa kp la bf oo bo pw ow tr) (some (.int (nI 0)), (ww im lf s d k ls rf rz ra rn rq lt m1 m2 m3 m4 bd fc hd sz el s g fm hm so si sh ce ca td wa kp la bf oo bo pw ow tr)) := by
                              refine Ef.in (md := mX3_isEmpty) (L := [some (.ref (49 + 2 * a1k))]) rfl (Nat.le_of_ble_eq_true rfl) rfl ?_
                              refine E_aload_n at_X3_isEmpty_0 rfl ?_
                              refine E_getfield (v := .int (nI xq)) at_X3_isEmpty_1 (w_shv (j := a1k) (by omega) u2 u3) rfl (by decide) rfl ?_
                              refine E_iconst (x := (-1)) at_X3_isEmpty_4 (by decide) ?_
                              refine E_ic (t := 12) (b := true) at_X3_isEmpty_5 rfl ((cn_ne (nI_toInt (by omega)) (by decide : (-1 : Int32).toInt = -1)).trans (decide_eq_true (by omega))) ?_
                              refine E_iconst (x := nI 0) at_X3_isEmpty_12 (by decide) ?_
                              exact E_iret at_X3_isEmpty_13 rfl
                            refine E_callV (v := some (.int (nI 0))) (As := [.ref (49 + 2 * a1k)]) (r0 := []) (cs2 := (ww im lf s d k ls rf rz ra rn rq lt m1 m2 m3 m4 bd fc hd sz el s g fm hm so si sh ce ca td wa kp la bf oo bo pw ow tr)) at_X5_says_28 rfl rfl (Nat.le_of_ble_eq_true rfl) rfl (ab_rvOf (w_shv (j := a1k) (by omega) u2 u3) rfl) e1 (by decide) rfl ?_
                            refine E_if (t := 40) (b := true) at_X5_says_31 rfl (by decide) ?_
                            refine E_aload_n at_X5_says_40 rfl ?_
                            refine E_getfield (v := .int (nI xq)) at_X5_says_41 (w_shv (j := a1k) (by omega) u2 u3) rfl (by decide) rfl ?_
                            refine E_istore (L2 := [some (.ref 0), some (.int (nI a1k)), some (.int (nI 2)), some (.ref (49 + 2 * a1k)), some (.int (nI xq))]) at_X5_says_44 rfl ?_
                            refine E_aload_n at_X5_says_46 rfl ?_
                            refine E_getfield (v := .ref 1) at_X5_says_47 w0 rfl (by decide) rfl ?_
                            refine E_iload at_X5_says_50 rfl ?_
                            refine E_callV (v := some (.int (nI 1))) (As := [.ref 1, .int (nI xq)]) (r0 := []) (cs2 := (ww im lf s d k ls rf rz ra rn rq lt m1 m2 m3 m4 bd fc hd sz el s g fm hm so si sh ce ca td wa kp la bf oo bo pw ow tr)) at_X5_says_52 rfl rfl (Nat.le_of_ble_eq_true rfl) rfl (ab_rvOf w1 rfl) (L15_X4_isPiece (by omega) (by omega) (by omega) (by omega)) (by decide) rfl ?_
                            refine E_if (t := 71) (b := false) at_X5_says_55 rfl (by decide) ?_
                            refine E_aload_n at_X5_says_58 rfl ?_
                            refine E_getfield (v := .ref 1) at_X5_says_59 w0 rfl (by decide) rfl ?_
                            refine E_iload at_X5_says_62 rfl ?_
                            refine E_iload_n at_X5_says_64 rfl ?_
                            refine E_callV (v := some (.int (nI (qOf ((qK s).getD xq 0) 2)))) (As := [.ref 1, .int (nI xq), .int (nI 2)]) (r0 := []) (cs2 := (ww im lf s d k ls rf rz ra rn rq lt m1 m2 m3 m4 bd fc hd sz el s g fm hm so si sh ce ca td wa kp la bf oo bo pw ow tr)) at_X5_says_65 rfl rfl (Nat.le_of_ble_eq_true rfl) rfl (ab_rvOf w1 rfl) (sq_isOfKind w_q1 I (w_none 0) (by omega) (by omega)) (by decide) rfl ?_
                            refine E_if (t := 77) (b := true) at_X5_says_68 rfl ((cn_ne (nI_toInt (by omega)) (by decide : (0 : Int32).toInt = 0)).trans (decide_eq_true (by omega))) ?_
                            refine E_iload_n at_X5_says_77 rfl ?_
                            refine E_tsIn (off := 59) (t := 137) at_X5_says_78 (by decide) rfl rfl ?_
                            refine E_aload_n at_X5_says_137 rfl ?_
                            refine E_getfield (v := .ref 1) at_X5_says_138 w0 rfl (by decide) rfl ?_
                            refine E_iload at_X5_says_141 rfl ?_
                            refine E_callV (v := some (.int (nI (qWorth s xq)))) (As := [.ref 1, .int (nI xq)]) (r0 := []) (cs2 := (ww im lf s d k ls rf rz ra rn rq lt m1 m2 m3 m4 bd fc hd sz el s g fm hm so si sh ce ca td wa kp la bf oo bo pw ow tr)) at_X5_says_143 rfl rfl (Nat.le_of_ble_eq_true rfl) rfl (ab_rvOf w1 rfl) (sq_worthOf w_q1 I (by omega)) (by decide) rfl ?_
                            exact E_iret at_X5_says_146 rfl
                          · show Ev ab_Z0 2 141 [.ref 65, .int (nI a1k), .int (nI 2)] (ww im lf s d k ls rf rz ra rn rq lt m1 m2 m3 m4 bd fc hd sz el s g fm hm so si sh ce ca td wa kp la bf oo bo pw ow tr) (some (.int (nI (qWorth s xq))), (ww im lf s d k ls rf rz ra rn rq lt m1 m2 m3 m4 bd fc hd sz el s g fm hm so si sh ce ca td wa kp la bf oo bo pw ow tr))
                            refine Ef.in (md := mX6_says) (L := [some (.ref 65), some (.int (nI a1k)), some (.int (nI 2)), none, none, none]) rfl (Nat.le_of_ble_eq_true rfl) rfl ?_
                            refine E_aload_n at_X6_says_0 rfl ?_
                            refine E_iload_n at_X6_says_1 rfl ?_
                            refine E_callV (v := some (.int (nI 1))) (As := [.ref 65, .int (nI a1k)]) (r0 := []) (cs2 := (ww im lf s d k ls rf rz ra rn rq lt m1 m2 m3 m4 bd fc hd sz el s g fm hm so si sh ce ca td wa kp la bf oo bo pw ow tr)) at_X6_says_2 rfl rfl (Nat.le_of_ble_eq_true rfl) rfl (ab_rvOf w65 rfl) (L40_X6_isShelf (by omega) (by omega) (by omega)) (by decide) rfl ?_
                            refine E_if (t := 18) (b := false) at_X6_says_5 rfl (by decide) ?_
                            refine E_iload_n at_X6_says_8 rfl ?_
                            refine E_if (t := 18) (b := false) at_X6_says_9 rfl (by decide) ?_
                            refine E_iload_n at_X6_says_12 rfl ?_
                            refine E_bipush (x := nI 6) at_X6_says_13 (by decide) ?_
                            refine E_ic (t := 24) (b := true) at_X6_says_15 rfl (by decide) ?_
                            refine E_aload_n at_X6_says_24 rfl ?_
                            refine E_getfield (v := .ref 76) at_X6_says_25 w65 rfl (by decide) rfl ?_
                            refine E_iload_n at_X6_says_28 rfl ?_
                            refine E_ialN (l := hm) (v := hm.getD a1k 0) at_X6_says_29 w76 (by omega) (by omega) rfl ?_
                            refine E_iconst (x := nI 1) at_X6_says_30 (by decide) ?_
                            refine E_ic (t := 41) (b := true) at_X6_says_31 rfl ((cn_ne (nI_toInt (by omega)) (nI_toInt (by omega))).trans (decide_eq_true (by omega))) ?_
                            refine E_aload_n at_X6_says_41 rfl ?_
                            refine E_getfield (v := .ref 76) at_X6_says_42 w65 rfl (by decide) rfl ?_
                            refine E_iload_n at_X6_says_45 rfl ?_
                            refine E_ialN (l := hm) (v := hm.getD a1k 0) at_X6_says_46 w76 (by omega) (by omega) rfl ?_
                            refine E_if (t := 57) (b := true) at_X6_says_47 rfl ((cn_ne (nI_toInt (by omega)) (by decide : (0 : Int32).toInt = 0)).trans (decide_eq_true (by omega))) ?_
                            refine E_aload_n at_X6_says_57 rfl ?_
                            refine E_getfield (v := .ref 79) at_X6_says_58 w65 rfl (by decide) rfl ?_
                            refine E_iload_n at_X6_says_61 rfl ?_
                            refine E_ialI (l := sh) (v := nI xq) at_X6_says_62 w79 (by omega) (by omega) u5 ?_
                            refine E_istore_n (L2 := [some (.ref 65), some (.int (nI a1k)), some (.int (nI 2)), some (.int (nI xq)), none, none]) at_X6_says_63 rfl ?_
                            refine E_aload_n at_X6_says_64 rfl ?_
                            refine E_getfield (v := .ref 67) at_X6_says_65 w65 rfl (by decide) rfl ?_
                            refine E_iload_n at_X6_says_68 rfl ?_
                            refine E_ialN (l := qK s) (v := (qK s).getD xq 0) at_X6_says_69 w67 (by omega) (by omega) rfl ?_
                            refine E_istore (L2 := [some (.ref 65), some (.int (nI a1k)), some (.int (nI 2)), some (.int (nI xq)), some (.int (nI ((qK s).getD xq 0))), none]) at_X6_says_70 rfl ?_
                            refine E_iload_n at_X6_says_72 rfl ?_
                            refine E_iconst (x := nI 1) at_X6_says_73 (by decide) ?_
                            refine E_ic (t := 83) (b := true) at_X6_says_74 rfl (by decide) ?_
                            refine E_iload_n at_X6_says_83 rfl ?_
                            refine E_iconst (x := nI 2) at_X6_says_84 (by decide) ?_
                            refine E_ic (t := 94) (b := false) at_X6_says_85 rfl (by decide) ?_
                            refine E_iload at_X6_says_88 rfl ?_
                            refine E_iconst (x := nI 5) at_X6_says_90 (by decide) ?_
                            refine E_ic (t := 106) (b := false) at_X6_says_91 rfl ((cn_eq (nI_toInt (by omega)) (nI_toInt (by omega))).trans (decide_eq_false (by omega))) ?_
                            refine E_iload_n at_X6_says_94 rfl ?_
                            refine E_iconst (x := nI 4) at_X6_says_95 (by decide) ?_
                            refine E_ic (t := 110) (b := true) at_X6_says_96 rfl (by decide) ?_
                            refine E_iconst (x := nI 0) at_X6_says_110 (by decide) ?_
                            refine E_istore (L2 := [some (.ref 65), some (.int (nI a1k)), some (.int (nI 2)), some (.int (nI xq)), some (.int (nI ((qK s).getD xq 0))), some (.int (nI 0))]) at_X6_says_111 rfl ?_
                            refine E_iload_n at_X6_says_113 rfl ?_
                            refine E_if (t := 135) (b := false) at_X6_says_114 rfl (by decide) ?_
                            refine E_iload_n at_X6_says_117 rfl ?_
                            refine E_iload at_X6_says_118 rfl ?_
                            refine E_ic (t := 135) (b := true) at_X6_says_120 rfl ((cn_eq (nI_toInt (by omega)) (nI_toInt (by omega))).trans (decide_eq_true (by omega))) ?_
                            refine E_iload_n at_X6_says_135 rfl ?_
                            refine E_tsIn (off := 53) (t := 189) at_X6_says_136 (by decide) rfl rfl ?_
                            refine E_aload_n at_X6_says_189 rfl ?_
                            refine E_iload_n at_X6_says_190 rfl ?_
                            refine E_callV (v := some (.int (nI (qWorth s xq)))) (As := [.ref 65, .int (nI xq)]) (r0 := []) (cs2 := (ww im lf s d k ls rf rz ra rn rq lt m1 m2 m3 m4 bd fc hd sz el s g fm hm so si sh ce ca td wa kp la bf oo bo pw ow tr)) at_X6_says_191 rfl rfl (Nat.le_of_ble_eq_true rfl) rfl (ab_rvOf w65 rfl) (mo_worth w_m I (by omega)) (by decide) rfl ?_
                            exact E_iret at_X6_says_194 rfl
                          · exact ⟨I, rfl, hf, iQ, iM, iT, iS, l_el, (lr.1), (lr.2.1), (lr.2.2.1), (lr.2.2.2.1), (lr.2.2.2.2.1), (lr.2.2.2.2.2.1), (lr.2.2.2.2.2.2.1), (lr.2.2.2.2.2.2.2.1), (lr.2.2.2.2.2.2.2.2.1), (lr.2.2.2.2.2.2.2.2.2.1), (lr.2.2.2.2.2.2.2.2.2.2.1), (lr.2.2.2.2.2.2.2.2.2.2.2.1), (lr.2.2.2.2.2.2.2.2.2.2.2.2.1), (lr.2.2.2.2.2.2.2.2.2.2.2.2.2.1), (lr.2.2.2.2.2.2.2.2.2.2.2.2.2.2.1), (lr.2.2.2.2.2.2.2.2.2.2.2.2.2.2.2.1), (lr.2.2.2.2.2.2.2.2.2.2.2.2.2.2.2.2.1), (lr.2.2.2.2.2.2.2.2.2.2.2.2.2.2.2.2.2.1), (lr.2.2.2.2.2.2.2.2.2.2.2.2.2.2.2.2.2.2.1), (lr.2.2.2.2.2.2.2.2.2.2.2.2.2.2.2.2.2.2.2.1), (lr.2.2.2.2.2.2.2.2.2.2.2.2.2.2.2.2.2.2.2.2)⟩
                        · have := I1 xq (by omega)
                          have := qOf_spec ((qK s).getD xq 0) 2
                          have := qWorth_in I (x := xq) (by omega)
                          exfalso; omega
                  · by_cases f9 : a2k = 3
                    · subst f9
                      by_cases f10 : (qOf ((qK s).getD xq 0) 3) = 0
                      · by_cases f11 : 3 = ((qK s).getD xq 0)
                        · have := I1 xq (by omega)
                          have := qOf_spec ((qK s).getD xq 0) 3
                          have := qHarm_in I (x := xq) (by omega)
                          exfalso; omega
                        · have := I1 xq (by omega)
                          have := qOf_spec ((qK s).getD xq 0) 3
                          refine ⟨(-2), (im, lf, s, d, k, ls, rf, rz, ra, rn, rq, lt, m1, m2, m3, m4, bd, (fc.set 2 ((fc.getD 2 0) + (nI 1))), hd, sz, el, s, g, fm, hm, so, si, sh, ce, ca, td, wa, kp, la, bf, oo, bo, pw, ow, tr), (im, lf, s, d, k, ls, rf, rz, ra, rn, rq, lt, m1, m2, m3, m4, bd, (fc.set 2 ((fc.getD 2 0) + (nI 1))), hd, sz, el, s, g, (fm.set 2 ((fm.getD 2 0) + (nI 1))), hm, so, si, sh, ce, ca, td, wa, kp, la, bf, oo, bo, pw, ow, tr), ?_, ?_, ?_⟩
                          · show Ev ab_Z0 3 82 [.ref 0, .int (nI a1k), .int (nI 3)] (ww im lf s d k ls rf rz ra rn rq lt m1 m2 m3 m4 bd fc hd sz el s g fm hm so si sh ce ca td wa kp la bf oo bo pw ow tr) (some (.int (-2)), (ww im lf s d k ls rf rz ra rn rq lt m1 m2 m3 m4 bd (fc.set 2 ((fc.getD 2 0) + (nI 1))) hd sz el s g fm hm so si sh ce ca td wa kp la bf oo bo pw ow tr))
                            refine Ef.in (md := mX5_says) (L := [some (.ref 0), some (.int (nI a1k)), some (.int (nI 3)), none, none]) rfl (Nat.le_of_ble_eq_true rfl) rfl ?_
                            refine E_iload_n at_X5_says_0 rfl ?_
                            refine E_callS (v := some (.int (nI 1))) (As := [.int (nI a1k)]) (r0 := []) (cs2 := (ww im lf s d k ls rf rz ra rn rq lt m1 m2 m3 m4 bd fc hd sz el s g fm hm so si sh ce ca td wa kp la bf oo bo pw ow tr)) at_X5_says_1 rfl rfl (Nat.le_of_ble_eq_true rfl) rfl (L39_X5_isShelf (by omega) (by omega) (by omega)) (by decide) rfl ?_
                            refine E_if (t := 14) (b := false) at_X5_says_4 rfl (by decide) ?_
                            refine E_iload_n at_X5_says_7 rfl ?_
                            refine E_callS (v := some (.int (nI 1))) (As := [.int (nI 3)]) (r0 := []) (cs2 := (ww im lf s d k ls rf rz ra rn rq lt m1 m2 m3 m4 bd fc hd sz el s g fm hm so si sh ce ca td wa kp la bf oo bo pw ow tr)) at_X5_says_8 rfl rfl (Nat.le_of_ble_eq_true rfl) rfl (L62_X4_isKind) (by decide) rfl ?_
                            refine E_if (t := 20) (b := true) at_X5_says_11 rfl (by decide) ?_
                            refine E_aload_n at_X5_says_20 rfl ?_
                            refine E_getfield (v := .ref 31) at_X5_says_21 w0 rfl (by decide) rfl ?_
                            refine E_iload_n at_X5_says_24 rfl ?_
                            refine E_aalN (b := 49 + 2 * a1k) at_X5_says_25 w31 (by omega) (w_shs (by omega)) ?_
                            refine E_astore_n (L2 := [some (.ref 0), some (.int (nI a1k)), some (.int (nI 3)), some (.ref (49 + 2 * a1k)), none]) at_X5_says_26 rfl ?_
                            refine E_aload_n at_X5_says_27 rfl ?_
                            have e1 : Ev ab_Z0 1 32 [.ref (49 + 2 * a1k)] (ww im lf s d k ls rf rz ra rn rq lt m1 m2 m3 m4 bd fc hd sz el s g fm hm so si sh ce ca td wa kp la bf oo bo pw ow tr) (some (.int (nI 0)), (ww im lf s d k ls rf rz ra rn rq lt m1 m2 m3 m4 bd fc hd sz el s g fm hm so si sh ce ca td wa kp la bf oo bo pw ow tr)) := by
                              refine Ef.in (md := mX3_isEmpty) (L := [some (.ref (49 + 2 * a1k))]) rfl (Nat.le_of_ble_eq_true rfl) rfl ?_
                              refine E_aload_n at_X3_isEmpty_0 rfl ?_
                              refine E_getfield (v := .int (nI xq)) at_X3_isEmpty_1 (w_shv (j := a1k) (by omega) u2 u3) rfl (by decide) rfl ?_
                              refine E_iconst (x := (-1)) at_X3_isEmpty_4 (by decide) ?_
                              refine E_ic (t := 12) (b := true) at_X3_isEmpty_5 rfl ((cn_ne (nI_toInt (by omega)) (by decide : (-1 : Int32).toInt = -1)).trans (decide_eq_true (by omega))) ?_
                              refine E_iconst (x := nI 0) at_X3_isEmpty_12 (by decide) ?_
                              exact E_iret at_X3_isEmpty_13 rfl
                            refine E_callV (v := some (.int (nI 0))) (As := [.ref (49 + 2 * a1k)]) (r0 := []) (cs2 := (ww im lf s d k ls rf rz ra rn rq lt m1 m2 m3 m4 bd fc hd sz el s g fm hm so si sh ce ca td wa kp la bf oo bo pw ow tr)) at_X5_says_28 rfl rfl (Nat.le_of_ble_eq_true rfl) rfl (ab_rvOf (w_shv (j := a1k) (by omega) u2 u3) rfl) e1 (by decide) rfl ?_
                            refine E_if (t := 40) (b := true) at_X5_says_31 rfl (by decide) ?_
                            refine E_aload_n at_X5_says_40 rfl ?_
                            refine E_getfield (v := .int (nI xq)) at_X5_says_41 (w_shv (j := a1k) (by omega) u2 u3) rfl (by decide) rfl ?_
                            refine E_istore (L2 := [some (.ref 0), some (.int (nI a1k)), some (.int (nI 3)), some (.ref (49 + 2 * a1k)), some (.int (nI xq))]) at_X5_says_44 rfl ?_
                            refine E_aload_n at_X5_says_46 rfl ?_
                            refine E_getfield (v := .ref 1) at_X5_says_47 w0 rfl (by decide) rfl ?_
                            refine E_iload at_X5_says_50 rfl ?_
                            refine E_callV (v := some (.int (nI 1))) (As := [.ref 1, .int (nI xq)]) (r0 := []) (cs2 := (ww im lf s d k ls rf rz ra rn rq lt m1 m2 m3 m4 bd fc hd sz el s g fm hm so si sh ce ca td wa kp la bf oo bo pw ow tr)) at_X5_says_52 rfl rfl (Nat.le_of_ble_eq_true rfl) rfl (ab_rvOf w1 rfl) (L15_X4_isPiece (by omega) (by omega) (by omega) (by omega)) (by decide) rfl ?_
                            refine E_if (t := 71) (b := false) at_X5_says_55 rfl (by decide) ?_
                            refine E_aload_n at_X5_says_58 rfl ?_
                            refine E_getfield (v := .ref 1) at_X5_says_59 w0 rfl (by decide) rfl ?_
                            refine E_iload at_X5_says_62 rfl ?_
                            refine E_iload_n at_X5_says_64 rfl ?_
                            refine E_callV (v := some (.int (nI (qOf ((qK s).getD xq 0) 3)))) (As := [.ref 1, .int (nI xq), .int (nI 3)]) (r0 := []) (cs2 := (ww im lf s d k ls rf rz ra rn rq lt m1 m2 m3 m4 bd fc hd sz el s g fm hm so si sh ce ca td wa kp la bf oo bo pw ow tr)) at_X5_says_65 rfl rfl (Nat.le_of_ble_eq_true rfl) rfl (ab_rvOf w1 rfl) (sq_isOfKind w_q1 I (w_none 0) (by omega) (by omega)) (by decide) rfl ?_
                            refine E_if (t := 77) (b := false) at_X5_says_68 rfl ((cn_ne (nI_toInt (by omega)) (by decide : (0 : Int32).toInt = 0)).trans (decide_eq_false (by omega))) ?_
                            refine E_aload_n at_X5_says_71 rfl ?_
                            refine E_iconst (x := nI 2) at_X5_says_72 (by decide) ?_
                            refine E_callV (v := some (.int (-2))) (As := [.ref 0, .int (nI 2)]) (r0 := []) (cs2 := (ww im lf s d k ls rf rz ra rn rq lt m1 m2 m3 m4 bd (fc.set 2 ((fc.getD 2 0) + (nI 1))) hd sz el s g fm hm so si sh ce ca td wa kp la bf oo bo pw ow tr)) at_X5_says_73 rfl rfl (Nat.le_of_ble_eq_true rfl) rfl (ab_rvOf w0 rfl) (L55_X5_refuse (by omega)) (by decide) w_lens ?_
                            exact E_iret at_X5_says_76 rfl
                          · show Ev ab_Z0 2 141 [.ref 65, .int (nI a1k), .int (nI 3)] (ww im lf s d k ls rf rz ra rn rq lt m1 m2 m3 m4 bd (fc.set 2 ((fc.getD 2 0) + (nI 1))) hd sz el s g fm hm so si sh ce ca td wa kp la bf oo bo pw ow tr) (some (.int (-2)), (ww im lf s d k ls rf rz ra rn rq lt m1 m2 m3 m4 bd (fc.set 2 ((fc.getD 2 0) + (nI 1))) hd sz el s g (fm.set 2 ((fm.getD 2 0) + (nI 1))) hm so si sh ce ca td wa kp la bf oo bo pw ow tr))
                            refine Ef.in (md := mX6_says) (L := [some (.ref 65), some (.int (nI a1k)), some (.int (nI 3)), none, none, none]) rfl (Nat.le_of_ble_eq_true rfl) rfl ?_
                            refine E_aload_n at_X6_says_0 rfl ?_
                            refine E_iload_n at_X6_says_1 rfl ?_
                            refine E_callV (v := some (.int (nI 1))) (As := [.ref 65, .int (nI a1k)]) (r0 := []) (cs2 := (ww im lf s d k ls rf rz ra rn rq lt m1 m2 m3 m4 bd (fc.set 2 ((fc.getD 2 0) + (nI 1))) hd sz el s g fm hm so si sh ce ca td wa kp la bf oo bo pw ow tr)) at_X6_says_2 rfl rfl (Nat.le_of_ble_eq_true rfl) rfl (ab_rvOf w65 rfl) (L40_X6_isShelf (by omega) (by omega) (by omega)) (by decide) rfl ?_
                            refine E_if (t := 18) (b := false) at_X6_says_5 rfl (by decide) ?_
                            refine E_iload_n at_X6_says_8 rfl ?_
                            refine E_if (t := 18) (b := false) at_X6_says_9 rfl (by decide) ?_
                            refine E_iload_n at_X6_says_12 rfl ?_
                            refine E_bipush (x := nI 6) at_X6_says_13 (by decide) ?_
                            refine E_ic (t := 24) (b := true) at_X6_says_15 rfl (by decide) ?_
                            refine E_aload_n at_X6_says_24 rfl ?_
                            refine E_getfield (v := .ref 76) at_X6_says_25 w65 rfl (by decide) rfl ?_
                            refine E_iload_n at_X6_says_28 rfl ?_
                            refine E_ialN (l := hm) (v := hm.getD a1k 0) at_X6_says_29 w76 (by omega) (by omega) rfl ?_
                            refine E_iconst (x := nI 1) at_X6_says_30 (by decide) ?_
                            refine E_ic (t := 41) (b := true) at_X6_says_31 rfl ((cn_ne (nI_toInt (by omega)) (nI_toInt (by omega))).trans (decide_eq_true (by omega))) ?_
                            refine E_aload_n at_X6_says_41 rfl ?_
                            refine E_getfield (v := .ref 76) at_X6_says_42 w65 rfl (by decide) rfl ?_
                            refine E_iload_n at_X6_says_45 rfl ?_
                            refine E_ialN (l := hm) (v := hm.getD a1k 0) at_X6_says_46 w76 (by omega) (by omega) rfl ?_
                            refine E_if (t := 57) (b := true) at_X6_says_47 rfl ((cn_ne (nI_toInt (by omega)) (by decide : (0 : Int32).toInt = 0)).trans (decide_eq_true (by omega))) ?_
                            refine E_aload_n at_X6_says_57 rfl ?_
                            refine E_getfield (v := .ref 79) at_X6_says_58 w65 rfl (by decide) rfl ?_
                            refine E_iload_n at_X6_says_61 rfl ?_
                            refine E_ialI (l := sh) (v := nI xq) at_X6_says_62 w79 (by omega) (by omega) u5 ?_
                            refine E_istore_n (L2 := [some (.ref 65), some (.int (nI a1k)), some (.int (nI 3)), some (.int (nI xq)), none, none]) at_X6_says_63 rfl ?_
                            refine E_aload_n at_X6_says_64 rfl ?_
                            refine E_getfield (v := .ref 67) at_X6_says_65 w65 rfl (by decide) rfl ?_
                            refine E_iload_n at_X6_says_68 rfl ?_
                            refine E_ialN (l := qK s) (v := (qK s).getD xq 0) at_X6_says_69 w67 (by omega) (by omega) rfl ?_
                            refine E_istore (L2 := [some (.ref 65), some (.int (nI a1k)), some (.int (nI 3)), some (.int (nI xq)), some (.int (nI ((qK s).getD xq 0))), none]) at_X6_says_70 rfl ?_
                            refine E_iload_n at_X6_says_72 rfl ?_
                            refine E_iconst (x := nI 1) at_X6_says_73 (by decide) ?_
                            refine E_ic (t := 83) (b := true) at_X6_says_74 rfl (by decide) ?_
                            refine E_iload_n at_X6_says_83 rfl ?_
                            refine E_iconst (x := nI 2) at_X6_says_84 (by decide) ?_
                            refine E_ic (t := 94) (b := true) at_X6_says_85 rfl (by decide) ?_
                            refine E_iload_n at_X6_says_94 rfl ?_
                            refine E_iconst (x := nI 4) at_X6_says_95 (by decide) ?_
                            refine E_ic (t := 110) (b := true) at_X6_says_96 rfl (by decide) ?_
                            refine E_iconst (x := nI 0) at_X6_says_110 (by decide) ?_
                            refine E_istore (L2 := [some (.ref 65), some (.int (nI a1k)), some (.int (nI 3)), some (.int (nI xq)), some (.int (nI ((qK s).getD xq 0))), some (.int (nI 0))]) at_X6_says_111 rfl ?_
                            refine E_iload_n at_X6_says_113 rfl ?_
                            refine E_if (t := 135) (b := false) at_X6_says_114 rfl (by decide) ?_
                            refine E_iload_n at_X6_says_117 rfl ?_
                            refine E_iload at_X6_says_118 rfl ?_
                            refine E_ic (t := 135) (b := false) at_X6_says_120 rfl ((cn_eq (nI_toInt (by omega)) (nI_toInt (by omega))).trans (decide_eq_false (by omega))) ?_
                            refine E_iload at_X6_says_123 rfl ?_
                            refine E_if (t := 135) (b := false) at_X6_says_125 rfl (by decide) ?_
                            refine E_aload_n at_X6_says_128 rfl ?_
                            refine E_bipush (x := (-2)) at_X6_says_129 (by decide) ?_
                            refine E_callV (v := some (.int (-2))) (As := [.ref 65, .int (-2)]) (r0 := []) (cs2 := (ww im lf s d k ls rf rz ra rn rq lt m1 m2 m3 m4 bd (fc.set 2 ((fc.getD 2 0) + (nI 1))) hd sz el s g (fm.set 2 ((fm.getD 2 0) + (nI 1))) hm so si sh ce ca td wa kp la bf oo bo pw ow tr)) at_X6_says_131 rfl rfl (Nat.le_of_ble_eq_true rfl) rfl (ab_rvOf w65 rfl) (L56_X6_no (by omega)) (by decide) w_lens ?_
                            exact E_iret at_X6_says_134 rfl
                          · exact ⟨I, rfl, hf, iQ, iM, iT, iS, l_el, (lr.1), (lr.2.1), (lr.2.2.1), (by simp only [List.length_set]; exact (lr.2.2.2.1)), (by simp only [List.length_set]; exact (lr.2.2.2.2.1)), (lr.2.2.2.2.2.1), (lr.2.2.2.2.2.2.1), (lr.2.2.2.2.2.2.2.1), (lr.2.2.2.2.2.2.2.2.1), (lr.2.2.2.2.2.2.2.2.2.1), (lr.2.2.2.2.2.2.2.2.2.2.1), (lr.2.2.2.2.2.2.2.2.2.2.2.1), (lr.2.2.2.2.2.2.2.2.2.2.2.2.1), (lr.2.2.2.2.2.2.2.2.2.2.2.2.2.1), (lr.2.2.2.2.2.2.2.2.2.2.2.2.2.2.1), (lr.2.2.2.2.2.2.2.2.2.2.2.2.2.2.2.1), (lr.2.2.2.2.2.2.2.2.2.2.2.2.2.2.2.2.1), (lr.2.2.2.2.2.2.2.2.2.2.2.2.2.2.2.2.2.1), (lr.2.2.2.2.2.2.2.2.2.2.2.2.2.2.2.2.2.2.1), (lr.2.2.2.2.2.2.2.2.2.2.2.2.2.2.2.2.2.2.2.1), (lr.2.2.2.2.2.2.2.2.2.2.2.2.2.2.2.2.2.2.2.2)⟩
                      · by_cases f11 : 3 = ((qK s).getD xq 0)
                        · have := I1 xq (by omega)
                          have := qOf_spec ((qK s).getD xq 0) 3
                          have := qHarm_in I (x := xq) (by omega)
                          refine ⟨(nI (qHarm s xq)), (im, lf, s, d, k, ls, rf, rz, ra, rn, rq, lt, m1, m2, m3, m4, bd, fc, hd, sz, el, s, g, fm, hm, so, si, sh, ce, ca, td, wa, kp, la, bf, oo, bo, pw, ow, tr), (im, lf, s, d, k, ls, rf, rz, ra, rn, rq, lt, m1, m2, m3, m4, bd, fc, hd, sz, el, s, g, fm, hm, so, si, sh, ce, ca, td, wa, kp, la, bf, oo, bo, pw, ow, tr), ?_, ?_, ?_⟩
                          · show Ev ab_Z0 3 82 [.ref 0, .int (nI a1k), .int (nI 3)] (ww im lf s d k ls rf rz ra rn rq lt m1 m2 m3 m4 bd fc hd sz el s g fm hm so si sh ce ca td wa kp la bf oo bo pw ow tr) (some (.int (nI (qHarm s xq))), (ww im lf s d k ls rf rz ra rn rq lt m1 m2 m3 m4 bd fc hd sz el s g fm hm so si sh ce ca td wa kp la bf oo bo pw ow tr))
                            refine Ef.in (md := mX5_says) (L := [some (.ref 0), some (.int (nI a1k)), some (.int (nI 3)), none, none]) rfl (Nat.le_of_ble_eq_true rfl) rfl ?_
                            refine E_iload_n at_X5_says_0 rfl ?_
                            refine E_callS (v := some (.int (nI 1))) (As := [.int (nI a1k)]) (r0 := []) (cs2 := (ww im lf s d k ls rf rz ra rn rq lt m1 m2 m3 m4 bd fc hd sz el s g fm hm so si sh ce ca td wa kp la bf oo bo pw ow tr)) at_X5_says_1 rfl rfl (Nat.le_of_ble_eq_true rfl) rfl (L39_X5_isShelf (by omega) (by omega) (by omega)) (by decide) rfl ?_
                            refine E_if (t := 14) (b := false) at_X5_says_4 rfl (by decide) ?_
                            refine E_iload_n at_X5_says_7 rfl ?_
                            refine E_callS (v := some (.int (nI 1))) (As := [.int (nI 3)]) (r0 := []) (cs2 := (ww im lf s d k ls rf rz ra rn rq lt m1 m2 m3 m4 bd fc hd sz el s g fm hm so si sh ce ca td wa kp la bf oo bo pw ow tr)) at_X5_says_8 rfl rfl (Nat.le_of_ble_eq_true rfl) rfl (L62_X4_isKind) (by decide) rfl ?_
                            refine E_if (t := 20) (b := true) at_X5_says_11 rfl (by decide) ?_
                            refine E_aload_n at_X5_says_20 rfl ?_
                            refine E_getfield (v := .ref 31) at_X5_says_21 w0 rfl (by decide) rfl ?_
                            refine E_iload_n at_X5_says_24 rfl ?_
                            refine E_aalN (b := 49 + 2 * a1k) at_X5_says_25 w31 (by omega) (w_shs (by omega)) ?_
                            refine E_astore_n (L2 := [some (.ref 0), some (.int (nI a1k)), some (.int (nI 3)), some (.ref (49 + 2 * a1k)), none]) at_X5_says_26 rfl ?_
                            refine E_aload_n at_X5_says_27 rfl ?_
                            have e1 : Ev ab_Z0 1 32 [.ref (49 + 2 * a1k)] (ww im lf s d k ls rf rz ra rn rq lt m1 m2 m3 m4 bd fc hd sz el s g fm hm so si sh ce ca td wa kp la bf oo bo pw ow tr) (some (.int (nI 0)), (ww im lf s d k ls rf rz ra rn rq lt m1 m2 m3 m4 bd fc hd sz el s g fm hm so si sh ce ca td wa kp la bf oo bo pw ow tr)) := by
                              refine Ef.in (md := mX3_isEmpty) (L := [some (.ref (49 + 2 * a1k))]) rfl (Nat.le_of_ble_eq_true rfl) rfl ?_
                              refine E_aload_n at_X3_isEmpty_0 rfl ?_
                              refine E_getfield (v := .int (nI xq)) at_X3_isEmpty_1 (w_shv (j := a1k) (by omega) u2 u3) rfl (by decide) rfl ?_
                              refine E_iconst (x := (-1)) at_X3_isEmpty_4 (by decide) ?_
                              refine E_ic (t := 12) (b := true) at_X3_isEmpty_5 rfl ((cn_ne (nI_toInt (by omega)) (by decide : (-1 : Int32).toInt = -1)).trans (decide_eq_true (by omega))) ?_
                              refine E_iconst (x := nI 0) at_X3_isEmpty_12 (by decide) ?_
                              exact E_iret at_X3_isEmpty_13 rfl
                            refine E_callV (v := some (.int (nI 0))) (As := [.ref (49 + 2 * a1k)]) (r0 := []) (cs2 := (ww im lf s d k ls rf rz ra rn rq lt m1 m2 m3 m4 bd fc hd sz el s g fm hm so si sh ce ca td wa kp la bf oo bo pw ow tr)) at_X5_says_28 rfl rfl (Nat.le_of_ble_eq_true rfl) rfl (ab_rvOf (w_shv (j := a1k) (by omega) u2 u3) rfl) e1 (by decide) rfl ?_
                            refine E_if (t := 40) (b := true) at_X5_says_31 rfl (by decide) ?_
                            refine E_aload_n at_X5_says_40 rfl ?_
                            refine E_getfield (v := .int (nI xq)) at_X5_says_41 (w_shv (j := a1k) (by omega) u2 u3) rfl (by decide) rfl ?_
                            refine E_istore (L2 := [some (.ref 0), some (.int (nI a1k)), some (.int (nI 3)), some (.ref (49 + 2 * a1k)), some (.int (nI xq))]) at_X5_says_44 rfl ?_
                            refine E_aload_n at_X5_says_46 rfl ?_
                            refine E_getfield (v := .ref 1) at_X5_says_47 w0 rfl (by decide) rfl ?_
                            refine E_iload at_X5_says_50 rfl ?_
                            refine E_callV (v := some (.int (nI 1))) (As := [.ref 1, .int (nI xq)]) (r0 := []) (cs2 := (ww im lf s d k ls rf rz ra rn rq lt m1 m2 m3 m4 bd fc hd sz el s g fm hm so si sh ce ca td wa kp la bf oo bo pw ow tr)) at_X5_says_52 rfl rfl (Nat.le_of_ble_eq_true rfl) rfl (ab_rvOf w1 rfl) (L15_X4_isPiece (by omega) (by omega) (by omega) (by omega)) (by decide) rfl ?_
                            refine E_if (t := 71) (b := false) at_X5_says_55 rfl (by decide) ?_
                            refine E_aload_n at_X5_says_58 rfl ?_
                            refine E_getfield (v := .ref 1) at_X5_says_59 w0 rfl (by decide) rfl ?_
                            refine E_iload at_X5_says_62 rfl ?_
                            refine E_iload_n at_X5_says_64 rfl ?_
                            refine E_callV (v := some (.int (nI (qOf ((qK s).getD xq 0) 3)))) (As := [.ref 1, .int (nI xq), .int (nI 3)]) (r0 := []) (cs2 := (ww im lf s d k ls rf rz ra rn rq lt m1 m2 m3 m4 bd fc hd sz el s g fm hm so si sh ce ca td wa kp la bf oo bo pw ow tr)) at_X5_says_65 rfl rfl (Nat.le_of_ble_eq_true rfl) rfl (ab_rvOf w1 rfl) (sq_isOfKind w_q1 I (w_none 0) (by omega) (by omega)) (by decide) rfl ?_
                            refine E_if (t := 77) (b := true) at_X5_says_68 rfl ((cn_ne (nI_toInt (by omega)) (by decide : (0 : Int32).toInt = 0)).trans (decide_eq_true (by omega))) ?_
                            refine E_iload_n at_X5_says_77 rfl ?_
                            refine E_tsIn (off := 49) (t := 127) at_X5_says_78 (by decide) rfl rfl ?_
                            refine E_aload_n at_X5_says_127 rfl ?_
                            refine E_getfield (v := .ref 1) at_X5_says_128 w0 rfl (by decide) rfl ?_
                            refine E_iload at_X5_says_131 rfl ?_
                            refine E_callV (v := some (.int (nI (qHarm s xq)))) (As := [.ref 1, .int (nI xq)]) (r0 := []) (cs2 := (ww im lf s d k ls rf rz ra rn rq lt m1 m2 m3 m4 bd fc hd sz el s g fm hm so si sh ce ca td wa kp la bf oo bo pw ow tr)) at_X5_says_133 rfl rfl (Nat.le_of_ble_eq_true rfl) rfl (ab_rvOf w1 rfl) (sq_harmOf w_q1 I (by omega)) (by decide) rfl ?_
                            exact E_iret at_X5_says_136 rfl
                          · show Ev ab_Z0 2 141 [.ref 65, .int (nI a1k), .int (nI 3)] (ww im lf s d k ls rf rz ra rn rq lt m1 m2 m3 m4 bd fc hd sz el s g fm hm so si sh ce ca td wa kp la bf oo bo pw ow tr) (some (.int (nI (qHarm s xq))), (ww im lf s d k ls rf rz ra rn rq lt m1 m2 m3 m4 bd fc hd sz el s g fm hm so si sh ce ca td wa kp la bf oo bo pw ow tr))
                            refine Ef.in (md := mX6_says) (L := [some (.ref 65), some (.int (nI a1k)), some (.int (nI 3)), none, none, none]) rfl (Nat.le_of_ble_eq_true rfl) rfl ?_
                            refine E_aload_n at_X6_says_0 rfl ?_
                            refine E_iload_n at_X6_says_1 rfl ?_
                            refine E_callV (v := some (.int (nI 1))) (As := [.ref 65, .int (nI a1k)]) (r0 := []) (cs2 := (ww im lf s d k ls rf rz ra rn rq lt m1 m2 m3 m4 bd fc hd sz el s g fm hm so si sh ce ca td wa kp la bf oo bo pw ow tr)) at_X6_says_2 rfl rfl (Nat.le_of_ble_eq_true rfl) rfl (ab_rvOf w65 rfl) (L40_X6_isShelf (by omega) (by omega) (by omega)) (by decide) rfl ?_
                            refine E_if (t := 18) (b := false) at_X6_says_5 rfl (by decide) ?_
                            refine E_iload_n at_X6_says_8 rfl ?_
                            refine E_if (t := 18) (b := false) at_X6_says_9 rfl (by decide) ?_
                            refine E_iload_n at_X6_says_12 rfl ?_
                            refine E_bipush (x := nI 6) at_X6_says_13 (by decide) ?_
                            refine E_ic (t := 24) (b := true) at_X6_says_15 rfl (by decide) ?_
                            refine E_aload_n at_X6_says_24 rfl ?_
                            refine E_getfield (v := .ref 76) at_X6_says_25 w65 rfl (by decide) rfl ?_
                            refine E_iload_n at_X6_says_28 rfl ?_
                            refine E_ialN (l := hm) (v := hm.getD a1k 0) at_X6_says_29 w76 (by omega) (by omega) rfl ?_
                            refine E_iconst (x := nI 1) at_X6_says_30 (by decide) ?_
                            refine E_ic (t := 41) (b := true) at_X6_says_31 rfl ((cn_ne (nI_toInt (by omega)) (nI_toInt (by omega))).trans (decide_eq_true (by omega))) ?_
                            refine E_aload_n at_X6_says_41 rfl ?_
                            refine E_getfield (v := .ref 76) at_X6_says_42 w65 rfl (by decide) rfl ?_
                            refine E_iload_n at_X6_says_45 rfl ?_
                            refine E_ialN (l := hm) (v := hm.getD a1k 0) at_X6_says_46 w76 (by omega) (by omega) rfl ?_
                            refine E_if (t := 57) (b := true) at_X6_says_47 rfl ((cn_ne (nI_toInt (by omega)) (by decide : (0 : Int32).toInt = 0)).trans (decide_eq_true (by omega))) ?_
                            refine E_aload_n at_X6_says_57 rfl ?_
                            refine E_getfield (v := .ref 79) at_X6_says_58 w65 rfl (by decide) rfl ?_
                            refine E_iload_n at_X6_says_61 rfl ?_
                            refine E_ialI (l := sh) (v := nI xq) at_X6_says_62 w79 (by omega) (by omega) u5 ?_
                            refine E_istore_n (L2 := [some (.ref 65), some (.int (nI a1k)), some (.int (nI 3)), some (.int (nI xq)), none, none]) at_X6_says_63 rfl ?_
                            refine E_aload_n at_X6_says_64 rfl ?_
                            refine E_getfield (v := .ref 67) at_X6_says_65 w65 rfl (by decide) rfl ?_
                            refine E_iload_n at_X6_says_68 rfl ?_
                            refine E_ialN (l := qK s) (v := (qK s).getD xq 0) at_X6_says_69 w67 (by omega) (by omega) rfl ?_
                            refine E_istore (L2 := [some (.ref 65), some (.int (nI a1k)), some (.int (nI 3)), some (.int (nI xq)), some (.int (nI ((qK s).getD xq 0))), none]) at_X6_says_70 rfl ?_
                            refine E_iload_n at_X6_says_72 rfl ?_
                            refine E_iconst (x := nI 1) at_X6_says_73 (by decide) ?_
                            refine E_ic (t := 83) (b := true) at_X6_says_74 rfl (by decide) ?_
                            refine E_iload_n at_X6_says_83 rfl ?_
                            refine E_iconst (x := nI 2) at_X6_says_84 (by decide) ?_
                            refine E_ic (t := 94) (b := true) at_X6_says_85 rfl (by decide) ?_
                            refine E_iload_n at_X6_says_94 rfl ?_
                            refine E_iconst (x := nI 4) at_X6_says_95 (by decide) ?_
                            refine E_ic (t := 110) (b := true) at_X6_says_96 rfl (by decide) ?_
                            refine E_iconst (x := nI 0) at_X6_says_110 (by decide) ?_
                            refine E_istore (L2 := [some (.ref 65), some (.int (nI a1k)), some (.int (nI 3)), some (.int (nI xq)), some (.int (nI ((qK s).getD xq 0))), some (.int (nI 0))]) at_X6_says_111 rfl ?_
                            refine E_iload_n at_X6_says_113 rfl ?_
                            refine E_if (t := 135) (b := false) at_X6_says_114 rfl (by decide) ?_
                            refine E_iload_n at_X6_says_117 rfl ?_
                            refine E_iload at_X6_says_118 rfl ?_
                            refine E_ic (t := 135) (b := true) at_X6_says_120 rfl ((cn_eq (nI_toInt (by omega)) (nI_toInt (by omega))).trans (decide_eq_true (by omega))) ?_
                            refine E_iload_n at_X6_says_135 rfl ?_
                            refine E_tsIn (off := 47) (t := 183) at_X6_says_136 (by decide) rfl rfl ?_
                            refine E_aload_n at_X6_says_183 rfl ?_
                            refine E_iload_n at_X6_says_184 rfl ?_
                            refine E_callV (v := some (.int (nI (qHarm s xq)))) (As := [.ref 65, .int (nI xq)]) (r0 := []) (cs2 := (ww im lf s d k ls rf rz ra rn rq lt m1 m2 m3 m4 bd fc hd sz el s g fm hm so si sh ce ca td wa kp la bf oo bo pw ow tr)) at_X6_says_185 rfl rfl (Nat.le_of_ble_eq_true rfl) rfl (ab_rvOf w65 rfl) (mo_harms w_m I (by omega)) (by decide) rfl ?_
                            exact E_iret at_X6_says_188 rfl
                          · exact ⟨I, rfl, hf, iQ, iM, iT, iS, l_el, (lr.1), (lr.2.1), (lr.2.2.1), (lr.2.2.2.1), (lr.2.2.2.2.1), (lr.2.2.2.2.2.1), (lr.2.2.2.2.2.2.1), (lr.2.2.2.2.2.2.2.1), (lr.2.2.2.2.2.2.2.2.1), (lr.2.2.2.2.2.2.2.2.2.1), (lr.2.2.2.2.2.2.2.2.2.2.1), (lr.2.2.2.2.2.2.2.2.2.2.2.1), (lr.2.2.2.2.2.2.2.2.2.2.2.2.1), (lr.2.2.2.2.2.2.2.2.2.2.2.2.2.1), (lr.2.2.2.2.2.2.2.2.2.2.2.2.2.2.1), (lr.2.2.2.2.2.2.2.2.2.2.2.2.2.2.2.1), (lr.2.2.2.2.2.2.2.2.2.2.2.2.2.2.2.2.1), (lr.2.2.2.2.2.2.2.2.2.2.2.2.2.2.2.2.2.1), (lr.2.2.2.2.2.2.2.2.2.2.2.2.2.2.2.2.2.2.1), (lr.2.2.2.2.2.2.2.2.2.2.2.2.2.2.2.2.2.2.2.1), (lr.2.2.2.2.2.2.2.2.2.2.2.2.2.2.2.2.2.2.2.2)⟩
                        · have := I1 xq (by omega)
                          have := qOf_spec ((qK s).getD xq 0) 3
                          have := qHarm_in I (x := xq) (by omega)
                          exfalso; omega
                    · by_cases f10 : a2k = 4
                      · subst f10
                        by_cases f11 : (qOf ((qK s).getD xq 0) 4) = 0
                        · by_cases f12 : ((qK s).getD xq 0) = 6
                          · have := I1 xq (by omega)
                            have := qOf_spec ((qK s).getD xq 0) 4
                            exfalso; omega
                          · by_cases f13 : 4 = ((qK s).getD xq 0)
                            · have := I1 xq (by omega)
                              have := qOf_spec ((qK s).getD xq 0) 4
                              exfalso; omega
                            · have := I1 xq (by omega)
                              have := qOf_spec ((qK s).getD xq 0) 4
                              refine ⟨(-2), (im, lf, s, d, k, ls, rf, rz, ra, rn, rq, lt, m1, m2, m3, m4, bd, (fc.set 2 ((fc.getD 2 0) + (nI 1))), hd, sz, el, s, g, fm, hm, so, si, sh, ce, ca, td, wa, kp, la, bf, oo, bo, pw, ow, tr), (im, lf, s, d, k, ls, rf, rz, ra, rn, rq, lt, m1, m2, m3, m4, bd, (fc.set 2 ((fc.getD 2 0) + (nI 1))), hd, sz, el, s, g, (fm.set 2 ((fm.getD 2 0) + (nI 1))), hm, so, si, sh, ce, ca, td, wa, kp, la, bf, oo, bo, pw, ow, tr), ?_, ?_, ?_⟩
                              · show Ev ab_Z0 3 82 [.ref 0, .int (nI a1k), .int (nI 4)] (ww im lf s d k ls rf rz ra rn rq lt m1 m2 m3 m4 bd fc hd sz el s g fm hm so si sh ce ca td wa kp la bf oo bo pw ow tr) (some (.int (-2)), (ww im lf s d k ls rf rz ra rn rq lt m1 m2 m3 m4 bd (fc.set 2 ((fc.getD 2 0) + (nI 1))) hd sz el s g fm hm so si sh ce ca td wa kp la bf oo bo pw ow tr))
                                refine Ef.in (md := mX5_says) (L := [some (.ref 0), some (.int (nI a1k)), some (.int (nI 4)), none, none]) rfl (Nat.le_of_ble_eq_true rfl) rfl ?_
                                refine E_iload_n at_X5_says_0 rfl ?_
                                refine E_callS (v := some (.int (nI 1))) (As := [.int (nI a1k)]) (r0 := []) (cs2 := (ww im lf s d k ls rf rz ra rn rq lt m1 m2 m3 m4 bd fc hd sz el s g fm hm so si sh ce ca td wa kp la bf oo bo pw ow tr)) at_X5_says_1 rfl rfl (Nat.le_of_ble_eq_true rfl) rfl (L39_X5_isShelf (by omega) (by omega) (by omega)) (by decide) rfl ?_
                                refine E_if (t := 14) (b := false) at_X5_says_4 rfl (by decide) ?_
                                refine E_iload_n at_X5_says_7 rfl ?_
                                refine E_callS (v := some (.int (nI 1))) (As := [.int (nI 4)]) (r0 := []) (cs2 := (ww im lf s d k ls rf rz ra rn rq lt m1 m2 m3 m4 bd fc hd sz el s g fm hm so si sh ce ca td wa kp la bf oo bo pw ow tr)) at_X5_says_8 rfl rfl (Nat.le_of_ble_eq_true rfl) rfl (L60_X4_isKind) (by decide) rfl ?_
                                refine E_if (t := 20) (b := true) at_X5_says_11 rfl (by decide) ?_
                                refine E_aload_n at_X5_says_20 rfl ?_
                                refine E_getfield (v := .ref 31) at_X5_says_21 w0 rfl (by decide) rfl ?_
                                refine E_iload_n at_X5_says_24 rfl ?_
                                refine E_aalN (b := 49 + 2 * a1k) at_X5_says_25 w31 (by omega) (w_shs (by omega)) ?_
                                refine E_astore_n (L2 := [some (.ref 0), some (.int (nI a1k)), some (.int (nI 4)), some (.ref (49 + 2 * a1k)), none]) at_X5_says_26 rfl ?_
                                refine E_aload_n at_X5_says_27 rfl ?_
                                have e1 : Ev ab_Z0 1 32 [.ref (49 + 2 * a1k)] (ww im lf s d k ls rf rz ra rn rq lt m1 m2 m3 m4 bd fc hd sz el s g fm hm so si sh ce ca td wa kp la bf oo bo pw ow tr) (some (.int (nI 0)), (ww im lf s d k ls rf rz ra rn rq lt m1 m2 m3 m4 bd fc hd sz el s g fm hm so si sh ce ca td wa kp la bf oo bo pw ow tr)) := by
                                  refine Ef.in (md := mX3_isEmpty) (L := [some (.ref (49 + 2 * a1k))]) rfl (Nat.le_of_ble_eq_true rfl) rfl ?_
                                  refine E_aload_n at_X3_isEmpty_0 rfl ?_
                                  refine E_getfield (v := .int (nI xq)) at_X3_isEmpty_1 (w_shv (j := a1k) (by omega) u2 u3) rfl (by decide) rfl ?_
                                  refine E_iconst (x := (-1)) at_X3_isEmpty_4 (by decide) ?_
                                  refine E_ic (t := 12) (b := true) at_X3_isEmpty_5 rfl ((cn_ne (nI_toInt (by omega)) (by decide : (-1 : Int32).toInt = -1)).trans (decide_eq_true (by omega))) ?_
                                  refine E_iconst (x := nI 0) at_X3_isEmpty_12 (by decide) ?_
                                  exact E_iret at_X3_isEmpty_13 rfl
                                refine E_callV (v := some (.int (nI 0))) (As := [.ref (49 + 2 * a1k)]) (r0 := []) (cs2 := (ww im lf s d k ls rf rz ra rn rq lt m1 m2 m3 m4 bd fc hd sz el s g fm hm so si sh ce ca td wa kp la bf oo bo pw ow tr)) at_X5_says_28 rfl rfl (Nat.le_of_ble_eq_true rfl) rfl (ab_rvOf (w_shv (j := a1k) (by omega) u2 u3) rfl) e1 (by decide) rfl ?_
                                refine E_if (t := 40) (b := true) at_X5_says_31 rfl (by decide) ?_
                                refine E_aload_n at_X5_says_40 rfl ?_
                                refine E_getfield (v := .int (nI xq)) at_X5_says_41 (w_shv (j := a1k) (by omega) u2 u3) rfl (by decide) rfl ?_
                                refine E_istore (L2 := [some (.ref 0), some (.int (nI a1k)), some (.int (nI 4)), some (.ref (49 + 2 * a1k)), some (.int (nI xq))]) at_X5_says_44 rfl ?_
                                refine E_aload_n at_X5_says_46 rfl ?_
                                refine E_getfield (v := .ref 1) at_X5_says_47 w0 rfl (by decide) rfl ?_
                                refine E_iload at_X5_says_50 rfl ?_
                                refine E_callV (v := some (.int (nI 1))) (As := [.ref 1, .int (nI xq)]) (r0 := []) (cs2 := (ww im lf s d k ls rf rz ra rn rq lt m1 m2 m3 m4 bd fc hd sz el s g fm hm so si sh ce ca td wa kp la bf oo bo pw ow tr)) at_X5_says_52 rfl rfl (Nat.le_of_ble_eq_true rfl) rfl (ab_rvOf w1 rfl) (L15_X4_isPiece (by omega) (by omega) (by omega) (by omega)) (by decide) rfl ?_
                                refine E_if (t := 71) (b := false) at_X5_says_55 rfl (by decide) ?_
                                refine E_aload_n at_X5_says_58 rfl ?_
                                refine E_getfield (v := .ref 1) at_X5_says_59 w0 rfl (by decide) rfl ?_
                                refine E_iload at_X5_says_62 rfl ?_
                                refine E_iload_n at_X5_says_64 rfl ?_
                                refine E_callV (v := some (.int (nI (qOf ((qK s).getD xq 0) 4)))) (As := [.ref 1, .int (nI xq), .int (nI 4)]) (r0 := []) (cs2 := (ww im lf s d k ls rf rz ra rn rq lt m1 m2 m3 m4 bd fc hd sz el s g fm hm so si sh ce ca td wa kp la bf oo bo pw ow tr)) at_X5_says_65 rfl rfl (Nat.le_of_ble_eq_true rfl) rfl (ab_rvOf w1 rfl) (sq_isOfKind w_q1 I (w_none 0) (by omega) (by omega)) (by decide) rfl ?_
                                refine E_if (t := 77) (b := false) at_X5_says_68 rfl ((cn_ne (nI_toInt (by omega)) (by decide : (0 : Int32).toInt = 0)).trans (decide_eq_false (by omega))) ?_
                                refine E_aload_n at_X5_says_71 rfl ?_
                                refine E_iconst (x := nI 2) at_X5_says_72 (by decide) ?_
                                refine E_callV (v := some (.int (-2))) (As := [.ref 0, .int (nI 2)]) (r0 := []) (cs2 := (ww im lf s d k ls rf rz ra rn rq lt m1 m2 m3 m4 bd (fc.set 2 ((fc.getD 2 0) + (nI 1))) hd sz el s g fm hm so si sh ce ca td wa kp la bf oo bo pw ow tr)) at_X5_says_73 rfl rfl (Nat.le_of_ble_eq_true rfl) rfl (ab_rvOf w0 rfl) (L55_X5_refuse (by omega)) (by decide) w_lens ?_
                                exact E_iret at_X5_says_76 rfl
                              · show Ev ab_Z0 2 141 [.ref 65, .int (nI a1k), .int (nI 4)] (ww im lf s d k ls rf rz ra rn rq lt m1 m2 m3 m4 bd (fc.set 2 ((fc.getD 2 0) + (nI 1))) hd sz el s g fm hm so si sh ce ca td wa kp la bf oo bo pw ow tr) (some (.int (-2)), (ww im lf s d k ls rf rz ra rn rq lt m1 m2 m3 m4 bd (fc.set 2 ((fc.getD 2 0) + (nI 1))) hd sz el s g (fm.set 2 ((fm.getD 2 0) + (nI 1))) hm so si sh ce ca td wa kp la bf oo bo pw ow tr))
                                refine Ef.in (md := mX6_says) (L := [some (.ref 65), some (.int (nI a1k)), some (.int (nI 4)), none, none, none]) rfl (Nat.le_of_ble_eq_true rfl) rfl ?_
                                refine E_aload_n at_X6_says_0 rfl ?_
                                refine E_iload_n at_X6_says_1 rfl ?_
                                refine E_callV (v := some (.int (nI 1))) (As := [.ref 65, .int (nI a1k)]) (r0 := []) (cs2 := (ww im lf s d k ls rf rz ra rn rq lt m1 m2 m3 m4 bd (fc.set 2 ((fc.getD 2 0) + (nI 1))) hd sz el s g fm hm so si sh ce ca td wa kp la bf oo bo pw ow tr)) at_X6_says_2 rfl rfl (Nat.le_of_ble_eq_true rfl) rfl (ab_rvOf w65 rfl) (L40_X6_isShelf (by omega) (by omega) (by omega)) (by decide) rfl ?_
                                refine E_if (t := 18) (b := false) at_X6_says_5 rfl (by decide) ?_
                                refine E_iload_n at_X6_says_8 rfl ?_
                                refine E_if (t := 18) (b := false) at_X6_says_9 rfl (by decide) ?_
                                refine E_iload_n at_X6_says_12 rfl ?_
                                refine E_bipush (x := nI 6) at_X6_says_13 (by decide) ?_
                                refine E_ic (t := 24) (b := true) at_X6_says_15 rfl (by decide) ?_
                                refine E_aload_n at_X6_says_24 rfl ?_
                                refine E_getfield (v := .ref 76) at_X6_says_25 w65 rfl (by decide) rfl ?_
                                refine E_iload_n at_X6_says_28 rfl ?_
                                refine E_ialN (l := hm) (v := hm.getD a1k 0) at_X6_says_29 w76 (by omega) (by omega) rfl ?_
                                refine E_iconst (x := nI 1) at_X6_says_30 (by decide) ?_
                                refine E_ic (t := 41) (b := true) at_X6_says_31 rfl ((cn_ne (nI_toInt (by omega)) (nI_toInt (by omega))).trans (decide_eq_true (by omega))) ?_
                                refine E_aload_n at_X6_says_41 rfl ?_
                                refine E_getfield (v := .ref 76) at_X6_says_42 w65 rfl (by decide) rfl ?_
                                refine E_iload_n at_X6_says_45 rfl ?_
                                refine E_ialN (l := hm) (v := hm.getD a1k 0) at_X6_says_46 w76 (by omega) (by omega) rfl ?_
                                refine E_if (t := 57) (b := true) at_X6_says_47 rfl ((cn_ne (nI_toInt (by omega)) (by decide : (0 : Int32).toInt = 0)).trans (decide_eq_true (by omega))) ?_
                                refine E_aload_n at_X6_says_57 rfl ?_
                                refine E_getfield (v := .ref 79) at_X6_says_58 w65 rfl (by decide) rfl ?_
                                refine E_iload_n at_X6_says_61 rfl ?_
                                refine E_ialI (l := sh) (v := nI xq) at_X6_says_62 w79 (by omega) (by omega) u5 ?_
                                refine E_istore_n (L2 := [some (.ref 65), some (.int (nI a1k)), some (.int (nI 4)), some (.int (nI xq)), none, none]) at_X6_says_63 rfl ?_
                                refine E_aload_n at_X6_says_64 rfl ?_
                                refine E_getfield (v := .ref 67) at_X6_says_65 w65 rfl (by decide) rfl ?_
                                refine E_iload_n at_X6_says_68 rfl ?_
                                refine E_ialN (l := qK s) (v := (qK s).getD xq 0) at_X6_says_69 w67 (by omega) (by omega) rfl ?_
                                refine E_istore (L2 := [some (.ref 65), some (.int (nI a1k)), some (.int (nI 4)), some (.int (nI xq)), some (.int (nI ((qK s).getD xq 0))), none]) at_X6_says_70 rfl ?_
                                refine E_iload_n at_X6_says_72 rfl ?_
                                refine E_iconst (x := nI 1) at_X6_says_73 (by decide) ?_
                                refine E_ic (t := 83) (b := true) at_X6_says_74 rfl (by decide) ?_
                                refine E_iload_n at_X6_says_83 rfl ?_
                                refine E_iconst (x := nI 2) at_X6_says_84 (by decide) ?_
                                refine E_ic (t := 94) (b := true) at_X6_says_85 rfl (by decide) ?_
                                refine E_iload_n at_X6_says_94 rfl ?_
                                refine E_iconst (x := nI 4) at_X6_says_95 (by decide) ?_
                                refine E_ic (t := 110) (b := false) at_X6_says_96 rfl (by decide) ?_
                                refine E_iload at_X6_says_99 rfl ?_
                                refine E_bipush (x := nI 6) at_X6_says_101 (by decide) ?_
                                refine E_ic (t := 110) (b := true) at_X6_says_103 rfl ((cn_ne (nI_toInt (by omega)) (nI_toInt (by omega))).trans (decide_eq_true (by omega))) ?_
                                refine E_iconst (x := nI 0) at_X6_says_110 (by decide) ?_
                                refine E_istore (L2 := [some (.ref 65), some (.int (nI a1k)), some (.int (nI 4)), some (.int (nI xq)), some (.int (nI ((qK s).getD xq 0))), some (.int (nI 0))]) at_X6_says_111 rfl ?_
                                refine E_iload_n at_X6_says_113 rfl ?_
                                refine E_if (t := 135) (b := false) at_X6_says_114 rfl (by decide) ?_
                                refine E_iload_n at_X6_says_117 rfl ?_
                                refine E_iload at_X6_says_118 rfl ?_
                                refine E_ic (t := 135) (b := false) at_X6_says_120 rfl ((cn_eq (nI_toInt (by omega)) (nI_toInt (by omega))).trans (decide_eq_false (by omega))) ?_
                                refine E_iload at_X6_says_123 rfl ?_
                                refine E_if (t := 135) (b := false) at_X6_says_125 rfl (by decide) ?_
                                refine E_aload_n at_X6_says_128 rfl ?_
                                refine E_bipush (x := (-2)) at_X6_says_129 (by decide) ?_
                                refine E_callV (v := some (.int (-2))) (As := [.ref 65, .int (-2)]) (r0 := []) (cs2 := (ww im lf s d k ls rf rz ra rn rq lt m1 m2 m3 m4 bd (fc.set 2 ((fc.getD 2 0) + (nI 1))) hd sz el s g (fm.set 2 ((fm.getD 2 0) + (nI 1))) hm so si sh ce ca td wa kp la bf oo bo pw ow tr)) at_X6_says_131 rfl rfl (Nat.le_of_ble_eq_true rfl) rfl (ab_rvOf w65 rfl) (L56_X6_no (by omega)) (by decide) w_lens ?_
                                exact E_iret at_X6_says_134 rfl
                              · exact ⟨I, rfl, hf, iQ, iM, iT, iS, l_el, (lr.1), (lr.2.1), (lr.2.2.1), (by simp only [List.length_set]; exact (lr.2.2.2.1)), (by simp only [List.length_set]; exact (lr.2.2.2.2.1)), (lr.2.2.2.2.2.1), (lr.2.2.2.2.2.2.1), (lr.2.2.2.2.2.2.2.1), (lr.2.2.2.2.2.2.2.2.1), (lr.2.2.2.2.2.2.2.2.2.1), (lr.2.2.2.2.2.2.2.2.2.2.1), (lr.2.2.2.2.2.2.2.2.2.2.2.1), (lr.2.2.2.2.2.2.2.2.2.2.2.2.1), (lr.2.2.2.2.2.2.2.2.2.2.2.2.2.1), (lr.2.2.2.2.2.2.2.2.2.2.2.2.2.2.1), (lr.2.2.2.2.2.2.2.2.2.2.2.2.2.2.2.1), (lr.2.2.2.2.2.2.2.2.2.2.2.2.2.2.2.2.1), (lr.2.2.2.2.2.2.2.2.2.2.2.2.2.2.2.2.2.1), (lr.2.2.2.2.2.2.2.2.2.2.2.2.2.2.2.2.2.2.1), (lr.2.2.2.2.2.2.2.2.2.2.2.2.2.2.2.2.2.2.2.1), (lr.2.2.2.2.2.2.2.2.2.2.2.2.2.2.2.2.2.2.2.2)⟩
                        · by_cases f12 : ((qK s).getD xq 0) = 6
                          · have := I1 xq (by omega)
                            have := qOf_spec ((qK s).getD xq 0) 4
                            refine ⟨(nI ((qA s).getD xq 0)), (im, lf, s, d, k, ls, rf, rz, ra, rn, rq, lt, m1, m2, m3, m4, bd, fc, hd, sz, el, s, g, fm, hm, so, si, sh, ce, ca, td, wa, kp, la, bf, oo, bo, pw, ow, tr), (im, lf, s, d, k, ls, rf, rz, ra, rn, rq, lt, m1, m2, m3, m4, bd, fc, hd, sz, el, s, g, fm, hm, so, si, sh, ce, ca, td, wa, kp, la, bf, oo, bo, pw, ow, tr), ?_, ?_, ?_⟩
                            · show Ev ab_Z0 3 82 [.ref 0, .int (nI a1k), .int (nI 4)] (ww im lf s d k ls rf rz ra rn rq lt m1 m2 m3 m4 bd fc hd sz el s g fm hm so si sh ce ca td wa kp la bf oo bo pw ow tr) (some (.int (nI ((qA s).getD xq 0))), (ww im lf s d k ls rf rz ra rn rq lt m1 m2 m3 m4 bd fc hd sz el s g fm hm so si sh ce ca td wa kp la bf oo bo pw ow tr))
                              refine Ef.in (md := mX5_says) (L := [some (.ref 0), some (.int (nI a1k)), some (.int (nI 4)), none, none]) rfl (Nat.le_of_ble_eq_true rfl) rfl ?_
                              refine E_iload_n at_X5_says_0 rfl ?_
                              refine E_callS (v := some (.int (nI 1))) (As := [.int (nI a1k)]) (r0 := []) (cs2 := (ww im lf s d k ls rf rz ra rn rq lt m1 m2 m3 m4 bd fc hd sz el s g fm hm so si sh ce ca td wa kp la bf oo bo pw ow tr)) at_X5_says_1 rfl rfl (Nat.le_of_ble_eq_true rfl) rfl (L39_X5_isShelf (by omega) (by omega) (by omega)) (by decide) rfl ?_
                              refine E_if (t := 14) (b := false) at_X5_says_4 rfl (by decide) ?_
                              refine E_iload_n at_X5_says_7 rfl ?_
                              refine E_callS (v := some (.int (nI 1))) (As := [.int (nI 4)]) (r0 := []) (cs2 := (ww im lf s d k ls rf rz ra rn rq lt m1 m2 m3 m4 bd fc hd sz el s g fm hm so si sh ce ca td wa kp la bf oo bo pw ow tr)) at_X5_says_8 rfl rfl (Nat.le_of_ble_eq_true rfl) rfl (L60_X4_isKind) (by decide) rfl ?_
                              refine E_if (t := 20) (b := true) at_X5_says_11 rfl (by decide) ?_
                              refine E_aload_n at_X5_says_20 rfl ?_
                              refine E_getfield (v := .ref 31) at_X5_says_21 w0 rfl (by decide) rfl ?_
                              refine E_iload_n at_X5_says_24 rfl ?_
                              refine E_aalN (b := 49 + 2 * a1k) at_X5_says_25 w31 (by omega) (w_shs (by omega)) ?_
                              refine E_astore_n (L2 := [some (.ref 0), some (.int (nI a1k)), some (.int (nI 4)), some (.ref (49 + 2 * a1k)), none]) at_X5_says_26 rfl ?_
                              refine E_aload_n at_X5_says_27 rfl ?_
                              have e1 : Ev ab_Z0 1 32 [.ref (49 + 2 * a1k)] (ww im lf s d k ls rf rz ra rn rq lt m1 m2 m3 m4 bd fc hd sz el s g fm hm so si sh ce ca td wa kp la bf oo bo pw ow tr) (some (.int (nI 0)), (ww im lf s d k ls rf rz ra rn rq lt m1 m2 m3 m4 bd fc hd sz el s g fm hm so si sh ce ca td wa kp la bf oo bo pw ow tr)) := by
                                refine Ef.in (md := mX3_isEmpty) (L := [some (.ref (49 + 2 * a1k))]) rfl (Nat.le_of_ble_eq_true rfl) rfl ?_
                                refine E_aload_n at_X3_isEmpty_0 rfl ?_
                                refine E_getfield (v := .int (nI xq)) at_X3_isEmpty_1 (w_shv (j := a1k) (by omega) u2 u3) rfl (by decide) rfl ?_
                                refine E_iconst (x := (-1)) at_X3_isEmpty_4 (by decide) ?_
                                refine E_ic (t := 12) (b := true) at_X3_isEmpty_5 rfl ((cn_ne (nI_toInt (by omega)) (by decide : (-1 : Int32).toInt = -1)).trans (decide_eq_true (by omega))) ?_
                                refine E_iconst (x := nI 0) at_X3_isEmpty_12 (by decide) ?_
                                exact E_iret at_X3_isEmpty_13 rfl
                              refine E_callV (v := some (.int (nI 0))) (As := [.ref (49 + 2 * a1k)]) (r0 := []) (cs2 := (ww im lf s d k ls rf rz ra rn rq lt m1 m2 m3 m4 bd fc hd sz el s g fm hm so si sh ce ca td wa kp la bf oo bo pw ow tr)) at_X5_says_28 rfl rfl (Nat.le_of_ble_eq_true rfl) rfl (ab_rvOf (w_shv (j := a1k) (by omega) u2 u3) rfl) e1 (by decide) rfl ?_
                              refine E_if (t := 40) (b := true) at_X5_says_31 rfl (by decide) ?_
                              refine E_aload_n at_X5_says_40 rfl ?_
                              refine E_getfield (v := .int (nI xq)) at_X5_says_41 (w_shv (j := a1k) (by omega) u2 u3) rfl (by decide) rfl ?_
                              refine E_istore (L2 := [some (.ref 0), some (.int (nI a1k)), some (.int (nI 4)), some (.ref (49 + 2 * a1k)), some (.int (nI xq))]) at_X5_says_44 rfl ?_
                              refine E_aload_n at_X5_says_46 rfl ?_
                              refine E_getfield (v := .ref 1) at_X5_says_47 w0 rfl (by decide) rfl ?_
                              refine E_iload at_X5_says_50 rfl ?_
                              refine E_callV (v := some (.int (nI 1))) (As := [.ref 1, .int (nI xq)]) (r0 := []) (cs2 := (ww im lf s d k ls rf rz ra rn rq lt m1 m2 m3 m4 bd fc hd sz el s g fm hm so si sh ce ca td wa kp la bf oo bo pw ow tr)) at_X5_says_52 rfl rfl (Nat.le_of_ble_eq_true rfl) rfl (ab_rvOf w1 rfl) (L15_X4_isPiece (by omega) (by omega) (by omega) (by omega)) (by decide) rfl ?_
                              refine E_if (t := 71) (b := false) at_X5_says_55 rfl (by decide) ?_
                              refine E_aload_n at_X5_says_58 rfl ?_
                              refine E_getfield (v := .ref 1) at_X5_says_59 w0 rfl (by decide) rfl ?_
                              refine E_iload at_X5_says_62 rfl ?_
                              refine E_iload_n at_X5_says_64 rfl ?_
                              refine E_callV (v := some (.int (nI (qOf ((qK s).getD xq 0) 4)))) (As := [.ref 1, .int (nI xq), .int (nI 4)]) (r0 := []) (cs2 := (ww im lf s d k ls rf rz ra rn rq lt m1 m2 m3 m4 bd fc hd sz el s g fm hm so si sh ce ca td wa kp la bf oo bo pw ow tr)) at_X5_says_65 rfl rfl (Nat.le_of_ble_eq_true rfl) rfl (ab_rvOf w1 rfl) (sq_isOfKind w_q1 I (w_none 0) (by omega) (by omega)) (by decide) rfl ?_
                              refine E_if (t := 77) (b := true) at_X5_says_68 rfl ((cn_ne (nI_toInt (by omega)) (by decide : (0 : Int32).toInt = 0)).trans (decide_eq_true (by omega))) ?_
                              refine E_iload_n at_X5_says_77 rfl ?_
                              refine E_tsIn (off := 69) (t := 147) at_X5_says_78 (by decide) rfl rfl ?_
                              refine E_aload_n at_X5_says_147 rfl ?_
                              refine E_getfield (v := .ref 1) at_X5_says_148 w0 rfl (by decide) rfl ?_
                              refine E_getfield (v := .ref 3) at_X5_says_151 w1 rfl (by decide) rfl ?_
                              refine E_iload at_X5_says_154 rfl ?_
                              refine E_ialN (l := qA s) (v := (qA s).getD xq 0) at_X5_says_156 w3 (by omega) (by omega) rfl ?_
                              exact E_iret at_X5_says_157 rfl
                            · show Ev ab_Z0 2 141 [.ref 65, .int (nI a1k), .int (nI 4)] (ww im lf s d k ls rf rz ra rn rq lt m1 m2 m3 m4 bd fc hd sz el s g fm hm so si sh ce ca td wa kp la bf oo bo pw ow tr) (some (.int (nI ((qA s).getD xq 0))), (ww im lf s d k ls rf rz ra rn rq lt m1 m2 m3 m4 bd fc hd sz el s g fm hm so si sh ce ca td wa kp la bf oo bo pw ow tr))
                              refine Ef.in (md := mX6_says) (L := [some (.ref 65), some (.int (nI a1k)), some (.int (nI 4)), none, none, none]) rfl (Nat.le_of_ble_eq_true rfl) rfl ?_
                              refine E_aload_n at_X6_says_0 rfl ?_
                              refine E_iload_n at_X6_says_1 rfl ?_
                              refine E_callV (v := some (.int (nI 1))) (As := [.ref 65, .int (nI a1k)]) (r0 := []) (cs2 := (ww im lf s d k ls rf rz ra rn rq lt m1 m2 m3 m4 bd fc hd sz el s g fm hm so si sh ce ca td wa kp la bf oo bo pw ow tr)) at_X6_says_2 rfl rfl (Nat.le_of_ble_eq_true rfl) rfl (ab_rvOf w65 rfl) (L40_X6_isShelf (by omega) (by omega) (by omega)) (by decide) rfl ?_
                              refine E_if (t := 18) (b := false) at_X6_says_5 rfl (by decide) ?_
                              refine E_iload_n at_X6_says_8 rfl ?_
                              refine E_if (t := 18) (b := false) at_X6_says_9 rfl (by decide) ?_
                              refine E_iload_n at_X6_says_12 rfl ?_
                              refine E_bipush (x := nI 6) at_X6_says_13 (by decide) ?_
                              refine E_ic (t := 24) (b := true) at_X6_says_15 rfl (by decide) ?_
                              refine E_aload_n at_X6_says_24 rfl ?_
                              refine E_getfield (v := .ref 76) at_X6_says_25 w65 rfl (by decide) rfl ?_
                              refine E_iload_n at_X6_says_28 rfl ?_
                              refine E_ialN (l := hm) (v := hm.getD a1k 0) at_X6_says_29 w76 (by omega) (by omega) rfl ?_
                              refine E_iconst (x := nI 1) at_X6_says_30 (by decide) ?_
                              refine E_ic (t := 41) (b := true) at_X6_says_31 rfl ((cn_ne (nI_toInt (by omega)) (nI_toInt (by omega))).trans (decide_eq_true (by omega))) ?_
                              refine E_aload_n at_X6_says_41 rfl ?_
                              refine E_getfield (v := .ref 76) at_X6_says_42 w65 rfl (by decide) rfl ?_
                              refine E_iload_n at_X6_says_45 rfl ?_
                              refine E_ialN (l := hm) (v := hm.getD a1k 0) at_X6_says_46 w76 (by omega) (by omega) rfl ?_
                              refine E_if (t := 57) (b := true) at_X6_says_47 rfl ((cn_ne (nI_toInt (by omega)) (by decide : (0 : Int32).toInt = 0)).trans (decide_eq_true (by omega))) ?_
                              refine E_aload_n at_X6_says_57 rfl ?_
                              refine E_getfield (v := .ref 79) at_X6_says_58 w65 rfl (by decide) rfl ?_
                              refine E_iload_n at_X6_says_61 rfl ?_
                              refine E_ialI (l := sh) (v := nI xq) at_X6_says_62 w79 (by omega) (by omega) u5 ?_
                              refine E_istore_n (L2 := [some (.ref 65), some (.int (nI a1k)), some (.int (nI 4)), some (.int (nI xq)), none, none]) at_X6_says_63 rfl ?_
                              refine E_aload_n at_X6_says_64 rfl ?_
                              refine E_getfield (v := .ref 67) at_X6_says_65 w65 rfl (by decide) rfl ?_
                              refine E_iload_n at_X6_says_68 rfl ?_
                              refine E_ialN (l := qK s) (v := (qK s).getD xq 0) at_X6_says_69 w67 (by omega) (by omega) rfl ?_
                              refine E_istore (L2 := [some (.ref 65), some (.int (nI a1k)), some (.int (nI 4)), some (.int (nI xq)), some (.int (nI ((qK s).getD xq 0))), none]) at_X6_says_70 rfl ?_
                              refine E_iload_n at_X6_says_72 rfl ?_
                              refine E_iconst (x := nI 1) at_X6_says_73 (by decide) ?_
                              refine E_ic (t := 83) (b := true) at_X6_says_74 rfl (by decide) ?_
                              refine E_iload_n at_X6_says_83 rfl ?_
                              refine E_iconst (x := nI 2) at_X6_says_84 (by decide) ?_
                              refine E_ic (t := 94) (b := true) at_X6_says_85 rfl (by decide) ?_
                              refine E_iload_n at_X6_says_94 rfl ?_
                              refine E_iconst (x := nI 4) at_X6_says_95 (by decide) ?_
                              refine E_ic (t := 110) (b := false) at_X6_says_96 rfl (by decide) ?_
                              refine E_iload at_X6_says_99 rfl ?_
                              refine E_bipush (x := nI 6) at_X6_says_101 (by decide) ?_
                              refine E_ic (t := 110) (b := false) at_X6_says_103 rfl ((cn_ne (nI_toInt (by omega)) (nI_toInt (by omega))).trans (decide_eq_false (by omega))) ?_
                              refine E_iconst (x := nI 1) at_X6_says_106 (by decide) ?_
                              refine E_goto (t := 111) at_X6_says_107 rfl ?_
                              refine E_istore (L2 := [some (.ref 65), some (.int (nI a1k)), some (.int (nI 4)), some (.int (nI xq)), some (.int (nI ((qK s).getD xq 0))), some (.int (nI 1))]) at_X6_says_111 rfl ?_
                              refine E_iload_n at_X6_says_113 rfl ?_
                              refine E_if (t := 135) (b := false) at_X6_says_114 rfl (by decide) ?_
                              refine E_iload_n at_X6_says_117 rfl ?_
                              refine E_iload at_X6_says_118 rfl ?_
                              refine E_ic (t := 135) (b := false) at_X6_says_120 rfl ((cn_eq (nI_toInt (by omega)) (nI_toInt (by omega))).trans (decide_eq_false (by omega))) ?_
                              refine E_iload at_X6_says_123 rfl ?_
                              refine E_if (t := 135) (b := true) at_X6_says_125 rfl (by decide) ?_
                              refine E_iload_n at_X6_says_135 rfl ?_
                              refine E_tsIn (off := 59) (t := 195) at_X6_says_136 (by decide) rfl rfl ?_
                              refine E_aload_n at_X6_says_195 rfl ?_
                              refine E_getfield (v := .ref 68) at_X6_says_196 w65 rfl (by decide) rfl ?_
                              refine E_iload_n at_X6_says_199 rfl ?_
                              refine E_ialN (l := qA s) (v := (qA s).getD xq 0) at_X6_says_200 w68 (by omega) (by omega) rfl ?_
                              exact E_iret at_X6_says_201 rfl
                            · exact ⟨I, rfl, hf, iQ, iM, iT, iS, l_el, (lr.1), (lr.2.1), (lr.2.2.1), (lr.2.2.2.1), (lr.2.2.2.2.1), (lr.2.2.2.2.2.1), (lr.2.2.2.2.2.2.1), (lr.2.2.2.2.2.2.2.1), (lr.2.2.2.2.2.2.2.2.1), (lr.2.2.2.2.2.2.2.2.2.1), (lr.2.2.2.2.2.2.2.2.2.2.1), (lr.2.2.2.2.2.2.2.2.2.2.2.1), (lr.2.2.2.2.2.2.2.2.2.2.2.2.1), (lr.2.2.2.2.2.2.2.2.2.2.2.2.2.1), (lr.2.2.2.2.2.2.2.2.2.2.2.2.2.2.1), (lr.2.2.2.2.2.2.2.2.2.2.2.2.2.2.2.1), (lr.2.2.2.2.2.2.2.2.2.2.2.2.2.2.2.2.1), (lr.2.2.2.2.2.2.2.2.2.2.2.2.2.2.2.2.2.1), (lr.2.2.2.2.2.2.2.2.2.2.2.2.2.2.2.2.2.2.1), (lr.2.2.2.2.2.2.2.2.2.2.2.2.2.2.2.2.2.2.2.1), (lr.2.2.2.2.2.2.2.2.2.2.2.2.2.2.2.2.2.2.2.2)⟩
                          · by_cases f13 : 4 = ((qK s).getD xq 0)
                            · have := I1 xq (by omega)
                              have := qOf_spec ((qK s).getD xq 0) 4
                              refine ⟨(nI ((qA s).getD xq 0)), (im, lf, s, d, k, ls, rf, rz, ra, rn, rq, lt, m1, m2, m3, m4, bd, fc, hd, sz, el, s, g, fm, hm, so, si, sh, ce, ca, td, wa, kp, la, bf, oo, bo, pw, ow, tr), (im, lf, s, d, k, ls, rf, rz, ra, rn, rq, lt, m1, m2, m3, m4, bd, fc, hd, sz, el, s, g, fm, hm, so, si, sh, ce, ca, td, wa, kp, la, bf, oo, bo, pw, ow, tr), ?_, ?_, ?_⟩
                              · show Ev ab_Z0 3 82 [.ref 0, .int (nI a1k), .int (nI 4)] (ww im lf s d k ls rf rz ra rn rq lt m1 m2 m3 m4 bd fc hd sz el s g fm hm so si sh ce ca td wa kp la bf oo bo pw ow tr) (some (.int (nI ((qA s).getD xq 0))), (ww im lf s d k ls rf rz ra rn rq lt m1 m2 m3 m4 bd fc hd sz el s g fm hm so si sh ce ca td wa kp la bf oo bo pw ow tr))
                                refine Ef.in (md := mX5_says) (L := [some (.ref 0), some (.int (nI a1k)), some (.int (nI 4)), none, none]) rfl (Nat.le_of_ble_eq_true rfl) rfl ?_
                                refine E_iload_n at_X5_says_0 rfl ?_
                                refine E_callS (v := some (.int (nI 1))) (As := [.int (nI a1k)]) (r0 := []) (cs2 := (ww im lf s d k ls rf rz ra rn rq lt m1 m2 m3 m4 bd fc hd sz el s g fm hm so si sh ce ca td wa kp la bf oo bo pw ow tr)) at_X5_says_1 rfl rfl (Nat.le_of_ble_eq_true rfl) rfl (L39_X5_isShelf (by omega) (by omega) (by omega)) (by decide) rfl ?_
                                refine E_if (t := 14) (b := false) at_X5_says_4 rfl (by decide) ?_
                                refine E_iload_n at_X5_says_7 rfl ?_
                                refine E_callS (v := some (.int (nI 1))) (As := [.int (nI 4)]) (r0 := []) (cs2 := (ww im lf s d k ls rf rz ra rn rq lt m1 m2 m3 m4 bd fc hd sz el s g fm hm so si sh ce ca td wa kp la bf oo bo pw ow tr)) at_X5_says_8 rfl rfl (Nat.le_of_ble_eq_true rfl) rfl (L60_X4_isKind) (by decide) rfl ?_
                                refine E_if (t := 20) (b := true) at_X5_says_11 rfl (by decide) ?_
                                refine E_aload_n at_X5_says_20 rfl ?_
                                refine E_getfield (v := .ref 31) at_X5_says_21 w0 rfl (by decide) rfl ?_
                                refine E_iload_n at_X5_says_24 rfl ?_
                                refine E_aalN (b := 49 + 2 * a1k) at_X5_says_25 w31 (by omega) (w_shs (by omega)) ?_
                                refine E_astore_n (L2 := [some (.ref 0), some (.int (nI a1k)), some (.int (nI 4)), some (.ref (49 + 2 * a1k)), none]) at_X5_says_26 rfl ?_
                                refine E_aload_n at_X5_says_27 rfl ?_
                                have e1 : Ev ab_Z0 1 32 [.ref (49 + 2 * a1k)] (ww im lf s d k ls rf rz ra rn rq lt m1 m2 m3 m4 bd fc hd sz el s g fm hm so si sh ce ca td wa kp la bf oo bo pw ow tr) (some (.int (nI 0)), (ww im lf s d k ls rf rz ra rn rq lt m1 m2 m3 m4 bd fc hd sz el s g fm hm so si sh ce ca td wa kp la bf oo bo pw ow tr)) := by
                                  refine Ef.in (md := mX3_isEmpty) (L := [some (.ref (49 + 2 * a1k))]) rfl (Nat.le_of_ble_eq_true rfl) rfl ?_
                                  refine E_aload_n at_X3_isEmpty_0 rfl ?_
                                  refine E_getfield (v := .int (nI xq)) at_X3_isEmpty_1 (w_shv (j := a1k) (by omega) u2 u3) rfl (by decide) rfl ?_
                                  refine E_iconst (x := (-1)) at_X3_isEmpty_4 (by decide) ?_
                                  refine E_ic (t := 12) (b := true) at_X3_isEmpty_5 rfl ((cn_ne (nI_toInt (by omega)) (by decide : (-1 : Int32).toInt = -1)).trans (decide_eq_true (by omega))) ?_
                                  refine E_iconst (x := nI 0) at_X3_isEmpty_12 (by decide) ?_
                                  exact E_iret at_X3_isEmpty_13 rfl
                                refine E_callV (v := some (.int (nI 0))) (As := [.ref (49 + 2 * a1k)]) (r0 := []) (cs2 := (ww im lf s d k ls rf rz ra rn rq lt m1 m2 m3 m4 bd fc hd sz el s g fm hm so si sh ce ca td wa kp la bf oo bo pw ow tr)) at_X5_says_28 rfl rfl (Nat.le_of_ble_eq_true rfl) rfl (ab_rvOf (w_shv (j := a1k) (by omega) u2 u3) rfl) e1 (by decide) rfl ?_
                                refine E_if (t := 40) (b := true) at_X5_says_31 rfl (by decide) ?_
                                refine E_aload_n at_X5_says_40 rfl ?_
                                refine E_getfield (v := .int (nI xq)) at_X5_says_41 (w_shv (j := a1k) (by omega) u2 u3) rfl (by decide) rfl ?_
                                refine E_istore (L2 := [some (.ref 0), some (.int (nI a1k)), some (.int (nI 4)), some (.ref (49 + 2 * a1k)), some (.int (nI xq))]) at_X5_says_44 rfl ?_
                                refine E_aload_n at_X5_says_46 rfl ?_
                                refine E_getfield (v := .ref 1) at_X5_says_47 w0 rfl (by decide) rfl ?_
                                refine E_iload at_X5_says_50 rfl ?_
                                refine E_callV (v := some (.int (nI 1))) (As := [.ref 1, .int (nI xq)]) (r0 := []) (cs2 := (ww im lf s d k ls rf rz ra rn rq lt m1 m2 m3 m4 bd fc hd sz el s g fm hm so si sh ce ca td wa kp la bf oo bo pw ow tr)) at_X5_says_52 rfl rfl (Nat.le_of_ble_eq_true rfl) rfl (ab_rvOf w1 rfl) (L15_X4_isPiece (by omega) (by omega) (by omega) (by omega)) (by decide) rfl ?_
                                refine E_if (t := 71) (b := false) at_X5_says_55 rfl (by decide) ?_
                                refine E_aload_n at_X5_says_58 rfl ?_
                                refine E_getfield (v := .ref 1) at_X5_says_59 w0 rfl (by decide) rfl ?_
                                refine E_iload at_X5_says_62 rfl ?_
                                refine E_iload_n at_X5_says_64 rfl ?_
                                refine E_callV (v := some (.int (nI (qOf ((qK s).getD xq 0) 4)))) (As := [.ref 1, .int (nI xq), .int (nI 4)]) (r0 := []) (cs2 := (ww im lf s d k ls rf rz ra rn rq lt m1 m2 m3 m4 bd fc hd sz el s g fm hm so si sh ce ca td wa kp la bf oo bo pw ow tr)) at_X5_says_65 rfl rfl (Nat.le_of_ble_eq_true rfl) rfl (ab_rvOf w1 rfl) (sq_isOfKind w_q1 I (w_none 0) (by omega) (by omega)) (by decide) rfl ?_
                                refine E_if (t := 77) (b := true) at_X5_says_68 rfl ((cn_ne (nI_toInt (by omega)) (by decide : (0 : Int32).toInt = 0)).trans (decide_eq_true (by omega))) ?_
                                refine E_iload_n at_X5_says_77 rfl ?_
                                refine E_tsIn (off := 69) (t := 147) at_X5_says_78 (by decide) rfl rfl ?_
                                refine E_aload_n at_X5_says_147 rfl ?_
                                refine E_getfield (v := .ref 1) at_X5_says_148 w0 rfl (by decide) rfl ?_
                                refine E_getfield (v := .ref 3) at_X5_says_151 w1 rfl (by decide) rfl ?_
                                refine E_iload at_X5_says_154 rfl ?_
                                refine E_ialN (l := qA s) (v := (qA s).getD xq 0) at_X5_says_156 w3 (by omega) (by omega) rfl ?_
                                exact E_iret at_X5_says_157 rfl
                              · show Ev ab_Z0 2 141 [.ref 65, .int (nI a1k), .int (nI 4)] (ww im lf s d k ls rf rz ra rn rq lt m1 m2 m3 m4 bd fc hd sz el s g fm hm so si sh ce ca td wa kp la bf oo bo pw ow tr) (some (.int (nI ((qA s).getD xq 0))), (ww im lf s d k ls rf rz ra rn rq lt m1 m2 m3 m4 bd fc hd sz el s g fm hm so si sh ce ca td wa kp la bf oo bo pw ow tr))
                                refine Ef.in (md := mX6_says) (L := [some (.ref 65), some (.int (nI a1k)), some (.int (nI 4)), none, none, none]) rfl (Nat.le_of_ble_eq_true rfl) rfl ?_
                                refine E_aload_n at_X6_says_0 rfl ?_
                                refine E_iload_n at_X6_says_1 rfl ?_
                                refine E_callV (v := some (.int (nI 1))) (As := [.ref 65, .int (nI a1k)]) (r0 := []) (cs2 := (ww im lf s d k ls rf rz ra rn rq lt m1 m2 m3 m4 bd fc hd sz el s g fm hm so si sh ce ca td wa kp la bf oo bo pw ow tr)) at_X6_says_2 rfl rfl (Nat.le_of_ble_eq_true rfl) rfl (ab_rvOf w65 rfl) (L40_X6_isShelf (by omega) (by omega) (by omega)) (by decide) rfl ?_
                                refine E_if (t := 18) (b := false) at_X6_says_5 rfl (by decide) ?_
                                refine E_iload_n at_X6_says_8 rfl ?_
                                refine E_if (t := 18) (b := false) at_X6_says_9 rfl (by decide) ?_
                                refine E_iload_n at_X6_says_12 rfl ?_
                                refine E_bipush (x := nI 6) at_X6_says_13 (by decide) ?_
                                refine E_ic (t := 24) (b := true) at_X6_says_15 rfl (by decide) ?_
                                refine E_aload_n at_X6_says_24 rfl ?_
                                refine E_getfield (v := .ref 76) at_X6_says_25 w65 rfl (by decide) rfl ?_
                                refine E_iload_n at_X6_says_28 rfl ?_
                                refine E_ialN (l := hm) (v := hm.getD a1k 0) at_X6_says_29 w76 (by omega) (by omega) rfl ?_
                                refine E_iconst (x := nI 1) at_X6_says_30 (by decide) ?_
                                refine E_ic (t := 41) (b := true) at_X6_says_31 rfl ((cn_ne (nI_toInt (by omega)) (nI_toInt (by omega))).trans (decide_eq_true (by omega))) ?_
                                refine E_aload_n at_X6_says_41 rfl ?_
                                refine E_getfield (v := .ref 76) at_X6_says_42 w65 rfl (by decide) rfl ?_
                                refine E_iload_n at_X6_says_45 rfl ?_
                                refine E_ialN (l := hm) (v := hm.getD a1k 0) at_X6_says_46 w76 (by omega) (by omega) rfl ?_
                                refine E_if (t := 57) (b := true) at_X6_says_47 rfl ((cn_ne (nI_toInt (by omega)) (by decide : (0 : Int32).toInt = 0)).trans (decide_eq_true (by omega))) ?_
                                refine E_aload_n at_X6_says_57 rfl ?_
                                refine E_getfield (v := .ref 79) at_X6_says_58 w65 rfl (by decide) rfl ?_
                                refine E_iload_n at_X6_says_61 rfl ?_
                                refine E_ialI (l := sh) (v := nI xq) at_X6_says_62 w79 (by omega) (by omega) u5 ?_
                                refine E_istore_n (L2 := [some (.ref 65), some (.int (nI a1k)), some (.int (nI 4)), some (.int (nI xq)), none, none]) at_X6_says_63 rfl ?_
                                refine E_aload_n at_X6_says_64 rfl ?_
                                refine E_getfield (v := .ref 67) at_X6_says_65 w65 rfl (by decide) rfl ?_
                                refine E_iload_n at_X6_says_68 rfl ?_
                                refine E_ialN (l := qK s) (v := (qK s).getD xq 0) at_X6_says_69 w67 (by omega) (by omega) rfl ?_
                                refine E_istore (L2 := [some (.ref 65), some (.int (nI a1k)), some (.int (nI 4)), some (.int (nI xq)), some (.int (nI ((qK s).getD xq 0))), none]) at_X6_says_70 rfl ?_
                                refine E_iload_n at_X6_says_72 rfl ?_
                                refine E_iconst (x := nI 1) at_X6_says_73 (by decide) ?_
                                refine E_ic (t := 83) (b := true) at_X6_says_74 rfl (by decide) ?_
                                refine E_iload_n at_X6_says_83 rfl ?_
                                refine E_iconst (x := nI 2) at_X6_says_84 (by decide) ?_
                                refine E_ic (t := 94) (b := true) at_X6_says_85 rfl (by decide) ?_
                                refine E_iload_n at_X6_says_94 rfl ?_
                                refine E_iconst (x := nI 4) at_X6_says_95 (by decide) ?_
                                refine E_ic (t := 110) (b := false) at_X6_says_96 rfl (by decide) ?_
                                refine E_iload at_X6_says_99 rfl ?_
                                refine E_bipush (x := nI 6) at_X6_says_101 (by decide) ?_
                                refine E_ic (t := 110) (b := true) at_X6_says_103 rfl ((cn_ne (nI_toInt (by omega)) (nI_toInt (by omega))).trans (decide_eq_true (by omega))) ?_
                                refine E_iconst (x := nI 0) at_X6_says_110 (by decide) ?_
                                refine E_istore (L2 := [some (.ref 65), some (.int (nI a1k)), some (.int (nI 4)), some (.int (nI xq)), some (.int (nI ((qK s).getD xq 0))), some (.int (nI 0))]) at_X6_says_111 rfl ?_
                                refine E_iload_n at_X6_says_113 rfl ?_
                                refine E_if (t := 135) (b := false) at_X6_says_114 rfl (by decide) ?_
                                refine E_iload_n at_X6_says_117 rfl ?_
                                refine E_iload at_X6_says_118 rfl ?_
                                refine E_ic (t := 135) (b := true) at_X6_says_120 rfl ((cn_eq (nI_toInt (by omega)) (nI_toInt (by omega))).trans (decide_eq_true (by omega))) ?_
                                refine E_iload_n at_X6_says_135 rfl ?_
                                refine E_tsIn (off := 59) (t := 195) at_X6_says_136 (by decide) rfl rfl ?_
                                refine E_aload_n at_X6_says_195 rfl ?_
                                refine E_getfield (v := .ref 68) at_X6_says_196 w65 rfl (by decide) rfl ?_
                                refine E_iload_n at_X6_says_199 rfl ?_
                                refine E_ialN (l := qA s) (v := (qA s).getD xq 0) at_X6_says_200 w68 (by omega) (by omega) rfl ?_
                                exact E_iret at_X6_says_201 rfl
                              · exact ⟨I, rfl, hf, iQ, iM, iT, iS, l_el, (lr.1), (lr.2.1), (lr.2.2.1), (lr.2.2.2.1), (lr.2.2.2.2.1), (lr.2.2.2.2.2.1), (lr.2.2.2.2.2.2.1), (lr.2.2.2.2.2.2.2.1), (lr.2.2.2.2.2.2.2.2.1), (lr.2.2.2.2.2.2.2.2.2.1), (lr.2.2.2.2.2.2.2.2.2.2.1), (lr.2.2.2.2.2.2.2.2.2.2.2.1), (lr.2.2.2.2.2.2.2.2.2.2.2.2.1), (lr.2.2.2.2.2.2.2.2.2.2.2.2.2.1), (lr.2.2.2.2.2.2.2.2.2.2.2.2.2.2.1), (lr.2.2.2.2.2.2.2.2.2.2.2.2.2.2.2.1), (lr.2.2.2.2.2.2.2.2.2.2.2.2.2.2.2.2.1), (lr.2.2.2.2.2.2.2.2.2.2.2.2.2.2.2.2.2.1), (lr.2.2.2.2.2.2.2.2.2.2.2.2.2.2.2.2.2.2.1), (lr.2.2.2.2.2.2.2.2.2.2.2.2.2.2.2.2.2.2.2.1), (lr.2.2.2.2.2.2.2.2.2.2.2.2.2.2.2.2.2.2.2.2)⟩
                            · have := I1 xq (by omega)
                              have := qOf_spec ((qK s).getD xq 0) 4
                              exfalso; omega
                      · by_cases f11 : a2k = 5
                        · subst f11
                          by_cases f12 : (qOf ((qK s).getD xq 0) 5) = 0
                          · by_cases f13 : 5 = ((qK s).getD xq 0)
                            · have := I1 xq (by omega)
                              have := qOf_spec ((qK s).getD xq 0) 5
                              have := qWorth_in I (x := xq) (by omega)
                              exfalso; omega
                            · have := I1 xq (by omega)
                              have := qOf_spec ((qK s).getD xq 0) 5
                              refine ⟨(-2), (im, lf, s, d, k, ls, rf, rz, ra, rn, rq, lt, m1, m2, m3, m4, bd, (fc.set 2 ((fc.getD 2 0) + (nI 1))), hd, sz, el, s, g, fm, hm, so, si, sh, ce, ca, td, wa, kp, la, bf, oo, bo, pw, ow, tr), (im, lf, s, d, k, ls, rf, rz, ra, rn, rq, lt, m1, m2, m3, m4, bd, (fc.set 2 ((fc.getD 2 0) + (nI 1))), hd, sz, el, s, g, (fm.set 2 ((fm.getD 2 0) + (nI 1))), hm, so, si, sh, ce, ca, td, wa, kp, la, bf, oo, bo, pw, ow, tr), ?_, ?_, ?_⟩
                              · show Ev ab_Z0 3 82 [.ref 0, .int (nI a1k), .int (nI 5)] (ww im lf s d k ls rf rz ra rn rq lt m1 m2 m3 m4 bd fc hd sz el s g fm hm so si sh ce ca td wa kp la bf oo bo pw ow tr) (some (.int (-2)), (ww im lf s d k ls rf rz ra rn rq lt m1 m2 m3 m4 bd (fc.set 2 ((fc.getD 2 0) + (nI 1))) hd sz el s g fm hm so si sh ce ca td wa kp la bf oo bo pw ow tr))
                                refine Ef.in (md := mX5_says) (L := [some (.ref 0), some (.int (nI a1k)), some (.int (nI 5)), none, none]) rfl (Nat.le_of_ble_eq_true rfl) rfl ?_
                                refine E_iload_n at_X5_says_0 rfl ?_
                                refine E_callS (v := some (.int (nI 1))) (As := [.int (nI a1k)]) (r0 := []) (cs2 := (ww im lf s d k ls rf rz ra rn rq lt m1 m2 m3 m4 bd fc hd sz el s g fm hm so si sh ce ca td wa kp la bf oo bo pw ow tr)) at_X5_says_1 rfl rfl (Nat.le_of_ble_eq_true rfl) rfl (L39_X5_isShelf (by omega) (by omega) (by omega)) (by decide) rfl ?_
                                refine E_if (t := 14) (b := false) at_X5_says_4 rfl (by decide) ?_
                                refine E_iload_n at_X5_says_7 rfl ?_
                                refine E_callS (v := some (.int (nI 1))) (As := [.int (nI 5)]) (r0 := []) (cs2 := (ww im lf s d k ls rf rz ra rn rq lt m1 m2 m3 m4 bd fc hd sz el s g fm hm so si sh ce ca td wa kp la bf oo bo pw ow tr)) at_X5_says_8 rfl rfl (Nat.le_of_ble_eq_true rfl) rfl (L63_X4_isKind) (by decide) rfl ?_
                                refine E_if (t := 20) (b := true) at_X5_says_11 rfl (by decide) ?_
                                refine E_aload_n at_X5_says_20 rfl ?_
                                refine E_getfield (v := .ref 31) at_X5_says_21 w0 rfl (by decide) rfl ?_
                                refine E_iload_n at_X5_says_24 rfl ?_
                                refine E_aalN (b := 49 + 2 * a1k) at_X5_says_25 w31 (by omega) (w_shs (by omega)) ?_
                                refine E_astore_n (L2 := [some (.ref 0), some (.int (nI a1k)), some (.int (nI 5)), some (.ref (49 + 2 * a1k)), none]) at_X5_says_26 rfl ?_
                                refine E_aload_n at_X5_says_27 rfl ?_
                                have e1 : Ev ab_Z0 1 32 [.ref (49 + 2 * a1k)] (ww im lf s d k ls rf rz ra rn rq lt m1 m2 m3 m4 bd fc hd sz el s g fm hm so si sh ce ca td wa kp la bf oo bo pw ow tr) (some (.int (nI 0)), (ww im lf s d k ls rf rz ra rn rq lt m1 m2 m3 m4 bd fc hd sz el s g fm hm so si sh ce ca td wa kp la bf oo bo pw ow tr)) := by
                                  refine Ef.in (md := mX3_isEmpty) (L := [some (.ref (49 + 2 * a1k))]) rfl (Nat.le_of_ble_eq_true rfl) rfl ?_
                                  refine E_aload_n at_X3_isEmpty_0 rfl ?_
                                  refine E_getfield (v := .int (nI xq)) at_X3_isEmpty_1 (w_shv (j := a1k) (by omega) u2 u3) rfl (by decide) rfl ?_
                                  refine E_iconst (x := (-1)) at_X3_isEmpty_4 (by decide) ?_
                                  refine E_ic (t := 12) (b := true) at_X3_isEmpty_5 rfl ((cn_ne (nI_toInt (by omega)) (by decide : (-1 : Int32).toInt = -1)).trans (decide_eq_true (by omega))) ?_
                                  refine E_iconst (x := nI 0) at_X3_isEmpty_12 (by decide) ?_
                                  exact E_iret at_X3_isEmpty_13 rfl
                                refine E_callV (v := some (.int (nI 0))) (As := [.ref (49 + 2 * a1k)]) (r0 := []) (cs2 := (ww im lf s d k ls rf rz ra rn rq lt m1 m2 m3 m4 bd fc hd sz el s g fm hm so si sh ce ca td wa kp la bf oo bo pw ow tr)) at_X5_says_28 rfl rfl (Nat.le_of_ble_eq_true rfl) rfl (ab_rvOf (w_shv (j := a1k) (by omega) u2 u3) rfl) e1 (by decide) rfl ?_
                                refine E_if (t := 40) (b := true) at_X5_says_31 rfl (by decide) ?_
                                refine E_aload_n at_X5_says_40 rfl ?_
                                refine E_getfield (v := .int (nI xq)) at_X5_says_41 (w_shv (j := a1k) (by omega) u2 u3) rfl (by decide) rfl ?_
                                refine E_istore (L2 := [some (.ref 0), some (.int (nI a1k)), some (.int (nI 5)), some (.ref (49 + 2 * a1k)), some (.int (nI xq))]) at_X5_says_44 rfl ?_
                                refine E_aload_n at_X5_says_46 rfl ?_
                                refine E_getfield (v := .ref 1) at_X5_says_47 w0 rfl (by decide) rfl ?_
                                refine E_iload at_X5_says_50 rfl ?_
                                refine E_callV (v := some (.int (nI 1))) (As := [.ref 1, .int (nI xq)]) (r0 := []) (cs2 := (ww im lf s d k ls rf rz ra rn rq lt m1 m2 m3 m4 bd fc hd sz el s g fm hm so si sh ce ca td wa kp la bf oo bo pw ow tr)) at_X5_says_52 rfl rfl (Nat.le_of_ble_eq_true rfl) rfl (ab_rvOf w1 rfl) (L15_X4_isPiece (by omega) (by omega) (by omega) (by omega)) (by decide) rfl ?_
                                refine E_if (t := 71) (b := false) at_X5_says_55 rfl (by decide) ?_
                                refine E_aload_n at_X5_says_58 rfl ?_
                                refine E_getfield (v := .ref 1) at_X5_says_59 w0 rfl (by decide) rfl ?_
                                refine E_iload at_X5_says_62 rfl ?_
                                refine E_iload_n at_X5_says_64 rfl ?_
                                refine E_callV (v := some (.int (nI (qOf ((qK s).getD xq 0) 5)))) (As := [.ref 1, .int (nI xq), .int (nI 5)]) (r0 := []) (cs2 := (ww im lf s d k ls rf rz ra rn rq lt m1 m2 m3 m4 bd fc hd sz el s g fm hm so si sh ce ca td wa kp la bf oo bo pw ow tr)) at_X5_says_65 rfl rfl (Nat.le_of_ble_eq_true rfl) rfl (ab_rvOf w1 rfl) (sq_isOfKind w_q1 I (w_none 0) (by omega) (by omega)) (by decide) rfl ?_
                                refine E_if (t := 77) (b := false) at_X5_says_68 rfl ((cn_ne (nI_toInt (by omega)) (by decide : (0 : Int32).toInt = 0)).trans (decide_eq_false (by omega))) ?_
                                refine E_aload_n at_X5_says_71 rfl ?_
                                refine E_iconst (x := nI 2) at_X5_says_72 (by decide) ?_
                                refine E_callV (v := some (.int (-2))) (As := [.ref 0, .int (nI 2)]) (r0 := []) (cs2 := (ww im lf s d k ls rf rz ra rn rq lt m1 m2 m3 m4 bd (fc.set 2 ((fc.getD 2 0) + (nI 1))) hd sz el s g fm hm so si sh ce ca td wa kp la bf oo bo pw ow tr)) at_X5_says_73 rfl rfl (Nat.le_of_ble_eq_true rfl) rfl (ab_rvOf w0 rfl) (L55_X5_refuse (by omega)) (by decide) w_lens ?_
                                exact E_iret at_X5_says_76 rfl
                              · show Ev ab_Z0 2 141 [.ref 65, .int (nI a1k), .int (nI 5)] (ww im lf s d k ls rf rz ra rn rq lt m1 m2 m3 m4 bd (fc.set 2 ((fc.getD 2 0) + (nI 1))) hd sz el s g fm hm so si sh ce ca td wa kp la bf oo bo pw ow tr) (some (.int (-2)), (ww im lf s d k ls rf rz ra rn rq lt m1 m2 m3 m4 bd (fc.set 2 ((fc.getD 2 0) + (nI 1))) hd sz el s g (fm.set 2 ((fm.getD 2 0) + (nI 1))) hm so si sh ce ca td wa kp la bf oo bo pw ow tr))
                                refine Ef.in (md := mX6_says) (L := [some (.ref 65), some (.int (nI a1k)), some (.int (nI 5)), none, none, none]) rfl (Nat.le_of_ble_eq_true rfl) rfl ?_
                                refine E_aload_n at_X6_says_0 rfl ?_
                                refine E_iload_n at_X6_says_1 rfl ?_
                                refine E_callV (v := some (.int (nI 1))) (As := [.ref 65, .int (nI a1k)]) (r0 := []) (cs2 := (ww im lf s d k ls rf rz ra rn rq lt m1 m2 m3 m4 bd (fc.set 2 ((fc.getD 2 0) + (nI 1))) hd sz el s g fm hm so si sh ce ca td wa kp la bf oo bo pw ow tr)) at_X6_says_2 rfl rfl (Nat.le_of_ble_eq_true rfl) rfl (ab_rvOf w65 rfl) (L40_X6_isShelf (by omega) (by omega) (by omega)) (by decide) rfl ?_
                                refine E_if (t := 18) (b := false) at_X6_says_5 rfl (by decide) ?_
                                refine E_iload_n at_X6_says_8 rfl ?_
                                refine E_if (t := 18) (b := false) at_X6_says_9 rfl (by decide) ?_
                                refine E_iload_n at_X6_says_12 rfl ?_
                                refine E_bipush (x := nI 6) at_X6_says_13 (by decide) ?_
                                refine E_ic (t := 24) (b := true) at_X6_says_15 rfl (by decide) ?_
                                refine E_aload_n at_X6_says_24 rfl ?_
                                refine E_getfield (v := .ref 76) at_X6_says_25 w65 rfl (by decide) rfl ?_
                                refine E_iload_n at_X6_says_28 rfl ?_
                                refine E_ialN (l := hm) (v := hm.getD a1k 0) at_X6_says_29 w76 (by omega) (by omega) rfl ?_
                                refine E_iconst (x := nI 1) at_X6_says_30 (by decide) ?_
                                refine E_ic (t := 41) (b := true) at_X6_says_31 rfl ((cn_ne (nI_toInt (by omega)) (nI_toInt (by omega))).trans (decide_eq_true (by omega))) ?_
                                refine E_aload_n at_X6_says_41 rfl ?_
                                refine E_getfield (v := .ref 76) at_X6_says_42 w65 rfl (by decide) rfl ?_
                                refine E_iload_n at_X6_says_45 rfl ?_
                                refine E_ialN (l := hm) (v := hm.getD a1k 0) at_X6_says_46 w76 (by omega) (by omega) rfl ?_
                                refine E_if (t := 57) (b := true) at_X6_says_47 rfl ((cn_ne (nI_toInt (by omega)) (by decide : (0 : Int32).toInt = 0)).trans (decide_eq_true (by omega))) ?_
                                refine E_aload_n at_X6_says_57 rfl ?_
                                refine E_getfield (v := .ref 79) at_X6_says_58 w65 rfl (by decide) rfl ?_
                                refine E_iload_n at_X6_says_61 rfl ?_
                                refine E_ialI (l := sh) (v := nI xq) at_X6_says_62 w79 (by omega) (by omega) u5 ?_
                                refine E_istore_n (L2 := [some (.ref 65), some (.int (nI a1k)), some (.int (nI 5)), some (.int (nI xq)), none, none]) at_X6_says_63 rfl ?_
                                refine E_aload_n at_X6_says_64 rfl ?_
                                refine E_getfield (v := .ref 67) at_X6_says_65 w65 rfl (by decide) rfl ?_
                                refine E_iload_n at_X6_says_68 rfl ?_
                                refine E_ialN (l := qK s) (v := (qK s).getD xq 0) at_X6_says_69 w67 (by omega) (by omega) rfl ?_
                                refine E_istore (L2 := [some (.ref 65), some (.int (nI a1k)), some (.int (nI 5)), some (.int (nI xq)), some (.int (nI ((qK s).getD xq 0))), none]) at_X6_says_70 rfl ?_
                                refine E_iload_n at_X6_says_72 rfl ?_
                                refine E_iconst (x := nI 1) at_X6_says_73 (by decide) ?_
                                refine E_ic (t := 83) (b := true) at_X6_says_74 rfl (by decide) ?_
                                refine E_iload_n at_X6_says_83 rfl ?_
                                refine E_iconst (x := nI 2) at_X6_says_84 (by decide) ?_
                                refine E_ic (t := 94) (b := true) at_X6_says_85 rfl (by decide) ?_
                                refine E_iload_n at_X6_says_94 rfl ?_
                                refine E_iconst (x := nI 4) at_X6_says_95 (by decide) ?_
                                refine E_ic (t := 110) (b := true) at_X6_says_96 rfl (by decide) ?_
                                refine E_iconst (x := nI 0) at_X6_says_110 (by decide) ?_
                                refine E_istore (L2 := [some (.ref 65), some (.int (nI a1k)), some (.int (nI 5)), some (.int (nI xq)), some (.int (nI ((qK s).getD xq 0))), some (.int (nI 0))]) at_X6_says_111 rfl ?_
                                refine E_iload_n at_X6_says_113 rfl ?_
                                refine E_if (t := 135) (b := false) at_X6_says_114 rfl (by decide) ?_
                                refine E_iload_n at_X6_says_117 rfl ?_
                                refine E_iload at_X6_says_118 rfl ?_
                                refine E_ic (t := 135) (b := false) at_X6_says_120 rfl ((cn_eq (nI_toInt (by omega)) (nI_toInt (by omega))).trans (decide_eq_false (by omega))) ?_
                                refine E_iload at_X6_says_123 rfl ?_
                                refine E_if (t := 135) (b := false) at_X6_says_125 rfl (by decide) ?_
                                refine E_aload_n at_X6_says_128 rfl ?_
                                refine E_bipush (x := (-2)) at_X6_says_129 (by decide) ?_
                                refine E_callV (v := some (.int (-2))) (As := [.ref 65, .int (-2)]) (r0 := []) (cs2 := (ww im lf s d k ls rf rz ra rn rq lt m1 m2 m3 m4 bd (fc.set 2 ((fc.getD 2 0) + (nI 1))) hd sz el s g (fm.set 2 ((fm.getD 2 0) + (nI 1))) hm so si sh ce ca td wa kp la bf oo bo pw ow tr)) at_X6_says_131 rfl rfl (Nat.le_of_ble_eq_true rfl) rfl (ab_rvOf w65 rfl) (L56_X6_no (by omega)) (by decide) w_lens ?_
                                exact E_iret at_X6_says_134 rfl
                              · exact ⟨I, rfl, hf, iQ, iM, iT, iS, l_el, (lr.1), (lr.2.1), (lr.2.2.1), (by simp only [List.length_set]; exact (lr.2.2.2.1)), (by simp only [List.length_set]; exact (lr.2.2.2.2.1)), (lr.2.2.2.2.2.1), (lr.2.2.2.2.2.2.1), (lr.2.2.2.2.2.2.2.1), (lr.2.2.2.2.2.2.2.2.1), (lr.2.2.2.2.2.2.2.2.2.1), (lr.2.2.2.2.2.2.2.2.2.2.1), (lr.2.2.2.2.2.2.2.2.2.2.2.1), (lr.2.2.2.2.2.2.2.2.2.2.2.2.1), (lr.2.2.2.2.2.2.2.2.2.2.2.2.2.1), (lr.2.2.2.2.2.2.2.2.2.2.2.2.2.2.1), (lr.2.2.2.2.2.2.2.2.2.2.2.2.2.2.2.1), (lr.2.2.2.2.2.2.2.2.2.2.2.2.2.2.2.2.1), (lr.2.2.2.2.2.2.2.2.2.2.2.2.2.2.2.2.2.1), (lr.2.2.2.2.2.2.2.2.2.2.2.2.2.2.2.2.2.2.1), (lr.2.2.2.2.2.2.2.2.2.2.2.2.2.2.2.2.2.2.2.1), (lr.2.2.2.2.2.2.2.2.2.2.2.2.2.2.2.2.2.2.2.2)⟩
                          · by_cases f13 : 5 = ((qK s).getD xq 0)
                            · have := I1 xq (by omega)
                              have := qOf_spec ((qK s).getD xq 0) 5
                              have := qWorth_in I (x := xq) (by omega)
                              refine ⟨(nI (qWorth s xq)), (im, lf, s, d, k, ls, rf, rz, ra, rn, rq, lt, m1, m2, m3, m4, bd, fc, hd, sz, el, s, g, fm, hm, so, si, sh, ce, ca, td, wa, kp, la, bf, oo, bo, pw, ow, tr), (im, lf, s, d, k, ls, rf, rz, ra, rn, rq, lt, m1, m2, m3, m4, bd, fc, hd, sz, el, s, g, fm, hm, so, si, sh, ce, ca, td, wa, kp, la, bf, oo, bo, pw, ow, tr), ?_, ?_, ?_⟩
                              · show Ev ab_Z0 3 82 [.ref 0, .int (nI a1k), .int (nI 5)] (ww im lf s d k ls rf rz ra rn rq lt m1 m2 m3 m4 bd fc hd sz el s g fm hm so si sh ce ca td wa kp la bf oo bo pw ow tr) (some (.int (nI (qWorth s xq))), (ww im lf s d k ls rf rz ra rn rq lt m1 m2 m3 m4 bd fc hd sz el s g fm hm so si sh ce ca td wa kp la bf oo bo pw ow tr))
                                refine Ef.in (md := mX5_says) (L := [some (.ref 0), some (.int (nI a1k)), some (.int (nI 5)), none, none]) rfl (Nat.le_of_ble_eq_true rfl) rfl ?_
                                refine E_iload_n at_X5_says_0 rfl ?_
                                refine E_callS (v := some (.int (nI 1))) (As := [.int (nI a1k)]) (r0 := []) (cs2 := (ww im lf s d k ls rf rz ra rn rq lt m1 m2 m3 m4 bd fc hd sz el s g fm hm so si sh ce ca td wa kp la bf oo bo pw ow tr)) at_X5_says_1 rfl rfl (Nat.le_of_ble_eq_true rfl) rfl (L39_X5_isShelf (by omega) (by omega) (by omega)) (by decide) rfl ?_
                                refine E_if (t := 14) (b := false) at_X5_says_4 rfl (by decide) ?_
                                refine E_iload_n at_X5_says_7 rfl ?_
                                refine E_callS (v := some (.int (nI 1))) (As := [.int (nI 5)]) (r0 := []) (cs2 := (ww im lf s d k ls rf rz ra rn rq lt m1 m2 m3 m4 bd fc hd sz el s g fm hm so si sh ce ca td wa kp la bf oo bo pw ow tr)) at_X5_says_8 rfl rfl (Nat.le_of_ble_eq_true rfl) rfl (L63_X4_isKind) (by decide) rfl ?_
                                refine E_if (t := 20) (b := true) at_X5_says_11 rfl (by decide) ?_
                                refine E_aload_n at_X5_says_20 rfl ?_
                                refine E_getfield (v := .ref 31) at_X5_says_21 w0 rfl (by decide) rfl ?_
                                refine E_iload_n at_X5_says_24 rfl ?_
                                refine E_aalN (b := 49 + 2 * a1k) at_X5_says_25 w31 (by omega) (w_shs (by omega)) ?_
                                refine E_astore_n (L2 := [some (.ref 0), some (.int (nI a1k)), some (.int (nI 5)), some (.ref (49 + 2 * a1k)), none]) at_X5_says_26 rfl ?_
                                refine E_aload_n at_X5_says_27 rfl ?_
                                have e1 : Ev ab_Z0 1 32 [.ref (49 + 2 * a1k)] (ww im lf s d k ls rf rz ra rn rq lt m1 m2 m3 m4 bd fc hd sz el s g fm hm so si sh ce ca td wa kp la bf oo bo pw ow tr) (some (.int (nI 0)), (ww im lf s d k ls rf rz ra rn rq lt m1 m2 m3 m4 bd fc hd sz el s g fm hm so si sh ce ca td wa kp la bf oo bo pw ow tr)) := by
                                  refine Ef.in (md := mX3_isEmpty) (L := [some (.ref (49 + 2 * a1k))]) rfl (Nat.le_of_ble_eq_true rfl) rfl ?_
                                  refine E_aload_n at_X3_isEmpty_0 rfl ?_
                                  refine E_getfield (v := .int (nI xq)) at_X3_isEmpty_1 (w_shv (j := a1k) (by omega) u2 u3) rfl (by decide) rfl ?_
                                  refine E_iconst (x := (-1)) at_X3_isEmpty_4 (by decide) ?_
                                  refine E_ic (t := 12) (b := true) at_X3_isEmpty_5 rfl ((cn_ne (nI_toInt (by omega)) (by decide : (-1 : Int32).toInt = -1)).trans (decide_eq_true (by omega))) ?_
                                  refine E_iconst (x := nI 0) at_X3_isEmpty_12 (by decide) ?_
                                  exact E_iret at_X3_isEmpty_13 rfl
                                refine E_callV (v := some (.int (nI 0))) (As := [.ref (49 + 2 * a1k)]) (r0 := []) (cs2 := (ww im lf s d k ls rf rz ra rn rq lt m1 m2 m3 m4 bd fc hd sz el s g fm hm so si sh ce ca td wa kp la bf oo bo pw ow tr)) at_X5_says_28 rfl rfl (Nat.le_of_ble_eq_true rfl) rfl (ab_rvOf (w_shv (j := a1k) (by omega) u2 u3) rfl) e1 (by decide) rfl ?_
                                refine E_if (t := 40) (b := true) at_X5_says_31 rfl (by decide) ?_
                                refine E_aload_n at_X5_says_40 rfl ?_
                                refine E_getfield (v := .int (nI xq)) at_X5_says_41 (w_shv (j := a1k) (by omega) u2 u3) rfl (by decide) rfl ?_
                                refine E_istore (L2 := [some (.ref 0), some (.int (nI a1k)), some (.int (nI 5)), some (.ref (49 + 2 * a1k)), some (.int (nI xq))]) at_X5_says_44 rfl ?_
                                refine E_aload_n at_X5_says_46 rfl ?_
                                refine E_getfield (v := .ref 1) at_X5_says_47 w0 rfl (by decide) rfl ?_
                                refine E_iload at_X5_says_50 rfl ?_
                                refine E_callV (v := some (.int (nI 1))) (As := [.ref 1, .int (nI xq)]) (r0 := []) (cs2 := (ww im lf s d k ls rf rz ra rn rq lt m1 m2 m3 m4 bd fc hd sz el s g fm hm so si sh ce ca td wa kp la bf oo bo pw ow tr)) at_X5_says_52 rfl rfl (Nat.le_of_ble_eq_true rfl) rfl (ab_rvOf w1 rfl) (L15_X4_isPiece (by omega) (by omega) (by omega) (by omega)) (by decide) rfl ?_
                                refine E_if (t := 71) (b := false) at_X5_says_55 rfl (by decide) ?_
                                refine E_aload_n at_X5_says_58 rfl ?_
                                refine E_getfield (v := .ref 1) at_X5_says_59 w0 rfl (by decide) rfl ?_
                                refine E_iload at_X5_says_62 rfl ?_
                                refine E_iload_n at_X5_says_64 rfl ?_
                                refine E_callV (v := some (.int (nI (qOf ((qK s).getD xq 0) 5)))) (As := [.ref 1, .int (nI xq), .int (nI 5)]) (r0 := []) (cs2 := (ww im lf s d k ls rf rz ra rn rq lt m1 m2 m3 m4 bd fc hd sz el s g fm hm so si sh ce ca td wa kp la bf oo bo pw ow tr)) at_X5_says_65 rfl rfl (Nat.le_of_ble_eq_true rfl) rfl (ab_rvOf w1 rfl) (sq_isOfKind w_q1 I (w_none 0) (by omega) (by omega)) (by decide) rfl ?_
                                refine E_if (t := 77) (b := true) at_X5_says_68 rfl ((cn_ne (nI_toInt (by omega)) (by decide : (0 : Int32).toInt = 0)).trans (decide_eq_true (by omega))) ?_
                                refine E_iload_n at_X5_says_77 rfl ?_
                                refine E_tsIn (off := 59) (t := 137) at_X5_says_78 (by decide) rfl rfl ?_
                                refine E_aload_n at_X5_says_137 rfl ?_
                                refine E_getfield (v := .ref 1) at_X5_says_138 w0 rfl (by decide) rfl ?_
                                refine E_iload at_X5_says_141 rfl ?_
                                refine E_callV (v := some (.int (nI (qWorth s xq)))) (As := [.ref 1, .int (nI xq)]) (r0 := []) (cs2 := (ww im lf s d k ls rf rz ra rn rq lt m1 m2 m3 m4 bd fc hd sz el s g fm hm so si sh ce ca td wa kp la bf oo bo pw ow tr)) at_X5_says_143 rfl rfl (Nat.le_of_ble_eq_true rfl) rfl (ab_rvOf w1 rfl) (sq_worthOf w_q1 I (by omega)) (by decide) rfl ?_
                                exact E_iret at_X5_says_146 rfl
                              · show Ev ab_Z0 2 141 [.ref 65, .int (nI a1k), .int (nI 5)] (ww im lf s d k ls rf rz ra rn rq lt m1 m2 m3 m4 bd fc hd sz el s g fm hm so si sh ce ca td wa kp la bf oo bo pw ow tr) (some (.int (nI (qWorth s xq))), (ww im lf s d k ls rf rz ra rn rq lt m1 m2 m3 m4 bd fc hd sz el s g fm hm so si sh ce ca td wa kp la bf oo bo pw ow tr))
                                refine Ef.in (md := mX6_says) (L := [some (.ref 65), some (.int (nI a1k)), some (.int (nI 5)), none, none, none]) rfl (Nat.le_of_ble_eq_true rfl) rfl ?_
                                refine E_aload_n at_X6_says_0 rfl ?_
                                refine E_iload_n at_X6_says_1 rfl ?_
                                refine E_callV (v := some (.int (nI 1))) (As := [.ref 65, .int (nI a1k)]) (r0 := []) (cs2 := (ww im lf s d k ls rf rz ra rn rq lt m1 m2 m3 m4 bd fc hd sz el s g fm hm so si sh ce ca td wa kp la bf oo bo pw ow tr)) at_X6_says_2 rfl rfl (Nat.le_of_ble_eq_true rfl) rfl (ab_rvOf w65 rfl) (L40_X6_isShelf (by omega) (by omega) (by omega)) (by decide) rfl ?_
                                refine E_if (t := 18) (b := false) at_X6_says_5 rfl (by decide) ?_
                                refine E_iload_n at_X6_says_8 rfl ?_
                                refine E_if (t := 18) (b := false) at_X6_says_9 rfl (by decide) ?_
                                refine E_iload_n at_X6_says_12 rfl ?_
                                refine E_bipush (x := nI 6) at_X6_says_13 (by decide) ?_
                                refine E_ic (t := 24) (b := true) at_X6_says_15 rfl (by decide) ?_
                                refine E_aload_n at_X6_says_24 rfl ?_
                                refine E_getfield (v := .ref 76) at_X6_says_25 w65 rfl (by decide) rfl ?_
                                refine E_iload_n at_X6_says_28 rfl ?_
                                refine E_ialN (l := hm) (v := hm.getD a1k 0) at_X6_says_29 w76 (by omega) (by omega) rfl ?_
                                refine E_iconst (x := nI 1) at_X6_says_30 (by decide) ?_
                                refine E_ic (t := 41) (b := true) at_X6_says_31 rfl ((cn_ne (nI_toInt (by omega)) (nI_toInt (by omega))).trans (decide_eq_true (by omega))) ?_
                                refine E_aload_n at_X6_says_41 rfl ?_
                                refine E_getfield (v := .ref 76) at_X6_says_42 w65 rfl (by decide) rfl ?_
                                refine E_iload_n at_X6_says_45 rfl ?_
                                refine E_ialN (l := hm) (v := hm.getD a1k 0) at_X6_says_46 w76 (by omega) (by omega) rfl ?_
                                refine E_if (t := 57) (b := true) at_X6_says_47 rfl ((cn_ne (nI_toInt (by omega)) (by decide : (0 : Int32).toInt = 0)).trans (decide_eq_true (by omega))) ?_
                                refine E_aload_n at_X6_says_57 rfl ?_
                                refine E_getfield (v := .ref 79) at_X6_says_58 w65 rfl (by decide) rfl ?_
                                refine E_iload_n at_X6_says_61 rfl ?_
                                refine E_ialI (l := sh) (v := nI xq) at_X6_says_62 w79 (by omega) (by omega) u5 ?_
                                refine E_istore_n (L2 := [some (.ref 65), some (.int (nI a1k)), some (.int (nI 5)), some (.int (nI xq)), none, none]) at_X6_says_63 rfl ?_
                                refine E_aload_n at_X6_says_64 rfl ?_
                                refine E_getfield (v := .ref 67) at_X6_says_65 w65 rfl (by decide) rfl ?_
                                refine E_iload_n at_X6_says_68 rfl ?_
                                refine E_ialN (l := qK s) (v := (qK s).getD xq 0) at_X6_says_69 w67 (by omega) (by omega) rfl ?_
                                refine E_istore (L2 := [some (.ref 65), some (.int (nI a1k)), some (.int (nI 5)), some (.int (nI xq)), some (.int (nI ((qK s).getD xq 0))), none]) at_X6_says_70 rfl ?_
                                refine E_iload_n at_X6_says_72 rfl ?_
                                refine E_iconst (x := nI 1) at_X6_says_73 (by decide) ?_
                                refine E_ic (t := 83) (b := true) at_X6_says_74 rfl (by decide) ?_
                                refine E_iload_n at_X6_says_83 rfl ?_
                                refine E_iconst (x := nI 2) at_X6_says_84 (by decide) ?_
                                refine E_ic (t := 94) (b := true) at_X6_says_85 rfl (by decide) ?_
                                refine E_iload_n at_X6_says_94 rfl ?_
                                refine E_iconst (x := nI 4) at_X6_says_95 (by decide) ?_
                                refine E_ic (t := 110) (b := true) at_X6_says_96 rfl (by decide) ?_
                                refine E_iconst (x := nI 0) at_X6_says_110 (by decide) ?_
                                refine E_istore (L2 := [some (.ref 65), some (.int (nI a1k)), some (.int (nI 5)), some (.int (nI xq)), some (.int (nI ((qK s).getD xq 0))), some (.int (nI 0))]) at_X6_says_111 rfl ?_
                                refine E_iload_n at_X6_says_113 rfl ?_
                                refine E_if (t := 135) (b := false) at_X6_says_114 rfl (by decide) ?_
                                refine E_iload_n at_X6_says_117 rfl ?_
                                refine E_iload at_X6_says_118 rfl ?_
                                refine E_ic (t := 135) (b := true) at_X6_says_120 rfl ((cn_eq (nI_toInt (by omega)) (nI_toInt (by omega))).trans (decide_eq_true (by omega))) ?_
                                refine E_iload_n at_X6_says_135 rfl ?_
                                refine E_tsIn (off := 53) (t := 189) at_X6_says_136 (by decide) rfl rfl ?_
                                refine E_aload_n at_X6_says_189 rfl ?_
                                refine E_iload_n at_X6_says_190 rfl ?_
                                refine E_callV (v := some (.int (nI (qWorth s xq)))) (As := [.ref 65, .int (nI xq)]) (r0 := []) (cs2 := (ww im lf s d k ls rf rz ra rn rq lt m1 m2 m3 m4 bd fc hd sz el s g fm hm so si sh ce ca td wa kp la bf oo bo pw ow tr)) at_X6_says_191 rfl rfl (Nat.le_of_ble_eq_true rfl) rfl (ab_rvOf w65 rfl) (mo_worth w_m I (by omega)) (by decide) rfl ?_
                                exact E_iret at_X6_says_194 rfl
                              · exact ⟨I, rfl, hf, iQ, iM, iT, iS, l_el, (lr.1), (lr.2.1), (lr.2.2.1), (lr.2.2.2.1), (lr.2.2.2.2.1), (lr.2.2.2.2.2.1), (lr.2.2.2.2.2.2.1), (lr.2.2.2.2.2.2.2.1), (lr.2.2.2.2.2.2.2.2.1), (lr.2.2.2.2.2.2.2.2.2.1), (lr.2.2.2.2.2.2.2.2.2.2.1), (lr.2.2.2.2.2.2.2.2.2.2.2.1), (lr.2.2.2.2.2.2.2.2.2.2.2.2.1), (lr.2.2.2.2.2.2.2.2.2.2.2.2.2.1), (lr.2.2.2.2.2.2.2.2.2.2.2.2.2.2.1), (lr.2.2.2.2.2.2.2.2.2.2.2.2.2.2.2.1), (lr.2.2.2.2.2.2.2.2.2.2.2.2.2.2.2.2.1), (lr.2.2.2.2.2.2.2.2.2.2.2.2.2.2.2.2.2.1), (lr.2.2.2.2.2.2.2.2.2.2.2.2.2.2.2.2.2.2.1), (lr.2.2.2.2.2.2.2.2.2.2.2.2.2.2.2.2.2.2.2.1), (lr.2.2.2.2.2.2.2.2.2.2.2.2.2.2.2.2.2.2.2.2)⟩
                            · have := I1 xq (by omega)
                              have := qOf_spec ((qK s).getD xq 0) 5
                              have := qWorth_in I (x := xq) (by omega)
                              exfalso; omega
                        · by_cases f12 : a2k = ((qK s).getD xq 0)
                          · have := I1 xq (by omega)
                            have := qOf_spec ((qK s).getD xq 0) a2k
                            refine ⟨(nI ((qA s).getD xq 0)), (im, lf, s, d, k, ls, rf, rz, ra, rn, rq, lt, m1, m2, m3, m4, bd, fc, hd, sz, el, s, g, fm, hm, so, si, sh, ce, ca, td, wa, kp, la, bf, oo, bo, pw, ow, tr), (im, lf, s, d, k, ls, rf, rz, ra, rn, rq, lt, m1, m2, m3, m4, bd, fc, hd, sz, el, s, g, fm, hm, so, si, sh, ce, ca, td, wa, kp, la, bf, oo, bo, pw, ow, tr), ?_, ?_, ?_⟩
                            · show Ev ab_Z0 3 82 [.ref 0, .int (nI a1k), .int (nI a2k)] (ww im lf s d k ls rf rz ra rn rq lt m1 m2 m3 m4 bd fc hd sz el s g fm hm so si sh ce ca td wa kp la bf oo bo pw ow tr) (some (.int (nI ((qA s).getD xq 0))), (ww im lf s d k ls rf rz ra rn rq lt m1 m2 m3 m4 bd fc hd sz el s g fm hm so si sh ce ca td wa kp la bf oo bo pw ow tr))
                              refine Ef.in (md := mX5_says) (L := [some (.ref 0), some (.int (nI a1k)), some (.int (nI a2k)), none, none]) rfl (Nat.le_of_ble_eq_true rfl) rfl ?_
                              refine E_iload_n at_X5_says_0 rfl ?_
                              refine E_callS (v := some (.int (nI 1))) (As := [.int (nI a1k)]) (r0 := []) (cs2 := (ww im lf s d k ls rf rz ra rn rq lt m1 m2 m3 m4 bd fc hd sz el s g fm hm so si sh ce ca td wa kp la bf oo bo pw ow tr)) at_X5_says_1 rfl rfl (Nat.le_of_ble_eq_true rfl) rfl (L39_X5_isShelf (by omega) (by omega) (by omega)) (by decide) rfl ?_
                              refine E_if (t := 14) (b := false) at_X5_says_4 rfl (by decide) ?_
                              refine E_iload_n at_X5_says_7 rfl ?_
                              refine E_callS (v := some (.int (nI 1))) (As := [.int (nI a2k)]) (r0 := []) (cs2 := (ww im lf s d k ls rf rz ra rn rq lt m1 m2 m3 m4 bd fc hd sz el s g fm hm so si sh ce ca td wa kp la bf oo bo pw ow tr)) at_X5_says_8 rfl rfl (Nat.le_of_ble_eq_true rfl) rfl (L57_X4_isKind (by omega) (by omega) (by omega)) (by decide) rfl ?_
                              refine E_if (t := 20) (b := true) at_X5_says_11 rfl (by decide) ?_
                              refine E_aload_n at_X5_says_20 rfl ?_
                              refine E_getfield (v := .ref 31) at_X5_says_21 w0 rfl (by decide) rfl ?_
                              refine E_iload_n at_X5_says_24 rfl ?_
                              refine E_aalN (b := 49 + 2 * a1k) at_X5_says_25 w31 (by omega) (w_shs (by omega)) ?_
                              refine E_astore_n (L2 := [some (.ref 0), some (.int (nI a1k)), some (.int (nI a2k)), some (.ref (49 + 2 * a1k)), none]) at_X5_says_26 rfl ?_
                              refine E_aload_n at_X5_says_27 rfl ?_
                              have e1 : Ev ab_Z0 1 32 [.ref (49 + 2 * a1k)] (ww im lf s d k ls rf rz ra rn rq lt m1 m2 m3 m4 bd fc hd sz el s g fm hm so si sh ce ca td wa kp la bf oo bo pw ow tr) (some (.int (nI 0)), (ww im lf s d k ls rf rz ra rn rq lt m1 m2 m3 m4 bd fc hd sz el s g fm hm so si sh ce ca td wa kp la bf oo bo pw ow tr)) := by
                                refine Ef.in (md := mX3_isEmpty) (L := [some (.ref (49 + 2 * a1k))]) rfl (Nat.le_of_ble_eq_true rfl) rfl ?_
                                refine E_aload_n at_X3_isEmpty_0 rfl ?_
                                refine E_getfield (v := .int (nI xq)) at_X3_isEmpty_1 (w_shv (j := a1k) (by omega) u2 u3) rfl (by decide) rfl ?_
                                refine E_iconst (x := (-1)) at_X3_isEmpty_4 (by decide) ?_
                                refine E_ic (t := 12) (b := true) at_X3_isEmpty_5 rfl ((cn_ne (nI_toInt (by omega)) (by decide : (-1 : Int32).toInt = -1)).trans (decide_eq_true (by omega))) ?_
                                refine E_iconst (x := nI 0) at_X3_isEmpty_12 (by decide) ?_
                                exact E_iret at_X3_isEmpty_13 rfl
                              refine E_callV (v := some (.int (nI 0))) (As := [.ref (49 + 2 * a1k)]) (r0 := []) (cs2 := (ww im lf s d k ls rf rz ra rn rq lt m1 m2 m3 m4 bd fc hd sz el s g fm hm so si sh ce ca td wa kp la bf oo bo pw ow tr)) at_X5_says_28 rfl rfl (Nat.le_of_ble_eq_true rfl) rfl (ab_rvOf (w_shv (j := a1k) (by omega) u2 u3) rfl) e1 (by decide) rfl ?_
                              refine E_if (t := 40) (b := true) at_X5_says_31 rfl (by decide) ?_
                              refine E_aload_n at_X5_says_40 rfl ?_
                              refine E_getfield (v := .int (nI xq)) at_X5_says_41 (w_shv (j := a1k) (by omega) u2 u3) rfl (by decide) rfl ?_
                              refine E_istore (L2 := [some (.ref 0), some (.int (nI a1k)), some (.int (nI a2k)), some (.ref (49 + 2 * a1k)), some (.int (nI xq))]) at_X5_says_44 rfl ?_
                              refine E_aload_n at_X5_says_46 rfl ?_
                              refine E_getfield (v := .ref 1) at_X5_says_47 w0 rfl (by decide) rfl ?_
                              refine E_iload at_X5_says_50 rfl ?_
                              refine E_callV (v := some (.int (nI 1))) (As := [.ref 1, .int (nI xq)]) (r0 := []) (cs2 := (ww im lf s d k ls rf rz ra rn rq lt m1 m2 m3 m4 bd fc hd sz el s g fm hm so si sh ce ca td wa kp la bf oo bo pw ow tr)) at_X5_says_52 rfl rfl (Nat.le_of_ble_eq_true rfl) rfl (ab_rvOf w1 rfl) (L15_X4_isPiece (by omega) (by omega) (by omega) (by omega)) (by decide) rfl ?_
                              refine E_if (t := 71) (b := false) at_X5_says_55 rfl (by decide) ?_
                              refine E_aload_n at_X5_says_58 rfl ?_
                              refine E_getfield (v := .ref 1) at_X5_says_59 w0 rfl (by decide) rfl ?_
                              refine E_iload at_X5_says_62 rfl ?_
                              refine E_iload_n at_X5_says_64 rfl ?_
                              refine E_callV (v := some (.int (nI (qOf ((qK s).getD xq 0) a2k)))) (As := [.ref 1, .int (nI xq), .int (nI a2k)]) (r0 := []) (cs2 := (ww im lf s d k ls rf rz ra rn rq lt m1 m2 m3 m4 bd fc hd sz el s g fm hm so si sh ce ca td wa kp la bf oo bo pw ow tr)) at_X5_says_65 rfl rfl (Nat.le_of_ble_eq_true rfl) rfl (ab_rvOf w1 rfl) (sq_isOfKind w_q1 I (w_none 0) (by omega) (by omega)) (by decide) rfl ?_
                              refine E_if (t := 77) (b := true) at_X5_says_68 rfl ((cn_ne (nI_toInt (by omega)) (by decide : (0 : Int32).toInt = 0)).trans (decide_eq_true (by omega))) ?_
                              refine E_iload_n at_X5_says_77 rfl ?_
                              refine E_tsOut (t := 147) at_X5_says_78 (ab_tsO (nI_toInt (by omega)) (by omega)) rfl ?_
                              refine E_aload_n at_X5_says_147 rfl ?_
                              refine E_getfield (v := .ref 1) at_X5_says_148 w0 rfl (by decide) rfl ?_
                              refine E_getfield (v := .ref 3) at_X5_says_151 w1 rfl (by decide) rfl ?_
                              refine E_iload at_X5_says_154 rfl ?_
                              refine E_ialN (l := qA s) (v := (qA s).getD xq 0) at_X5_says_156 w3 (by omega) (by omega) rfl ?_
                              exact E_iret at_X5_says_157 rfl
                            · show Ev ab_Z0 2 141 [.ref 65, .int (nI a1k), .int (nI a2k)] (ww im lf s d k ls rf rz ra rn rq lt m1 m2 m3 m4 bd fc hd sz el s g fm hm so si sh ce ca td wa kp la bf oo bo pw ow tr) (some (.int (nI ((qA s).getD xq 0))), (ww im lf s d k ls rf rz ra rn rq lt m1 m2 m3 m4 bd fc hd sz el s g fm hm so si sh ce ca td wa kp la bf oo bo pw ow tr))
                              refine Ef.in (md := mX6_says) (L := [some (.ref 65), some (.int (nI a1k)), some (.int (nI a2k)), none, none, none]) rfl (Nat.le_of_ble_eq_true rfl) rfl ?_
                              refine E_aload_n at_X6_says_0 rfl ?_
                              refine E_iload_n at_X6_says_1 rfl ?_
                              refine E_callV (v := some (.int (nI 1))) (As := [.ref 65, .int (nI a1k)]) (r0 := []) (cs2 := (ww im lf s d k ls rf rz ra rn rq lt m1 m2 m3 m4 bd fc hd sz el s g fm hm so si sh ce ca td wa kp la bf oo bo pw ow tr)) at_X6_says_2 rfl rfl (Nat.le_of_ble_eq_true rfl) rfl (ab_rvOf w65 rfl) (L40_X6_isShelf (by omega) (by omega) (by omega)) (by decide) rfl ?_
                              refine E_if (t := 18) (b := false) at_X6_says_5 rfl (by decide) ?_
                              refine E_iload_n at_X6_says_8 rfl ?_
                              refine E_if (t := 18) (b := false) at_X6_says_9 rfl ((cn_lt (nI_toInt (by omega)) (by decide : (0 : Int32).toInt = 0)).trans (decide_eq_false (by omega))) ?_
                              refine E_iload_n at_X6_says_12 rfl ?_
                              refine E_bipush (x := nI 6) at_X6_says_13 (by decide) ?_
                              refine E_ic (t := 24) (b := true) at_X6_says_15 rfl ((cn_le (nI_toInt (by omega)) (nI_toInt (by omega))).trans (decide_eq_true (by omega))) ?_
                              refine E_aload_n at_X6_says_24 rfl ?_
                              refine E_getfield (v := .ref 76) at_X6_says_25 w65 rfl (by decide) rfl ?_
                              refine E_iload_n at_X6_says_28 rfl ?_
                              refine E_ialN (l := hm) (v := hm.getD a1k 0) at_X6_says_29 w76 (by omega) (by omega) rfl ?_
                              refine E_iconst (x := nI 1) at_X6_says_30 (by decide) ?_
                              refine E_ic (t := 41) (b := true) at_X6_says_31 rfl ((cn_ne (nI_toInt (by omega)) (nI_toInt (by omega))).trans (decide_eq_true (by omega))) ?_
                              refine E_aload_n at_X6_says_41 rfl ?_
                              refine E_getfield (v := .ref 76) at_X6_says_42 w65 rfl (by decide) rfl ?_
                              refine E_iload_n at_X6_says_45 rfl ?_
                              refine E_ialN (l := hm) (v := hm.getD a1k 0) at_X6_says_46 w76 (by omega) (by omega) rfl ?_
                              refine E_if (t := 57) (b := true) at_X6_says_47 rfl ((cn_ne (nI_toInt (by omega)) (by decide : (0 : Int32).toInt = 0)).trans (decide_eq_true (by omega))) ?_
                              refine E_aload_n at_X6_says_57 rfl ?_
                              refine E_getfield (v := .ref 79) at_X6_says_58 w65 rfl (by decide) rfl ?_
                              refine E_iload_n at_X6_says_61 rfl ?_
                              refine E_ialI (l := sh) (v := nI xq) at_X6_says_62 w79 (by omega) (by omega) u5 ?_
                              refine E_istore_n (L2 := [some (.ref 65), some (.int (nI a1k)), some (.int (nI a2k)), some (.int (nI xq)), none, none]) at_X6_says_63 rfl ?_
                              refine E_aload_n at_X6_says_64 rfl ?_
                              refine E_getfield (v := .ref 67) at_X6_says_65 w65 rfl (by decide) rfl ?_
                              refine E_iload_n at_X6_says_68 rfl ?_
                              refine E_ialN (l := qK s) (v := (qK s).getD xq 0) at_X6_says_69 w67 (by omega) (by omega) rfl ?_
                              refine E_istore (L2 := [some (.ref 65), some (.int (nI a1k)), some (.int (nI a2k)), some (.int (nI xq)), some (.int (nI ((qK s).getD xq 0))), none]) at_X6_says_70 rfl ?_
                              refine E_iload_n at_X6_says_72 rfl ?_
                              refine E_iconst (x := nI 1) at_X6_says_73 (by decide) ?_
                              refine E_ic (t := 83) (b := true) at_X6_says_74 rfl ((cn_ne (nI_toInt (by omega)) (nI_toInt (by omega))).trans (decide_eq_true (by omega))) ?_
                              refine E_iload_n at_X6_says_83 rfl ?_
                              refine E_iconst (x := nI 2) at_X6_says_84 (by decide) ?_
                              refine E_ic (t := 94) (b := true) at_X6_says_85 rfl ((cn_ne (nI_toInt (by omega)) (nI_toInt (by omega))).trans (decide_eq_true (by omega))) ?_
                              refine E_iload_n at_X6_says_94 rfl ?_
                              refine E_iconst (x := nI 4) at_X6_says_95 (by decide) ?_
                              refine E_ic (t := 110) (b := true) at_X6_says_96 rfl ((cn_ne (nI_toInt (by omega)) (nI_toInt (by omega))).trans (decide_eq_true (by omega))) ?_
                              refine E_iconst (x := nI 0) at_X6_says_110 (by decide) ?_
                              refine E_istore (L2 := [some (.ref 65), some (.int (nI a1k)), some (.int (nI a2k)), some (.int (nI xq)), some (.int (nI ((qK s).getD xq 0))), some (.int (nI 0))]) at_X6_says_111 rfl ?_
                              refine E_iload_n at_X6_says_113 rfl ?_
                              refine E_if (t := 135) (b := false) at_X6_says_114 rfl ((cn_eq (nI_toInt (by omega)) (by decide : (0 : Int32).toInt = 0)).trans (decide_eq_false (by omega))) ?_
                              refine E_iload_n at_X6_says_117 rfl ?_
                              refine E_iload at_X6_says_118 rfl ?_
                              refine E_ic (t := 135) (b := true) at_X6_says_120 rfl ((cn_eq (nI_toInt (by omega)) (nI_toInt (by omega))).trans (decide_eq_true (by omega))) ?_
                              refine E_iload_n at_X6_says_135 rfl ?_
                              refine E_tsOut (t := 195) at_X6_says_136 (ab_tsO (nI_toInt (by omega)) (by omega)) rfl ?_
                              refine E_aload_n at_X6_says_195 rfl ?_
                              refine E_getfield (v := .ref 68) at_X6_says_196 w65 rfl (by decide) rfl ?_
                              refine E_iload_n at_X6_says_199 rfl ?_
                              refine E_ialN (l := qA s) (v := (qA s).getD xq 0) at_X6_says_200 w68 (by omega) (by omega) rfl ?_
                              exact E_iret at_X6_says_201 rfl
                            · exact ⟨I, rfl, hf, iQ, iM, iT, iS, l_el, (lr.1), (lr.2.1), (lr.2.2.1), (lr.2.2.2.1), (lr.2.2.2.2.1), (lr.2.2.2.2.2.1), (lr.2.2.2.2.2.2.1), (lr.2.2.2.2.2.2.2.1), (lr.2.2.2.2.2.2.2.2.1), (lr.2.2.2.2.2.2.2.2.2.1), (lr.2.2.2.2.2.2.2.2.2.2.1), (lr.2.2.2.2.2.2.2.2.2.2.2.1), (lr.2.2.2.2.2.2.2.2.2.2.2.2.1), (lr.2.2.2.2.2.2.2.2.2.2.2.2.2.1), (lr.2.2.2.2.2.2.2.2.2.2.2.2.2.2.1), (lr.2.2.2.2.2.2.2.2.2.2.2.2.2.2.2.1), (lr.2.2.2.2.2.2.2.2.2.2.2.2.2.2.2.2.1), (lr.2.2.2.2.2.2.2.2.2.2.2.2.2.2.2.2.2.1), (lr.2.2.2.2.2.2.2.2.2.2.2.2.2.2.2.2.2.2.1), (lr.2.2.2.2.2.2.2.2.2.2.2.2.2.2.2.2.2.2.2.1), (lr.2.2.2.2.2.2.2.2.2.2.2.2.2.2.2.2.2.2.2.2)⟩
                          · have := I1 xq (by omega)
                            have := qOf_spec ((qK s).getD xq 0) a2k
                            exfalso; omega
          · refine ⟨(-2), (im, lf, s, d, k, ls, rf, rz, ra, rn, rq, lt, m1, m2, m3, m4, bd, (fc.set 2 ((fc.getD 2 0) + (nI 1))), hd, sz, el, s, g, fm, hm, so, si, sh, ce, ca, td, wa, kp, la, bf, oo, bo, pw, ow, tr), (im, lf, s, d, k, ls, rf, rz, ra, rn, rq, lt, m1, m2, m3, m4, bd, (fc.set 2 ((fc.getD 2 0) + (nI 1))), hd, sz, el, s, g, (fm.set 2 ((fm.getD 2 0) + (nI 1))), hm, so, si, sh, ce, ca, td, wa, kp, la, bf, oo, bo, pw, ow, tr), ?_, ?_, ?_⟩
            · show Ev ab_Z0 3 82 [.ref 0, .int (nI a1k), .int (nI a2k)] (ww im lf s d k ls rf rz ra rn rq lt m1 m2 m3 m4 bd fc hd sz el s g fm hm so si sh ce ca td wa kp la bf oo bo pw ow tr) (some (.int (-2)), (ww im lf s d k ls rf rz ra rn rq lt m1 m2 m3 m4 bd (fc.set 2 ((fc.getD 2 0) + (nI 1))) hd sz el s g fm hm so si sh ce ca td wa kp la bf oo bo pw ow tr))
              refine Ef.in (md := mX5_says) (L := [some (.ref 0), some (.int (nI a1k)), some (.int (nI a2k)), none, none]) rfl (Nat.le_of_ble_eq_true rfl) rfl ?_
              refine E_iload_n at_X5_says_0 rfl ?_
              refine E_callS (v := some (.int (nI 1))) (As := [.int (nI a1k)]) (r0 := []) (cs2 := (ww im lf s d k ls rf rz ra rn rq lt m1 m2 m3 m4 bd fc hd sz el s g fm hm so si sh ce ca td wa kp la bf oo bo pw ow tr)) at_X5_says_1 rfl rfl (Nat.le_of_ble_eq_true rfl) rfl (L39_X5_isShelf (by omega) (by omega) (by omega)) (by decide) rfl ?_
              refine E_if (t := 14) (b := false) at_X5_says_4 rfl (by decide) ?_
              refine E_iload_n at_X5_says_7 rfl ?_
              refine E_callS (v := some (.int (nI 1))) (As := [.int (nI a2k)]) (r0 := []) (cs2 := (ww im lf s d k ls rf rz ra rn rq lt m1 m2 m3 m4 bd fc hd sz el s g fm hm so si sh ce ca td wa kp la bf oo bo pw ow tr)) at_X5_says_8 rfl rfl (Nat.le_of_ble_eq_true rfl) rfl (L57_X4_isKind (by omega) (by omega) (by omega)) (by decide) rfl ?_
              refine E_if (t := 20) (b := true) at_X5_says_11 rfl (by decide) ?_
              refine E_aload_n at_X5_says_20 rfl ?_
              refine E_getfield (v := .ref 31) at_X5_says_21 w0 rfl (by decide) rfl ?_
              refine E_iload_n at_X5_says_24 rfl ?_
              refine E_aalN (b := 49 + 2 * a1k) at_X5_says_25 w31 (by omega) (w_shs (by omega)) ?_
              refine E_astore_n (L2 := [some (.ref 0), some (.int (nI a1k)), some (.int (nI a2k)), some (.ref (49 + 2 * a1k)), none]) at_X5_says_26 rfl ?_
              refine E_aload_n at_X5_says_27 rfl ?_
              have e1 : Ev ab_Z0 1 32 [.ref (49 + 2 * a1k)] (ww im lf s d k ls rf rz ra rn rq lt m1 m2 m3 m4 bd fc hd sz el s g fm hm so si sh ce ca td wa kp la bf oo bo pw ow tr) (some (.int (nI 0)), (ww im lf s d k ls rf rz ra rn rq lt m1 m2 m3 m4 bd fc hd sz el s g fm hm so si sh ce ca td wa kp la bf oo bo pw ow tr)) := by
                refine Ef.in (md := mX3_isEmpty) (L := [some (.ref (49 + 2 * a1k))]) rfl (Nat.le_of_ble_eq_true rfl) rfl ?_
                refine E_aload_n at_X3_isEmpty_0 rfl ?_
                refine E_getfield (v := .int (nI (100 + so.getD a1k 0))) at_X3_isEmpty_1 (w_shv (j := a1k) (by omega) u1 u2) rfl (by decide) rfl ?_
                refine E_iconst (x := (-1)) at_X3_isEmpty_4 (by decide) ?_
                refine E_ic (t := 12) (b := true) at_X3_isEmpty_5 rfl ((cn_ne (nI_toInt (by omega)) (by decide : (-1 : Int32).toInt = -1)).trans (decide_eq_true (by omega))) ?_
                refine E_iconst (x := nI 0) at_X3_isEmpty_12 (by decide) ?_
                exact E_iret at_X3_isEmpty_13 rfl
              refine E_callV (v := some (.int (nI 0))) (As := [.ref (49 + 2 * a1k)]) (r0 := []) (cs2 := (ww im lf s d k ls rf rz ra rn rq lt m1 m2 m3 m4 bd fc hd sz el s g fm hm so si sh ce ca td wa kp la bf oo bo pw ow tr)) at_X5_says_28 rfl rfl (Nat.le_of_ble_eq_true rfl) rfl (ab_rvOf (w_shv (j := a1k) (by omega) u1 u2) rfl) e1 (by decide) rfl ?_
              refine E_if (t := 40) (b := true) at_X5_says_31 rfl (by decide) ?_
              refine E_aload_n at_X5_says_40 rfl ?_
              refine E_getfield (v := .int (nI (100 + so.getD a1k 0))) at_X5_says_41 (w_shv (j := a1k) (by omega) u1 u2) rfl (by decide) rfl ?_
              refine E_istore (L2 := [some (.ref 0), some (.int (nI a1k)), some (.int (nI a2k)), some (.ref (49 + 2 * a1k)), some (.int (nI (100 + so.getD a1k 0)))]) at_X5_says_44 rfl ?_
              refine E_aload_n at_X5_says_46 rfl ?_
              refine E_getfield (v := .ref 1) at_X5_says_47 w0 rfl (by decide) rfl ?_
              refine E_iload at_X5_says_50 rfl ?_
              refine E_callV (v := some (.int (nI 0))) (As := [.ref 1, .int (nI (100 + so.getD a1k 0))]) (r0 := []) (cs2 := (ww im lf s d k ls rf rz ra rn rq lt m1 m2 m3 m4 bd fc hd sz el s g fm hm so si sh ce ca td wa kp la bf oo bo pw ow tr)) at_X5_says_52 rfl rfl (Nat.le_of_ble_eq_true rfl) rfl (ab_rvOf w1 rfl) (L20_X4_isPiece (by omega) (by omega) (by omega) (by omega)) (by decide) rfl ?_
              refine E_if (t := 71) (b := true) at_X5_says_55 rfl (by decide) ?_
              refine E_aload_n at_X5_says_71 rfl ?_
              refine E_iconst (x := nI 2) at_X5_says_72 (by decide) ?_
              refine E_callV (v := some (.int (-2))) (As := [.ref 0, .int (nI 2)]) (r0 := []) (cs2 := (ww im lf s d k ls rf rz ra rn rq lt m1 m2 m3 m4 bd (fc.set 2 ((fc.getD 2 0) + (nI 1))) hd sz el s g fm hm so si sh ce ca td wa kp la bf oo bo pw ow tr)) at_X5_says_73 rfl rfl (Nat.le_of_ble_eq_true rfl) rfl (ab_rvOf w0 rfl) (L55_X5_refuse (by omega)) (by decide) w_lens ?_
              exact E_iret at_X5_says_76 rfl
            · show Ev ab_Z0 2 141 [.ref 65, .int (nI a1k), .int (nI a2k)] (ww im lf s d k ls rf rz ra rn rq lt m1 m2 m3 m4 bd (fc.set 2 ((fc.getD 2 0) + (nI 1))) hd sz el s g fm hm so si sh ce ca td wa kp la bf oo bo pw ow tr) (some (.int (-2)), (ww im lf s d k ls rf rz ra rn rq lt m1 m2 m3 m4 bd (fc.set 2 ((fc.getD 2 0) + (nI 1))) hd sz el s g (fm.set 2 ((fm.getD 2 0) + (nI 1))) hm so si sh ce ca td wa kp la bf oo bo pw ow tr))
              refine Ef.in (md := mX6_says) (L := [some (.ref 65), some (.int (nI a1k)), some (.int (nI a2k)), none, none, none]) rfl (Nat.le_of_ble_eq_true rfl) rfl ?_
              refine E_aload_n at_X6_says_0 rfl ?_
              refine E_iload_n at_X6_says_1 rfl ?_
              refine E_callV (v := some (.int (nI 1))) (As := [.ref 65, .int (nI a1k)]) (r0 := []) (cs2 := (ww im lf s d k ls rf rz ra rn rq lt m1 m2 m3 m4 bd (fc.set 2 ((fc.getD 2 0) + (nI 1))) hd sz el s g fm hm so si sh ce ca td wa kp la bf oo bo pw ow tr)) at_X6_says_2 rfl rfl (Nat.le_of_ble_eq_true rfl) rfl (ab_rvOf w65 rfl) (L40_X6_isShelf (by omega) (by omega) (by omega)) (by decide) rfl ?_
              refine E_if (t := 18) (b := false) at_X6_says_5 rfl (by decide) ?_
              refine E_iload_n at_X6_says_8 rfl ?_
              refine E_if (t := 18) (b := false) at_X6_says_9 rfl ((cn_lt (nI_toInt (by omega)) (by decide : (0 : Int32).toInt = 0)).trans (decide_eq_false (by omega))) ?_
              refine E_iload_n at_X6_says_12 rfl ?_
              refine E_bipush (x := nI 6) at_X6_says_13 (by decide) ?_
              refine E_ic (t := 24) (b := true) at_X6_says_15 rfl ((cn_le (nI_toInt (by omega)) (nI_toInt (by omega))).trans (decide_eq_true (by omega))) ?_
              refine E_aload_n at_X6_says_24 rfl ?_
              refine E_getfield (v := .ref 76) at_X6_says_25 w65 rfl (by decide) rfl ?_
              refine E_iload_n at_X6_says_28 rfl ?_
              refine E_ialN (l := hm) (v := hm.getD a1k 0) at_X6_says_29 w76 (by omega) (by omega) rfl ?_
              refine E_iconst (x := nI 1) at_X6_says_30 (by decide) ?_
              refine E_ic (t := 41) (b := false) at_X6_says_31 rfl ((cn_ne (nI_toInt (by omega)) (nI_toInt (by omega))).trans (decide_eq_false (by omega))) ?_
              refine E_aload_n rfl rfl ?_
              refine E_bipush (x := (-2)) rfl (by decide) ?_
              refine E_callV (v := some (.int (-2))) (As := [.ref 65, .int (-2)]) (r0 := []) (cs2 := (ww im lf s d k ls rf rz ra rn rq lt m1 m2 m3 m4 bd (fc.set 2 ((fc.getD 2 0) + (nI 1))) hd sz el s g (fm.set 2 ((fm.getD 2 0) + (nI 1))) hm so si sh ce ca td wa kp la bf oo bo pw ow tr)) rfl rfl rfl (Nat.le_of_ble_eq_true rfl) rfl (ab_rvOf w65 rfl) (L56_X6_no (by omega)) (by decide) w_lens ?_
              exact E_iret rfl rfl
            · exact ⟨I, rfl, hf, iQ, iM, iT, iS, l_el, (lr.1), (lr.2.1), (lr.2.2.1), (by simp only [List.length_set]; exact (lr.2.2.2.1)), (by simp only [List.length_set]; exact (lr.2.2.2.2.1)), (lr.2.2.2.2.2.1), (lr.2.2.2.2.2.2.1), (lr.2.2.2.2.2.2.2.1), (lr.2.2.2.2.2.2.2.2.1), (lr.2.2.2.2.2.2.2.2.2.1), (lr.2.2.2.2.2.2.2.2.2.2.1), (lr.2.2.2.2.2.2.2.2.2.2.2.1), (lr.2.2.2.2.2.2.2.2.2.2.2.2.1), (lr.2.2.2.2.2.2.2.2.2.2.2.2.2.1), (lr.2.2.2.2.2.2.2.2.2.2.2.2.2.2.1), (lr.2.2.2.2.2.2.2.2.2.2.2.2.2.2.2.1), (lr.2.2.2.2.2.2.2.2.2.2.2.2.2.2.2.2.1), (lr.2.2.2.2.2.2.2.2.2.2.2.2.2.2.2.2.2.1), (lr.2.2.2.2.2.2.2.2.2.2.2.2.2.2.2.2.2.2.1), (lr.2.2.2.2.2.2.2.2.2.2.2.2.2.2.2.2.2.2.2.1), (lr.2.2.2.2.2.2.2.2.2.2.2.2.2.2.2.2.2.2.2.2)⟩
        · refine ⟨(-1), (im, lf, s, d, k, ls, rf, rz, ra, rn, rq, lt, m1, m2, m3, m4, bd, (fc.set 1 ((fc.getD 1 0) + (nI 1))), hd, sz, el, s, g, fm, hm, so, si, sh, ce, ca, td, wa, kp, la, bf, oo, bo, pw, ow, tr), (im, lf, s, d, k, ls, rf, rz, ra, rn, rq, lt, m1, m2, m3, m4, bd, (fc.set 1 ((fc.getD 1 0) + (nI 1))), hd, sz, el, s, g, (fm.set 1 ((fm.getD 1 0) + (nI 1))), hm, so, si, sh, ce, ca, td, wa, kp, la, bf, oo, bo, pw, ow, tr), ?_, ?_, ?_⟩
          · show Ev ab_Z0 3 82 [.ref 0, .int (nI a1k), .int (nI a2k)] (ww im lf s d k ls rf rz ra rn rq lt m1 m2 m3 m4 bd fc hd sz el s g fm hm so si sh ce ca td wa kp la bf oo bo pw ow tr) (some (.int (-1)), (ww im lf s d k ls rf rz ra rn rq lt m1 m2 m3 m4 bd (fc.set 1 ((fc.getD 1 0) + (nI 1))) hd sz el s g fm hm so si sh ce ca td wa kp la bf oo bo pw ow tr))
            refine Ef.in (md := mX5_says) (L := [some (.ref 0), some (.int (nI a1k)), some (.int (nI a2k)), none, none]) rfl (Nat.le_of_ble_eq_true rfl) rfl ?_
            refine E_iload_n at_X5_says_0 rfl ?_
            refine E_callS (v := some (.int (nI 1))) (As := [.int (nI a1k)]) (r0 := []) (cs2 := (ww im lf s d k ls rf rz ra rn rq lt m1 m2 m3 m4 bd fc hd sz el s g fm hm so si sh ce ca td wa kp la bf oo bo pw ow tr)) at_X5_says_1 rfl rfl (Nat.le_of_ble_eq_true rfl) rfl (L39_X5_isShelf (by omega) (by omega) (by omega)) (by decide) rfl ?_
            refine E_if (t := 14) (b := false) at_X5_says_4 rfl (by decide) ?_
            refine E_iload_n at_X5_says_7 rfl ?_
            refine E_callS (v := some (.int (nI 0))) (As := [.int (nI a2k)]) (r0 := []) (cs2 := (ww im lf s d k ls rf rz ra rn rq lt m1 m2 m3 m4 bd fc hd sz el s g fm hm so si sh ce ca td wa kp la bf oo bo pw ow tr)) at_X5_says_8 rfl rfl (Nat.le_of_ble_eq_true rfl) rfl (L64_X4_isKind (by omega) (by omega) (by omega)) (by decide) rfl ?_
            refine E_if (t := 20) (b := false) at_X5_says_11 rfl (by decide) ?_
            refine E_aload_n at_X5_says_14 rfl ?_
            refine E_iconst (x := nI 1) at_X5_says_15 (by decide) ?_
            refine E_callV (v := some (.int (-1))) (As := [.ref 0, .int (nI 1)]) (r0 := []) (cs2 := (ww im lf s d k ls rf rz ra rn rq lt m1 m2 m3 m4 bd (fc.set 1 ((fc.getD 1 0) + (nI 1))) hd sz el s g fm hm so si sh ce ca td wa kp la bf oo bo pw ow tr)) at_X5_says_16 rfl rfl (Nat.le_of_ble_eq_true rfl) rfl (ab_rvOf w0 rfl) (L6_X5_refuse (by omega)) (by decide) w_lens ?_
            exact E_iret at_X5_says_19 rfl
          · show Ev ab_Z0 2 141 [.ref 65, .int (nI a1k), .int (nI a2k)] (ww im lf s d k ls rf rz ra rn rq lt m1 m2 m3 m4 bd (fc.set 1 ((fc.getD 1 0) + (nI 1))) hd sz el s g fm hm so si sh ce ca td wa kp la bf oo bo pw ow tr) (some (.int (-1)), (ww im lf s d k ls rf rz ra rn rq lt m1 m2 m3 m4 bd (fc.set 1 ((fc.getD 1 0) + (nI 1))) hd sz el s g (fm.set 1 ((fm.getD 1 0) + (nI 1))) hm so si sh ce ca td wa kp la bf oo bo pw ow tr))
            refine Ef.in (md := mX6_says) (L := [some (.ref 65), some (.int (nI a1k)), some (.int (nI a2k)), none, none, none]) rfl (Nat.le_of_ble_eq_true rfl) rfl ?_
            refine E_aload_n at_X6_says_0 rfl ?_
            refine E_iload_n at_X6_says_1 rfl ?_
            refine E_callV (v := some (.int (nI 1))) (As := [.ref 65, .int (nI a1k)]) (r0 := []) (cs2 := (ww im lf s d k ls rf rz ra rn rq lt m1 m2 m3 m4 bd (fc.set 1 ((fc.getD 1 0) + (nI 1))) hd sz el s g fm hm so si sh ce ca td wa kp la bf oo bo pw ow tr)) at_X6_says_2 rfl rfl (Nat.le_of_ble_eq_true rfl) rfl (ab_rvOf w65 rfl) (L40_X6_isShelf (by omega) (by omega) (by omega)) (by decide) rfl ?_
            refine E_if (t := 18) (b := false) at_X6_says_5 rfl (by decide) ?_
            refine E_iload_n at_X6_says_8 rfl ?_
            refine E_if (t := 18) (b := false) at_X6_says_9 rfl ((cn_lt (nI_toInt (by omega)) (by decide : (0 : Int32).toInt = 0)).trans (decide_eq_false (by omega))) ?_
            refine E_iload_n at_X6_says_12 rfl ?_
            refine E_bipush (x := nI 6) at_X6_says_13 (by decide) ?_
            refine E_ic (t := 24) (b := false) at_X6_says_15 rfl ((cn_le (nI_toInt (by omega)) (nI_toInt (by omega))).trans (decide_eq_false (by omega))) ?_
            refine E_aload_n at_X6_says_18 rfl ?_
            refine E_iconst (x := (-1)) at_X6_says_19 (by decide) ?_
            refine E_callV (v := some (.int (-1))) (As := [.ref 65, .int (-1)]) (r0 := []) (cs2 := (ww im lf s d k ls rf rz ra rn rq lt m1 m2 m3 m4 bd (fc.set 1 ((fc.getD 1 0) + (nI 1))) hd sz el s g (fm.set 1 ((fm.getD 1 0) + (nI 1))) hm so si sh ce ca td wa kp la bf oo bo pw ow tr)) at_X6_says_20 rfl rfl (Nat.le_of_ble_eq_true rfl) rfl (ab_rvOf w65 rfl) (L8_X6_no (by omega)) (by decide) w_lens ?_
            exact E_iret at_X6_says_23 rfl
          · exact ⟨I, rfl, hf, iQ, iM, iT, iS, l_el, (lr.1), (lr.2.1), (lr.2.2.1), (by simp only [List.length_set]; exact (lr.2.2.2.1)), (by simp only [List.length_set]; exact (lr.2.2.2.2.1)), (lr.2.2.2.2.2.1), (lr.2.2.2.2.2.2.1), (lr.2.2.2.2.2.2.2.1), (lr.2.2.2.2.2.2.2.2.1), (lr.2.2.2.2.2.2.2.2.2.1), (lr.2.2.2.2.2.2.2.2.2.2.1), (lr.2.2.2.2.2.2.2.2.2.2.2.1), (lr.2.2.2.2.2.2.2.2.2.2.2.2.1), (lr.2.2.2.2.2.2.2.2.2.2.2.2.2.1), (lr.2.2.2.2.2.2.2.2.2.2.2.2.2.2.1), (lr.2.2.2.2.2.2.2.2.2.2.2.2.2.2.2.1), (lr.2.2.2.2.2.2.2.2.2.2.2.2.2.2.2.2.1), (lr.2.2.2.2.2.2.2.2.2.2.2.2.2.2.2.2.2.1), (lr.2.2.2.2.2.2.2.2.2.2.2.2.2.2.2.2.2.2.1), (lr.2.2.2.2.2.2.2.2.2.2.2.2.2.2.2.2.2.2.2.1), (lr.2.2.2.2.2.2.2.2.2.2.2.2.2.2.2.2.2.2.2.2)⟩
      · refine ⟨(-1), (im, lf, s, d, k, ls, rf, rz, ra, rn, rq, lt, m1, m2, m3, m4, bd, (fc.set 1 ((fc.getD 1 0) + (nI 1))), hd, sz, el, s, g, fm, hm, so, si, sh, ce, ca, td, wa, kp, la, bf, oo, bo, pw, ow, tr), (im, lf, s, d, k, ls, rf, rz, ra, rn, rq, lt, m1, m2, m3, m4, bd, (fc.set 1 ((fc.getD 1 0) + (nI 1))), hd, sz, el, s, g, (fm.set 1 ((fm.getD 1 0) + (nI 1))), hm, so, si, sh, ce, ca, td, wa, kp, la, bf, oo, bo, pw, ow, tr), ?_, ?_, ?_⟩
        · show Ev ab_Z0 3 82 [.ref 0, .int (nI a1k), .int a2] (ww im lf s d k ls rf rz ra rn rq lt m1 m2 m3 m4 bd fc hd sz el s g fm hm so si sh ce ca td wa kp la bf oo bo pw ow tr) (some (.int (-1)), (ww im lf s d k ls rf rz ra rn rq lt m1 m2 m3 m4 bd (fc.set 1 ((fc.getD 1 0) + (nI 1))) hd sz el s g fm hm so si sh ce ca td wa kp la bf oo bo pw ow tr))
          refine Ef.in (md := mX5_says) (L := [some (.ref 0), some (.int (nI a1k)), some (.int a2), none, none]) rfl (Nat.le_of_ble_eq_true rfl) rfl ?_
          refine E_iload_n at_X5_says_0 rfl ?_
          refine E_callS (v := some (.int (nI 1))) (As := [.int (nI a1k)]) (r0 := []) (cs2 := (ww im lf s d k ls rf rz ra rn rq lt m1 m2 m3 m4 bd fc hd sz el s g fm hm so si sh ce ca td wa kp la bf oo bo pw ow tr)) at_X5_says_1 rfl rfl (Nat.le_of_ble_eq_true rfl) rfl (L39_X5_isShelf (by omega) (by omega) (by omega)) (by decide) rfl ?_
          refine E_if (t := 14) (b := false) at_X5_says_4 rfl (by decide) ?_
          refine E_iload_n at_X5_says_7 rfl ?_
          refine E_callS (v := some (.int (nI 0))) (As := [.int a2]) (r0 := []) (cs2 := (ww im lf s d k ls rf rz ra rn rq lt m1 m2 m3 m4 bd fc hd sz el s g fm hm so si sh ce ca td wa kp la bf oo bo pw ow tr)) at_X5_says_8 rfl rfl (Nat.le_of_ble_eq_true rfl) rfl (L65_X4_isKind (by omega) (by omega)) (by decide) rfl ?_
          refine E_if (t := 20) (b := false) at_X5_says_11 rfl (by decide) ?_
          refine E_aload_n at_X5_says_14 rfl ?_
          refine E_iconst (x := nI 1) at_X5_says_15 (by decide) ?_
          refine E_callV (v := some (.int (-1))) (As := [.ref 0, .int (nI 1)]) (r0 := []) (cs2 := (ww im lf s d k ls rf rz ra rn rq lt m1 m2 m3 m4 bd (fc.set 1 ((fc.getD 1 0) + (nI 1))) hd sz el s g fm hm so si sh ce ca td wa kp la bf oo bo pw ow tr)) at_X5_says_16 rfl rfl (Nat.le_of_ble_eq_true rfl) rfl (ab_rvOf w0 rfl) (L6_X5_refuse (by omega)) (by decide) w_lens ?_
          exact E_iret at_X5_says_19 rfl
        · show Ev ab_Z0 2 141 [.ref 65, .int (nI a1k), .int a2] (ww im lf s d k ls rf rz ra rn rq lt m1 m2 m3 m4 bd (fc.set 1 ((fc.getD 1 0) + (nI 1))) hd sz el s g fm hm so si sh ce ca td wa kp la bf oo bo pw ow tr) (some (.int (-1)), (ww im lf s d k ls rf rz ra rn rq lt m1 m2 m3 m4 bd (fc.set 1 ((fc.getD 1 0) + (nI 1))) hd sz el s g (fm.set 1 ((fm.getD 1 0) + (nI 1))) hm so si sh ce ca td wa kp la bf oo bo pw ow tr))
          refine Ef.in (md := mX6_says) (L := [some (.ref 65), some (.int (nI a1k)), some (.int a2), none, none, none]) rfl (Nat.le_of_ble_eq_true rfl) rfl ?_
          refine E_aload_n at_X6_says_0 rfl ?_
          refine E_iload_n at_X6_says_1 rfl ?_
          refine E_callV (v := some (.int (nI 1))) (As := [.ref 65, .int (nI a1k)]) (r0 := []) (cs2 := (ww im lf s d k ls rf rz ra rn rq lt m1 m2 m3 m4 bd (fc.set 1 ((fc.getD 1 0) + (nI 1))) hd sz el s g fm hm so si sh ce ca td wa kp la bf oo bo pw ow tr)) at_X6_says_2 rfl rfl (Nat.le_of_ble_eq_true rfl) rfl (ab_rvOf w65 rfl) (L40_X6_isShelf (by omega) (by omega) (by omega)) (by decide) rfl ?_
          refine E_if (t := 18) (b := false) at_X6_says_5 rfl (by decide) ?_
          refine E_iload_n at_X6_says_8 rfl ?_
          refine E_if (t := 18) (b := true) at_X6_says_9 rfl ((cn_lt rfl (by decide : (0 : Int32).toInt = 0)).trans (decide_eq_true (by omega))) ?_
          refine E_aload_n at_X6_says_18 rfl ?_
          refine E_iconst (x := (-1)) at_X6_says_19 (by decide) ?_
          refine E_callV (v := some (.int (-1))) (As := [.ref 65, .int (-1)]) (r0 := []) (cs2 := (ww im lf s d k ls rf rz ra rn rq lt m1 m2 m3 m4 bd (fc.set 1 ((fc.getD 1 0) + (nI 1))) hd sz el s g (fm.set 1 ((fm.getD 1 0) + (nI 1))) hm so si sh ce ca td wa kp la bf oo bo pw ow tr)) at_X6_says_20 rfl rfl (Nat.le_of_ble_eq_true rfl) rfl (ab_rvOf w65 rfl) (L8_X6_no (by omega)) (by decide) w_lens ?_
          exact E_iret at_X6_says_23 rfl
        · exact ⟨I, rfl, hf, iQ, iM, iT, iS, l_el, (lr.1), (lr.2.1), (lr.2.2.1), (by simp only [List.length_set]; exact (lr.2.2.2.1)), (by simp only [List.length_set]; exact (lr.2.2.2.2.1)), (lr.2.2.2.2.2.1), (lr.2.2.2.2.2.2.1), (lr.2.2.2.2.2.2.2.1), (lr.2.2.2.2.2.2.2.2.1), (lr.2.2.2.2.2.2.2.2.2.1), (lr.2.2.2.2.2.2.2.2.2.2.1), (lr.2.2.2.2.2.2.2.2.2.2.2.1), (lr.2.2.2.2.2.2.2.2.2.2.2.2.1), (lr.2.2.2.2.2.2.2.2.2.2.2.2.2.1), (lr.2.2.2.2.2.2.2.2.2.2.2.2.2.2.1), (lr.2.2.2.2.2.2.2.2.2.2.2.2.2.2.2.1), (lr.2.2.2.2.2.2.2.2.2.2.2.2.2.2.2.2.1), (lr.2.2.2.2.2.2.2.2.2.2.2.2.2.2.2.2.2.1), (lr.2.2.2.2.2.2.2.2.2.2.2.2.2.2.2.2.2.2.1), (lr.2.2.2.2.2.2.2.2.2.2.2.2.2.2.2.2.2.2.2.1), (lr.2.2.2.2.2.2.2.2.2.2.2.2.2.2.2.2.2.2.2.2)⟩
    · refine ⟨(-1), (im, lf, s, d, k, ls, rf, rz, ra, rn, rq, lt, m1, m2, m3, m4, bd, (fc.set 1 ((fc.getD 1 0) + (nI 1))), hd, sz, el, s, g, fm, hm, so, si, sh, ce, ca, td, wa, kp, la, bf, oo, bo, pw, ow, tr), (im, lf, s, d, k, ls, rf, rz, ra, rn, rq, lt, m1, m2, m3, m4, bd, (fc.set 1 ((fc.getD 1 0) + (nI 1))), hd, sz, el, s, g, (fm.set 1 ((fm.getD 1 0) + (nI 1))), hm, so, si, sh, ce, ca, td, wa, kp, la, bf, oo, bo, pw, ow, tr), ?_, ?_, ?_⟩
      · show Ev ab_Z0 3 82 [.ref 0, .int (nI a1k), .int a2] (ww im lf s d k ls rf rz ra rn rq lt m1 m2 m3 m4 bd fc hd sz el s g fm hm so si sh ce ca td wa kp la bf oo bo pw ow tr) (some (.int (-1)), (ww im lf s d k ls rf rz ra rn rq lt m1 m2 m3 m4 bd (fc.set 1 ((fc.getD 1 0) + (nI 1))) hd sz el s g fm hm so si sh ce ca td wa kp la bf oo bo pw ow tr))
        refine Ef.in (md := mX5_says) (L := [some (.ref 0), some (.int (nI a1k)), some (.int a2), none, none]) rfl (Nat.le_of_ble_eq_true rfl) rfl ?_
        refine E_iload_n at_X5_says_0 rfl ?_
        refine E_callS (v := some (.int (nI 0))) (As := [.int (nI a1k)]) (r0 := []) (cs2 := (ww im lf s d k ls rf rz ra rn rq lt m1 m2 m3 m4 bd fc hd sz el s g fm hm so si sh ce ca td wa kp la bf oo bo pw ow tr)) at_X5_says_1 rfl rfl (Nat.le_of_ble_eq_true rfl) rfl (L47_X5_isShelf (by omega) (by omega) (by omega)) (by decide) rfl ?_
        refine E_if (t := 14) (b := true) at_X5_says_4 rfl (by decide) ?_
        refine E_aload_n at_X5_says_14 rfl ?_
        refine E_iconst (x := nI 1) at_X5_says_15 (by decide) ?_
        refine E_callV (v := some (.int (-1))) (As := [.ref 0, .int (nI 1)]) (r0 := []) (cs2 := (ww im lf s d k ls rf rz ra rn rq lt m1 m2 m3 m4 bd (fc.set 1 ((fc.getD 1 0) + (nI 1))) hd sz el s g fm hm so si sh ce ca td wa kp la bf oo bo pw ow tr)) at_X5_says_16 rfl rfl (Nat.le_of_ble_eq_true rfl) rfl (ab_rvOf w0 rfl) (L6_X5_refuse (by omega)) (by decide) w_lens ?_
        exact E_iret at_X5_says_19 rfl
      · show Ev ab_Z0 2 141 [.ref 65, .int (nI a1k), .int a2] (ww im lf s d k ls rf rz ra rn rq lt m1 m2 m3 m4 bd (fc.set 1 ((fc.getD 1 0) + (nI 1))) hd sz el s g fm hm so si sh ce ca td wa kp la bf oo bo pw ow tr) (some (.int (-1)), (ww im lf s d k ls rf rz ra rn rq lt m1 m2 m3 m4 bd (fc.set 1 ((fc.getD 1 0) + (nI 1))) hd sz el s g (fm.set 1 ((fm.getD 1 0) + (nI 1))) hm so si sh ce ca td wa kp la bf oo bo pw ow tr))
        refine Ef.in (md := mX6_says) (L := [some (.ref 65), some (.int (nI a1k)), some (.int a2), none, none, none]) rfl (Nat.le_of_ble_eq_true rfl) rfl ?_
        refine E_aload_n at_X6_says_0 rfl ?_
        refine E_iload_n at_X6_says_1 rfl ?_
        refine E_callV (v := some (.int (nI 0))) (As := [.ref 65, .int (nI a1k)]) (r0 := []) (cs2 := (ww im lf s d k ls rf rz ra rn rq lt m1 m2 m3 m4 bd (fc.set 1 ((fc.getD 1 0) + (nI 1))) hd sz el s g fm hm so si sh ce ca td wa kp la bf oo bo pw ow tr)) at_X6_says_2 rfl rfl (Nat.le_of_ble_eq_true rfl) rfl (ab_rvOf w65 rfl) (L48_X6_isShelf (by omega) (by omega) (by omega)) (by decide) rfl ?_
        refine E_if (t := 18) (b := true) at_X6_says_5 rfl (by decide) ?_
        refine E_aload_n at_X6_says_18 rfl ?_
        refine E_iconst (x := (-1)) at_X6_says_19 (by decide) ?_
        refine E_callV (v := some (.int (-1))) (As := [.ref 65, .int (-1)]) (r0 := []) (cs2 := (ww im lf s d k ls rf rz ra rn rq lt m1 m2 m3 m4 bd (fc.set 1 ((fc.getD 1 0) + (nI 1))) hd sz el s g (fm.set 1 ((fm.getD 1 0) + (nI 1))) hm so si sh ce ca td wa kp la bf oo bo pw ow tr)) at_X6_says_20 rfl rfl (Nat.le_of_ble_eq_true rfl) rfl (ab_rvOf w65 rfl) (L8_X6_no (by omega)) (by decide) w_lens ?_
        exact E_iret at_X6_says_23 rfl
      · exact ⟨I, rfl, hf, iQ, iM, iT, iS, l_el, (lr.1), (lr.2.1), (lr.2.2.1), (by simp only [List.length_set]; exact (lr.2.2.2.1)), (by simp only [List.length_set]; exact (lr.2.2.2.2.1)), (lr.2.2.2.2.2.1), (lr.2.2.2.2.2.2.1), (lr.2.2.2.2.2.2.2.1), (lr.2.2.2.2.2.2.2.2.1), (lr.2.2.2.2.2.2.2.2.2.1), (lr.2.2.2.2.2.2.2.2.2.2.1), (lr.2.2.2.2.2.2.2.2.2.2.2.1), (lr.2.2.2.2.2.2.2.2.2.2.2.2.1), (lr.2.2.2.2.2.2.2.2.2.2.2.2.2.1), (lr.2.2.2.2.2.2.2.2.2.2.2.2.2.2.1), (lr.2.2.2.2.2.2.2.2.2.2.2.2.2.2.2.1), (lr.2.2.2.2.2.2.2.2.2.2.2.2.2.2.2.2.1), (lr.2.2.2.2.2.2.2.2.2.2.2.2.2.2.2.2.2.1), (lr.2.2.2.2.2.2.2.2.2.2.2.2.2.2.2.2.2.2.1), (lr.2.2.2.2.2.2.2.2.2.2.2.2.2.2.2.2.2.2.2.1), (lr.2.2.2.2.2.2.2.2.2.2.2.2.2.2.2.2.2.2.2.2)⟩
  · refine ⟨(-1), (im, lf, s, d, k, ls, rf, rz, ra, rn, rq, lt, m1, m2, m3, m4, bd, (fc.set 1 ((fc.getD 1 0) + (nI 1))), hd, sz, el, s, g, fm, hm, so, si, sh, ce, ca, td, wa, kp, la, bf, oo, bo, pw, ow, tr), (im, lf, s, d, k, ls, rf, rz, ra, rn, rq, lt, m1, m2, m3, m4, bd, (fc.set 1 ((fc.getD 1 0) + (nI 1))), hd, sz, el, s, g, (fm.set 1 ((fm.getD 1 0) + (nI 1))), hm, so, si, sh, ce, ca, td, wa, kp, la, bf, oo, bo, pw, ow, tr), ?_, ?_, ?_⟩
    · show Ev ab_Z0 3 82 [.ref 0, .int a1, .int a2] (ww im lf s d k ls rf rz ra rn rq lt m1 m2 m3 m4 bd fc hd sz el s g fm hm so si sh ce ca td wa kp la bf oo bo pw ow tr) (some (.int (-1)), (ww im lf s d k ls rf rz ra rn rq lt m1 m2 m3 m4 bd (fc.set 1 ((fc.getD 1 0) + (nI 1))) hd sz el s g fm hm so si sh ce ca td wa kp la bf oo bo pw ow tr))
      refine Ef.in (md := mX5_says) (L := [some (.ref 0), some (.int a1), some (.int a2), none, none]) rfl (Nat.le_of_ble_eq_true rfl) rfl ?_
      refine E_iload_n at_X5_says_0 rfl ?_
      refine E_callS (v := some (.int (nI 0))) (As := [.int a1]) (r0 := []) (cs2 := (ww im lf s d k ls rf rz ra rn rq lt m1 m2 m3 m4 bd fc hd sz el s g fm hm so si sh ce ca td wa kp la bf oo bo pw ow tr)) at_X5_says_1 rfl rfl (Nat.le_of_ble_eq_true rfl) rfl (L49_X5_isShelf (by omega) (by omega)) (by decide) rfl ?_
      refine E_if (t := 14) (b := true) at_X5_says_4 rfl (by decide) ?_
      refine E_aload_n at_X5_says_14 rfl ?_
      refine E_iconst (x := nI 1) at_X5_says_15 (by decide) ?_
      refine E_callV (v := some (.int (-1))) (As := [.ref 0, .int (nI 1)]) (r0 := []) (cs2 := (ww im lf s d k ls rf rz ra rn rq lt m1 m2 m3 m4 bd (fc.set 1 ((fc.getD 1 0) + (nI 1))) hd sz el s g fm hm so si sh ce ca td wa kp la bf oo bo pw ow tr)) at_X5_says_16 rfl rfl (Nat.le_of_ble_eq_true rfl) rfl (ab_rvOf w0 rfl) (L6_X5_refuse (by omega)) (by decide) w_lens ?_
      exact E_iret at_X5_says_19 rfl
    · show Ev ab_Z0 2 141 [.ref 65, .int a1, .int a2] (ww im lf s d k ls rf rz ra rn rq lt m1 m2 m3 m4 bd (fc.set 1 ((fc.getD 1 0) + (nI 1))) hd sz el s g fm hm so si sh ce ca td wa kp la bf oo bo pw ow tr) (some (.int (-1)), (ww im lf s d k ls rf rz ra rn rq lt m1 m2 m3 m4 bd (fc.set 1 ((fc.getD 1 0) + (nI 1))) hd sz el s g (fm.set 1 ((fm.getD 1 0) + (nI 1))) hm so si sh ce ca td wa kp la bf oo bo pw ow tr))
      refine Ef.in (md := mX6_says) (L := [some (.ref 65), some (.int a1), some (.int a2), none, none, none]) rfl (Nat.le_of_ble_eq_true rfl) rfl ?_
      refine E_aload_n at_X6_says_0 rfl ?_
      refine E_iload_n at_X6_says_1 rfl ?_
      refine E_callV (v := some (.int (nI 0))) (As := [.ref 65, .int a1]) (r0 := []) (cs2 := (ww im lf s d k ls rf rz ra rn rq lt m1 m2 m3 m4 bd (fc.set 1 ((fc.getD 1 0) + (nI 1))) hd sz el s g fm hm so si sh ce ca td wa kp la bf oo bo pw ow tr)) at_X6_says_2 rfl rfl (Nat.le_of_ble_eq_true rfl) rfl (ab_rvOf w65 rfl) (L50_X6_isShelf (by omega) (by omega)) (by decide) rfl ?_
      refine E_if (t := 18) (b := true) at_X6_says_5 rfl (by decide) ?_
      refine E_aload_n at_X6_says_18 rfl ?_
      refine E_iconst (x := (-1)) at_X6_says_19 (by decide) ?_
      refine E_callV (v := some (.int (-1))) (As := [.ref 65, .int (-1)]) (r0 := []) (cs2 := (ww im lf s d k ls rf rz ra rn rq lt m1 m2 m3 m4 bd (fc.set 1 ((fc.getD 1 0) + (nI 1))) hd sz el s g (fm.set 1 ((fm.getD 1 0) + (nI 1))) hm so si sh ce ca td wa kp la bf oo bo pw ow tr)) at_X6_says_20 rfl rfl (Nat.le_of_ble_eq_true rfl) rfl (ab_rvOf w65 rfl) (L8_X6_no (by omega)) (by decide) w_lens ?_
      exact E_iret at_X6_says_23 rfl
    · exact ⟨I, rfl, hf, iQ, iM, iT, iS, l_el, (lr.1), (lr.2.1), (lr.2.2.1), (by simp only [List.length_set]; exact (lr.2.2.2.1)), (by simp only [List.length_set]; exact (lr.2.2.2.2.1)), (lr.2.2.2.2.2.1), (lr.2.2.2.2.2.2.1), (lr.2.2.2.2.2.2.2.1), (lr.2.2.2.2.2.2.2.2.1), (lr.2.2.2.2.2.2.2.2.2.1), (lr.2.2.2.2.2.2.2.2.2.2.1), (lr.2.2.2.2.2.2.2.2.2.2.2.1), (lr.2.2.2.2.2.2.2.2.2.2.2.2.1), (lr.2.2.2.2.2.2.2.2.2.2.2.2.2.1), (lr.2.2.2.2.2.2.2.2.2.2.2.2.2.2.1), (lr.2.2.2.2.2.2.2.2.2.2.2.2.2.2.2.1), (lr.2.2.2.2.2.2.2.2.2.2.2.2.2.2.2.2.1), (lr.2.2.2.2.2.2.2.2.2.2.2.2.2.2.2.2.2.1), (lr.2.2.2.2.2.2.2.2.2.2.2.2.2.2.2.2.2.2.1), (lr.2.2.2.2.2.2.2.2.2.2.2.2.2.2.2.2.2.2.2.1), (lr.2.2.2.2.2.2.2.2.2.2.2.2.2.2.2.2.2.2.2.2)⟩
