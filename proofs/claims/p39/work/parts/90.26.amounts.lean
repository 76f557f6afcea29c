/-! amounts; by program (wip/tools/op.py) -/
set_option maxHeartbeats 4000000 in
theorem op_amounts (x : St) (hx : wI x) (a1 : Int32) : ∃ (r : Int32) (x1 x2 : St), Ev ab_Z0 4 97 [.ref 0, .int a1] (wt x) (some (.int r), wt x1) ∧ Ev ab_Z0 4 182 [.ref 65, .int a1] (wt x1) (some (.int r), wt x2) ∧ wI x2 := by
  obtain ⟨im, lf, s, d, k, ls, rf, rz, ra, rn, rq, lt, m1, m2, m3, m4, bd, fc, hd, sz, el, t, g, fm, hm, so, si, sh, ce, ca, td, wa, kp, la, bf, oo, bo, pw, ow, tr⟩ := x
  obtain ⟨I, ts, hf, iQ, iM, iT, iS, l_el, lr⟩ := hx
  replace lr : Hd _ := lr
  have l_fc := lr.2.2.2.1
  have l_fm := lr.2.2.2.2.1
  subst ts
  obtain ⟨⟨i0, i1, i2, i3⟩, ⟨i4, i5, i6, i7, i8⟩, ⟨i9, i10⟩, I1, I2, I3, I4⟩ := id I
  rcases ab_int a1 with ⟨a1k, f0, rfl⟩ | f0
  · by_cases f1 : a1k = 0
    · subst f1
      have := qPs_in s 99 (i := qN s) (by omega)
      have := cnt_in (wgh s (qPs s 99 (qN s)) (qN s)) 100
      have w9 : 2 ^ qN s ≤ 2 ^ 9 := Nat.pow_le_pow_right (by decide) (by omega)
      refine ⟨(nI (cntF (wgh s (qPs s 99 (qN s)) (qN s)) 100)), (im, lf, s, d, k, (lsF (wgh s (qPs s 99 (qN s)) (qN s))), rf, rz, ra, rn, rq, lt, m1, m2, m3, m4, bd, fc, hd, sz, el, s, g, fm, hm, so, si, sh, ce, ca, td, wa, kp, la, bf, oo, bo, pw, ow, tr), (im, lf, s, d, k, (lsF (wgh s (qPs s 99 (qN s)) (qN s))), rf, rz, ra, rn, rq, lt, m1, m2, m3, m4, bd, fc, hd, sz, el, s, g, fm, hm, so, si, sh, ce, ca, td, wa, kp, la, (lsF (bst s (qPs s 99 (qN s)) (qN s) (2 ^ qN s))), oo, bo, pw, ow, tr), ?_, ?_, ?_⟩
      · show Ev ab_Z0 4 97 [.ref 0, .int (nI 0)] (ww im lf s d k ls rf rz ra rn rq lt m1 m2 m3 m4 bd fc hd sz el s g fm hm so si sh ce ca td wa kp la bf oo bo pw ow tr) (some (.int (nI (cntF (wgh s (qPs s 99 (qN s)) (qN s)) 100))), (ww im lf s d k (lsF (wgh s (qPs s 99 (qN s)) (qN s))) rf rz ra rn rq lt m1 m2 m3 m4 bd fc hd sz el s g fm hm so si sh ce ca td wa kp la bf oo bo pw ow tr))
        refine Ef.in (md := mX5_amounts) (L := [some (.ref 0), some (.int (nI 0)), none, none]) rfl (Nat.le_of_ble_eq_true rfl) rfl ?_
        refine E_iload_n at_X5_amounts_0 rfl ?_
        refine E_if (t := 23) (b := false) at_X5_amounts_1 rfl (by decide) ?_
        refine E_aload_n rfl rfl ?_
        refine E_getfield (v := .ref 32) rfl w0 rfl (by decide) rfl ?_
        refine E_aload_n rfl rfl ?_
        refine E_getfield (v := .ref 1) rfl w0 rfl (by decide) rfl ?_
        refine E_aload_n rfl rfl ?_
        refine E_getfield (v := .ref 1) rfl w0 rfl (by decide) rfl ?_
        refine E_callV (v := some (.int (nI (qPs s 99 (qN s))))) (As := [.ref 1]) (r0 := [.ref 1, .ref 32]) (cs2 := (ww im lf s d k ls rf rz ra rn rq lt m1 m2 m3 m4 bd fc hd sz el s g fm hm so si sh ce ca td wa kp la bf oo bo pw ow tr)) rfl rfl rfl (Nat.le_of_ble_eq_true rfl) rfl (ab_rvOf w1 rfl) (sq_basin w_q1 I) (by decide) rfl ?_
        refine E_callV (v := some (.int (nI (cntF (wgh s (qPs s 99 (qN s)) (qN s)) 100)))) (As := [.ref 32, .ref 1, .int (nI (qPs s 99 (qN s)))]) (r0 := []) (cs2 := (ww im lf s d k (lsF (wgh s (qPs s 99 (qN s)) (qN s))) rf rz ra rn rq lt m1 m2 m3 m4 bd fc hd sz el s g fm hm so si sh ce ca td wa kp la bf oo bo pw ow tr)) rfl rfl rfl (Nat.le_of_ble_eq_true rfl) rfl (ab_rvOf w32 rfl) (w_amounts1 (m := qPs s 99 (qN s)) I (by omega) (lr.1)) (by decide) w_lens ?_
        exact E_iret rfl rfl
      · show Ev ab_Z0 4 182 [.ref 65, .int (nI 0)] (ww im lf s d k (lsF (wgh s (qPs s 99 (qN s)) (qN s))) rf rz ra rn rq lt m1 m2 m3 m4 bd fc hd sz el s g fm hm so si sh ce ca td wa kp la bf oo bo pw ow tr) (some (.int (nI (cntF (wgh s (qPs s 99 (qN s)) (qN s)) 100))), (ww im lf s d k (lsF (wgh s (qPs s 99 (qN s)) (qN s))) rf rz ra rn rq lt m1 m2 m3 m4 bd fc hd sz el s g fm hm so si sh ce ca td wa kp la (lsF (bst s (qPs s 99 (qN s)) (qN s) (2 ^ qN s))) oo bo pw ow tr))
        rw [cnt_wb]
        refine Ef.in (md := mX6_amounts) (L := [some (.ref 65), some (.int (nI 0))]) rfl (Nat.le_of_ble_eq_true rfl) rfl ?_
        refine E_iload_n at_X6_amounts_0 rfl ?_
        refine E_if (t := 9) (b := false) at_X6_amounts_1 rfl (by decide) ?_
        refine E_iload_n rfl rfl ?_
        refine E_iconst (x := nI 1) rfl (by decide) ?_
        refine E_ic (t := 16) (b := true) rfl rfl (by decide) ?_
        refine E_aload_n rfl rfl ?_
        refine E_aload_n rfl rfl ?_
        refine E_bipush (x := nI 99) rfl (by decide) ?_
        refine E_callV (v := some (.int (nI (qPs s 99 (qN s))))) (As := [.ref 65, .int (nI 99)]) (r0 := [.ref 65]) (cs2 := (ww im lf s d k (lsF (wgh s (qPs s 99 (qN s)) (qN s))) rf rz ra rn rq lt m1 m2 m3 m4 bd fc hd sz el s g fm hm so si sh ce ca td wa kp la bf oo bo pw ow tr)) rfl rfl rfl (Nat.le_of_ble_eq_true rfl) rfl (ab_rvOf w65 rfl) (mo_piecesOf w_m I (by omega)) (by decide) rfl ?_
        refine E_callV (v := none) (As := [.ref 65, .int (nI (qPs s 99 (qN s)))]) (r0 := []) (cs2 := (ww im lf s d k (lsF (wgh s (qPs s 99 (qN s)) (qN s))) rf rz ra rn rq lt m1 m2 m3 m4 bd fc hd sz el s g fm hm so si sh ce ca td wa kp la (lsF (bst s (qPs s 99 (qN s)) (qN s) (2 ^ qN s))) oo bo pw ow tr)) rfl rfl rfl (Nat.le_of_ble_eq_true rfl) rfl (ab_rvOf w65 rfl) (w_best (m := qPs s 99 (qN s)) I (by omega) (lr.2.2.2.2.2.2.2.2.2.2.2.2.2.2.2.1)) (by decide) w_lens ?_
        refine E_aload_n rfl rfl ?_
        refine E_iload_n rfl rfl ?_
        refine E_iconst (x := nI 1) rfl (by decide) ?_
        refine E_ic (t := 36) (b := true) rfl rfl (by decide) ?_
        refine E_iconst (x := nI 0) rfl (by decide) ?_
        refine E_callV (v := some (.int (nI (cntF (bst s (qPs s 99 (qN s)) (qN s) (2 ^ qN s)) 100)))) (As := [.ref 65, .int (nI 0)]) (r0 := []) (cs2 := (ww im lf s d k (lsF (wgh s (qPs s 99 (qN s)) (qN s))) rf rz ra rn rq lt m1 m2 m3 m4 bd fc hd sz el s g fm hm so si sh ce ca td wa kp la (lsF (bst s (qPs s 99 (qN s)) (qN s) (2 ^ qN s))) oo bo pw ow tr)) rfl rfl rfl (Nat.le_of_ble_eq_true rfl) rfl (ab_rvOf w65 rfl) (w_many0 (bst_bd (by omega))) (by decide) rfl ?_
        exact E_iret rfl rfl
      · exact ⟨I, rfl, hf, iQ, iM, iT, iS, l_el, (lsF_len _), (lr.2.1), (lr.2.2.1), (lr.2.2.2.1), (lr.2.2.2.2.1), (lr.2.2.2.2.2.1), (lr.2.2.2.2.2.2.1), (lr.2.2.2.2.2.2.2.1), (lr.2.2.2.2.2.2.2.2.1), (lr.2.2.2.2.2.2.2.2.2.1), (lr.2.2.2.2.2.2.2.2.2.2.1), (lr.2.2.2.2.2.2.2.2.2.2.2.1), (lr.2.2.2.2.2.2.2.2.2.2.2.2.1), (lr.2.2.2.2.2.2.2.2.2.2.2.2.2.1), (lr.2.2.2.2.2.2.2.2.2.2.2.2.2.2.1), (lsF_len _), (lr.2.2.2.2.2.2.2.2.2.2.2.2.2.2.2.2.1), (lr.2.2.2.2.2.2.2.2.2.2.2.2.2.2.2.2.2.1), (lr.2.2.2.2.2.2.2.2.2.2.2.2.2.2.2.2.2.2.1), (lr.2.2.2.2.2.2.2.2.2.2.2.2.2.2.2.2.2.2.2.1), (lr.2.2.2.2.2.2.2.2.2.2.2.2.2.2.2.2.2.2.2.2)⟩
    · by_cases f2 : a1k = 1
      · subst f2
        have := qPs_in s 99 (i := qN s) (by omega)
        refine ⟨(nI (cntF (qGreedy s) 100)), (im, lf, s, d, k, ls, rf, rz, ra, rn, rq, lt, m1, m2, m3, m4, bd, fc, hd, sz, el, s, g, fm, hm, so, si, sh, ce, ca, td, wa, kp, la, bf, oo, bo, pw, ow, tr), (im, lf, s, d, k, ls, rf, rz, ra, rn, rq, lt, m1, m2, m3, m4, bd, fc, hd, sz, el, s, g, fm, hm, so, si, sh, ce, ca, td, wa, kp, la, (lsF (bst s (qPs s 99 (qN s)) (qN s) (2 ^ qN s))), oo, bo, pw, ow, tr), ?_, ?_, ?_⟩
        · show Ev ab_Z0 4 97 [.ref 0, .int (nI 1)] (ww im lf s d k ls rf rz ra rn rq lt m1 m2 m3 m4 bd fc hd sz el s g fm hm so si sh ce ca td wa kp la bf oo bo pw ow tr) (some (.int (nI (cntF (qGreedy s) 100))), (ww im lf s d k ls rf rz ra rn rq lt m1 m2 m3 m4 bd fc hd sz el s g fm hm so si sh ce ca td wa kp la bf oo bo pw ow tr))
          refine Ef.in (md := mX5_amounts) (L := [some (.ref 0), some (.int (nI 1)), none, none]) rfl (Nat.le_of_ble_eq_true rfl) rfl ?_
          refine E_iload_n at_X5_amounts_0 rfl ?_
          refine E_if (t := 23) (b := true) at_X5_amounts_1 rfl (by decide) ?_
          refine E_iload_n rfl rfl ?_
          refine E_iconst (x := nI 1) rfl (by decide) ?_
          refine E_ic (t := 34) (b := true) rfl rfl (by decide) ?_
          refine E_iconst (x := nI 0) rfl (by decide) ?_
          refine E_istore_n (L2 := [some (.ref 0), some (.int (nI 1)), some (.int (nI 0)), none]) rfl rfl ?_
          refine E_iconst (x := nI 1) rfl (by decide) ?_
          refine E_istore_n (L2 := [some (.ref 0), some (.int (nI 1)), some (.int (nI 0)), some (.int (nI 1))]) rfl rfl ?_
          exact cnt_cg I 99 1 rfl (Nat.le_refl _)
        · show Ev ab_Z0 4 182 [.ref 65, .int (nI 1)] (ww im lf s d k ls rf rz ra rn rq lt m1 m2 m3 m4 bd fc hd sz el s g fm hm so si sh ce ca td wa kp la bf oo bo pw ow tr) (some (.int (nI (cntF (qGreedy s) 100))), (ww im lf s d k ls rf rz ra rn rq lt m1 m2 m3 m4 bd fc hd sz el s g fm hm so si sh ce ca td wa kp la (lsF (bst s (qPs s 99 (qN s)) (qN s) (2 ^ qN s))) oo bo pw ow tr))
          refine Ef.in (md := mX6_amounts) (L := [some (.ref 65), some (.int (nI 1))]) rfl (Nat.le_of_ble_eq_true rfl) rfl ?_
          refine E_iload_n at_X6_amounts_0 rfl ?_
          refine E_if (t := 9) (b := false) at_X6_amounts_1 rfl (by decide) ?_
          refine E_iload_n rfl rfl ?_
          refine E_iconst (x := nI 1) rfl (by decide) ?_
          refine E_ic (t := 16) (b := true) rfl rfl (by decide) ?_
          refine E_aload_n rfl rfl ?_
          refine E_aload_n rfl rfl ?_
          refine E_bipush (x := nI 99) rfl (by decide) ?_
          refine E_callV (v := some (.int (nI (qPs s 99 (qN s))))) (As := [.ref 65, .int (nI 99)]) (r0 := [.ref 65]) (cs2 := (ww im lf s d k ls rf rz ra rn rq lt m1 m2 m3 m4 bd fc hd sz el s g fm hm so si sh ce ca td wa kp la bf oo bo pw ow tr)) rfl rfl rfl (Nat.le_of_ble_eq_true rfl) rfl (ab_rvOf w65 rfl) (mo_piecesOf w_m I (by omega)) (by decide) rfl ?_
          refine E_callV (v := none) (As := [.ref 65, .int (nI (qPs s 99 (qN s)))]) (r0 := []) (cs2 := (ww im lf s d k ls rf rz ra rn rq lt m1 m2 m3 m4 bd fc hd sz el s g fm hm so si sh ce ca td wa kp la (lsF (bst s (qPs s 99 (qN s)) (qN s) (2 ^ qN s))) oo bo pw ow tr)) rfl rfl rfl (Nat.le_of_ble_eq_true rfl) rfl (ab_rvOf w65 rfl) (w_best (m := qPs s 99 (qN s)) I (by omega) (lr.2.2.2.2.2.2.2.2.2.2.2.2.2.2.2.1)) (by decide) w_lens ?_
          refine E_aload_n rfl rfl ?_
          refine E_iload_n rfl rfl ?_
          refine E_iconst (x := nI 1) rfl (by decide) ?_
          refine E_ic (t := 36) (b := false) rfl rfl (by decide) ?_
          refine E_iconst (x := nI 1) rfl (by decide) ?_
          refine E_goto (t := 37) rfl rfl ?_
          refine E_callV (v := some (.int (nI (cntF (qGreedy s) 100)))) (As := [.ref 65, .int (nI 1)]) (r0 := []) (cs2 := (ww im lf s d k ls rf rz ra rn rq lt m1 m2 m3 m4 bd fc hd sz el s g fm hm so si sh ce ca td wa kp la (lsF (bst s (qPs s 99 (qN s)) (qN s) (2 ^ qN s))) oo bo pw ow tr)) rfl rfl rfl (Nat.le_of_ble_eq_true rfl) rfl (ab_rvOf w65 rfl) (w_many1 I) (by decide) rfl ?_
          exact E_iret rfl rfl
        · exact ⟨I, rfl, hf, iQ, iM, iT, iS, l_el, (lr.1), (lr.2.1), (lr.2.2.1), (lr.2.2.2.1), (lr.2.2.2.2.1), (lr.2.2.2.2.2.1), (lr.2.2.2.2.2.2.1), (lr.2.2.2.2.2.2.2.1), (lr.2.2.2.2.2.2.2.2.1), (lr.2.2.2.2.2.2.2.2.2.1), (lr.2.2.2.2.2.2.2.2.2.2.1), (lr.2.2.2.2.2.2.2.2.2.2.2.1), (lr.2.2.2.2.2.2.2.2.2.2.2.2.1), (lr.2.2.2.2.2.2.2.2.2.2.2.2.2.1), (lr.2.2.2.2.2.2.2.2.2.2.2.2.2.2.1), (lsF_len _), (lr.2.2.2.2.2.2.2.2.2.2.2.2.2.2.2.2.1), (lr.2.2.2.2.2.2.2.2.2.2.2.2.2.2.2.2.2.1), (lr.2.2.2.2.2.2.2.2.2.2.2.2.2.2.2.2.2.2.1), (lr.2.2.2.2.2.2.2.2.2.2.2.2.2.2.2.2.2.2.2.1), (lr.2.2.2.2.2.2.2.2.2.2.2.2.2.2.2.2.2.2.2.2)⟩
      · refine ⟨(-5), (im, lf, s, d, k, ls, rf, rz, ra, rn, rq, lt, m1, m2, m3, m4, bd, (fc.set 5 ((fc.getD 5 0) + (nI 1))), hd, sz, el, s, g, fm, hm, so, si, sh, ce, ca, td, wa, kp, la, bf, oo, bo, pw, ow, tr), (im, lf, s, d, k, ls, rf, rz, ra, rn, rq, lt, m1, m2, m3, m4, bd, (fc.set 5 ((fc.getD 5 0) + (nI 1))), hd, sz, el, s, g, (fm.set 5 ((fm.getD 5 0) + (nI 1))), hm, so, si, sh, ce, ca, td, wa, kp, la, bf, oo, bo, pw, ow, tr), ?_, ?_, ?_⟩
        · show Ev ab_Z0 4 97 [.ref 0, .int (nI a1k)] (ww im lf s d k ls rf rz ra rn rq lt m1 m2 m3 m4 bd fc hd sz el s g fm hm so si sh ce ca td wa kp la bf oo bo pw ow tr) (some (.int (-5)), (ww im lf s d k ls rf rz ra rn rq lt m1 m2 m3 m4 bd (fc.set 5 ((fc.getD 5 0) + (nI 1))) hd sz el s g fm hm so si sh ce ca td wa kp la bf oo bo pw ow tr))
          refine Ef.in (md := mX5_amounts) (L := [some (.ref 0), some (.int (nI a1k)), none, none]) rfl (Nat.le_of_ble_eq_true rfl) rfl ?_
          refine E_iload_n at_X5_amounts_0 rfl ?_
          refine E_if (t := 23) (b := true) at_X5_amounts_1 rfl ((cn_ne (nI_toInt (by omega)) (by decide : (0 : Int32).toInt = 0)).trans (decide_eq_true (by omega))) ?_
          refine E_iload_n rfl rfl ?_
          refine E_iconst (x := nI 1) rfl (by decide) ?_
          refine E_ic (t := 34) (b := false) rfl rfl ((cn_eq (nI_toInt (by omega)) (nI_toInt (by omega))).trans (decide_eq_false (by omega))) ?_
          refine E_aload_n rfl rfl ?_
          refine E_iconst (x := nI 5) rfl (by decide) ?_
          refine E_callV (v := some (.int (-5))) (As := [.ref 0, .int (nI 5)]) (r0 := []) (cs2 := (ww im lf s d k ls rf rz ra rn rq lt m1 m2 m3 m4 bd (fc.set 5 ((fc.getD 5 0) + (nI 1))) hd sz el s g fm hm so si sh ce ca td wa kp la bf oo bo pw ow tr)) rfl rfl rfl (Nat.le_of_ble_eq_true rfl) rfl (ab_rvOf w0 rfl) (L18_X5_refuse (by omega)) (by decide) w_lens ?_
          exact E_iret rfl rfl
        · show Ev ab_Z0 4 182 [.ref 65, .int (nI a1k)] (ww im lf s d k ls rf rz ra rn rq lt m1 m2 m3 m4 bd (fc.set 5 ((fc.getD 5 0) + (nI 1))) hd sz el s g fm hm so si sh ce ca td wa kp la bf oo bo pw ow tr) (some (.int (-5)), (ww im lf s d k ls rf rz ra rn rq lt m1 m2 m3 m4 bd (fc.set 5 ((fc.getD 5 0) + (nI 1))) hd sz el s g (fm.set 5 ((fm.getD 5 0) + (nI 1))) hm so si sh ce ca td wa kp la bf oo bo pw ow tr))
          refine Ef.in (md := mX6_amounts) (L := [some (.ref 65), some (.int (nI a1k))]) rfl (Nat.le_of_ble_eq_true rfl) rfl ?_
          refine E_iload_n at_X6_amounts_0 rfl ?_
          refine E_if (t := 9) (b := false) at_X6_amounts_1 rfl ((cn_lt (nI_toInt (by omega)) (by decide : (0 : Int32).toInt = 0)).trans (decide_eq_false (by omega))) ?_
          refine E_iload_n rfl rfl ?_
          refine E_iconst (x := nI 1) rfl (by decide) ?_
          refine E_ic (t := 16) (b := false) rfl rfl ((cn_le (nI_toInt (by omega)) (nI_toInt (by omega))).trans (decide_eq_false (by omega))) ?_
          refine E_aload_n rfl rfl ?_
          refine E_bipush (x := (-5)) rfl (by decide) ?_
          refine E_callV (v := some (.int (-5))) (As := [.ref 65, .int (-5)]) (r0 := []) (cs2 := (ww im lf s d k ls rf rz ra rn rq lt m1 m2 m3 m4 bd (fc.set 5 ((fc.getD 5 0) + (nI 1))) hd sz el s g (fm.set 5 ((fm.getD 5 0) + (nI 1))) hm so si sh ce ca td wa kp la bf oo bo pw ow tr)) rfl rfl rfl (Nat.le_of_ble_eq_true rfl) rfl (ab_rvOf w65 rfl) (L19_X6_no (by omega)) (by decide) w_lens ?_
          exact E_iret rfl rfl
        · exact ⟨I, rfl, hf, iQ, iM, iT, iS, l_el, (lr.1), (lr.2.1), (lr.2.2.1), (by simp only [List.length_set]; exact (lr.2.2.2.1)), (by simp only [List.length_set]; exact (lr.2.2.2.2.1)), (lr.2.2.2.2.2.1), (lr.2.2.2.2.2.2.1), (lr.2.2.2.2.2.2.2.1), (lr.2.2.2.2.2.2.2.2.1), (lr.2.2.2.2.2.2.2.2.2.1), (lr.2.2.2.2.2.2.2.2.2.2.1), (lr.2.2.2.2.2.2.2.2.2.2.2.1), (lr.2.2.2.2.2.2.2.2.2.2.2.2.1), (lr.2.2.2.2.2.2.2.2.2.2.2.2.2.1), (lr.2.2.2.2.2.2.2.2.2.2.2.2.2.2.1), (lr.2.2.2.2.2.2.2.2.2.2.2.2.2.2.2.1), (lr.2.2.2.2.2.2.2.2.2.2.2.2.2.2.2.2.1), (lr.2.2.2.2.2.2.2.2.2.2.2.2.2.2.2.2.2.1), (lr.2.2.2.2.2.2.2.2.2.2.2.2.2.2.2.2.2.2.1), (lr.2.2.2.2.2.2.2.2.2.2.2.2.2.2.2.2.2.2.2.1), (lr.2.2.2.2.2.2.2.2.2.2.2.2.2.2.2.2.2.2.2.2)⟩
  · refine ⟨(-5), (im, lf, s, d, k, ls, rf, rz, ra, rn, rq, lt, m1, m2, m3, m4, bd, (fc.set 5 ((fc.getD 5 0) + (nI 1))), hd, sz, el, s, g, fm, hm, so, si, sh, ce, ca, td, wa, kp, la, bf, oo, bo, pw, ow, tr), (im, lf, s, d, k, ls, rf, rz, ra, rn, rq, lt, m1, m2, m3, m4, bd, (fc.set 5 ((fc.getD 5 0) + (nI 1))), hd, sz, el, s, g, (fm.set 5 ((fm.getD 5 0) + (nI 1))), hm, so, si, sh, ce, ca, td, wa, kp, la, bf, oo, bo, pw, ow, tr), ?_, ?_, ?_⟩
    · show Ev ab_Z0 4 97 [.ref 0, .int a1] (ww im lf s d k ls rf rz ra rn rq lt m1 m2 m3 m4 bd fc hd sz el s g fm hm so si sh ce ca td wa kp la bf oo bo pw ow tr) (some (.int (-5)), (ww im lf s d k ls rf rz ra rn rq lt m1 m2 m3 m4 bd (fc.set 5 ((fc.getD 5 0) + (nI 1))) hd sz el s g fm hm so si sh ce ca td wa kp la bf oo bo pw ow tr))
      refine Ef.in (md := mX5_amounts) (L := [some (.ref 0), some (.int a1), none, none]) rfl (Nat.le_of_ble_eq_true rfl) rfl ?_
      refine E_iload_n at_X5_amounts_0 rfl ?_
      refine E_if (t := 23) (b := true) at_X5_amounts_1 rfl ((cn_ne rfl (by decide : (0 : Int32).toInt = 0)).trans (decide_eq_true (by omega))) ?_
      refine E_iload_n rfl rfl ?_
      refine E_iconst (x := nI 1) rfl (by decide) ?_
      refine E_ic (t := 34) (b := false) rfl rfl ((cn_eq rfl (nI_toInt (by omega))).trans (decide_eq_false (by omega))) ?_
      refine E_aload_n rfl rfl ?_
      refine E_iconst (x := nI 5) rfl (by decide) ?_
      refine E_callV (v := some (.int (-5))) (As := [.ref 0, .int (nI 5)]) (r0 := []) (cs2 := (ww im lf s d k ls rf rz ra rn rq lt m1 m2 m3 m4 bd (fc.set 5 ((fc.getD 5 0) + (nI 1))) hd sz el s g fm hm so si sh ce ca td wa kp la bf oo bo pw ow tr)) rfl rfl rfl (Nat.le_of_ble_eq_true rfl) rfl (ab_rvOf w0 rfl) (L18_X5_refuse (by omega)) (by decide) w_lens ?_
      exact E_iret rfl rfl
    · show Ev ab_Z0 4 182 [.ref 65, .int a1] (ww im lf s d k ls rf rz ra rn rq lt m1 m2 m3 m4 bd (fc.set 5 ((fc.getD 5 0) + (nI 1))) hd sz el s g fm hm so si sh ce ca td wa kp la bf oo bo pw ow tr) (some (.int (-5)), (ww im lf s d k ls rf rz ra rn rq lt m1 m2 m3 m4 bd (fc.set 5 ((fc.getD 5 0) + (nI 1))) hd sz el s g (fm.set 5 ((fm.getD 5 0) + (nI 1))) hm so si sh ce ca td wa kp la bf oo bo pw ow tr))
      refine Ef.in (md := mX6_amounts) (L := [some (.ref 65), some (.int a1)]) rfl (Nat.le_of_ble_eq_true rfl) rfl ?_
      refine E_iload_n at_X6_amounts_0 rfl ?_
      refine E_if (t := 9) (b := true) at_X6_amounts_1 rfl ((cn_lt rfl (by decide : (0 : Int32).toInt = 0)).trans (decide_eq_true (by omega))) ?_
      refine E_aload_n rfl rfl ?_
      refine E_bipush (x := (-5)) rfl (by decide) ?_
      refine E_callV (v := some (.int (-5))) (As := [.ref 65, .int (-5)]) (r0 := []) (cs2 := (ww im lf s d k ls rf rz ra rn rq lt m1 m2 m3 m4 bd (fc.set 5 ((fc.getD 5 0) + (nI 1))) hd sz el s g (fm.set 5 ((fm.getD 5 0) + (nI 1))) hm so si sh ce ca td wa kp la bf oo bo pw ow tr)) rfl rfl rfl (Nat.le_of_ble_eq_true rfl) rfl (ab_rvOf w65 rfl) (L19_X6_no (by omega)) (by decide) w_lens ?_
      exact E_iret rfl rfl
    · exact ⟨I, rfl, hf, iQ, iM, iT, iS, l_el, (lr.1), (lr.2.1), (lr.2.2.1), (by simp only [List.length_set]; exact (lr.2.2.2.1)), (by simp only [List.length_set]; exact (lr.2.2.2.2.1)), (lr.2.2.2.2.2.1), (lr.2.2.2.2.2.2.1), (lr.2.2.2.2.2.2.2.1), (lr.2.2.2.2.2.2.2.2.1), (lr.2.2.2.2.2.2.2.2.2.1), (lr.2.2.2.2.2.2.2.2.2.2.1), (lr.2.2.2.2.2.2.2.2.2.2.2.1), (lr.2.2.2.2.2.2.2.2.2.2.2.2.1), (lr.2.2.2.2.2.2.2.2.2.2.2.2.2.1), (lr.2.2.2.2.2.2.2.2.2.2.2.2.2.2.1), (lr.2.2.2.2.2.2.2.2.2.2.2.2.2.2.2.1), (lr.2.2.2.2.2.2.2.2.2.2.2.2.2.2.2.2.1), (lr.2.2.2.2.2.2.2.2.2.2.2.2.2.2.2.2.2.1), (lr.2.2.2.2.2.2.2.2.2.2.2.2.2.2.2.2.2.2.1), (lr.2.2.2.2.2.2.2.2.2.2.2.2.2.2.2.2.2.2.2.1), (lr.2.2.2.2.2.2.2.2.2.2.2.2.2.2.2.2.2.2.2.2)⟩
