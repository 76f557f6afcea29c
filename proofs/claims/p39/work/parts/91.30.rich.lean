/-! rich; by program (wip/tools/op.py) -/
set_option maxHeartbeats 4000000 in
theorem op_rich (x : St) (hx : wI x) (a1 : Int32) : ∃ (r : Int32) (x1 x2 : St), Ev ab_Z0 3 102 [.ref 0, .int a1] (wt x) (some (.int r), wt x1) ∧ Ev ab_Z0 3 192 [.ref 65, .int a1] (wt x1) (some (.int r), wt x2) ∧ wI x2 := by
  obtain ⟨im, lf, s, d, k, ls, rf, rz, ra, rn, rq, lt, m1, m2, m3, m4, bd, fc, hd, sz, el, t, g, fm, hm, so, si, sh, ce, ca, td, wa, kp, la, bf, oo, bo, pw, ow, tr⟩ := x
  obtain ⟨I, ts, hf, iQ, iM, iT, iS, l_el, lr⟩ := hx
  replace lr : Hd _ := lr
  have l_fc := lr.2.2.2.1
  have l_fm := lr.2.2.2.2.1
  subst ts
  obtain ⟨⟨i0, i1, i2, i3⟩, ⟨i4, i5, i6, i7, i8⟩, ⟨i9, i10⟩, I1, I2, I3, I4⟩ := id I
  rcases ab_int a1 with ⟨a1k, f0, rfl⟩ | f0
  · by_cases f1 : a1k < (qM s)
    · have := qPs_in s a1k (i := qN s) (by omega)
      have := I2 a1k (by omega)
      refine ⟨(nI ((qWs s (qPs s a1k (qN s)) (qN s)) + ((qU s).getD a1k 0)) - nI (qHs s (qPs s a1k (qN s)) (qN s))), (im, lf, s, d, k, ls, rf, rz, ra, rn, rq, lt, m1, m2, m3, m4, bd, fc, hd, sz, el, s, g, fm, hm, so, si, sh, ce, ca, td, wa, kp, la, bf, oo, bo, pw, ow, tr), (im, lf, s, d, k, ls, rf, rz, ra, rn, rq, lt, m1, m2, m3, m4, bd, fc, hd, sz, el, s, g, fm, hm, so, si, sh, ce, ca, td, wa, kp, la, bf, oo, bo, pw, ow, tr), ?_, ?_, ?_⟩
      · show Ev ab_Z0 3 102 [.ref 0, .int (nI a1k)] (ww im lf s d k ls rf rz ra rn rq lt m1 m2 m3 m4 bd fc hd sz el s g fm hm so si sh ce ca td wa kp la bf oo bo pw ow tr) (some (.int (nI ((qWs s (qPs s a1k (qN s)) (qN s)) + ((qU s).getD a1k 0)) - nI (qHs s (qPs s a1k (qN s)) (qN s)))), (ww im lf s d k ls rf rz ra rn rq lt m1 m2 m3 m4 bd fc hd sz el s g fm hm so si sh ce ca td wa kp la bf oo bo pw ow tr))
        refine Ef.in (md := mX5_rich) (L := [some (.ref 0), some (.int (nI a1k)), none]) rfl (Nat.le_of_ble_eq_true rfl) rfl ?_
        refine E_aload_n rfl rfl ?_
        refine E_getfield (v := .ref 1) rfl w0 rfl (by decide) rfl ?_
        refine E_iload_n rfl rfl ?_
        refine E_callV (v := some (.int (nI 1))) (As := [.ref 1, .int (nI a1k)]) (r0 := []) (cs2 := (ww im lf s d k ls rf rz ra rn rq lt m1 m2 m3 m4 bd fc hd sz el s g fm hm so si sh ce ca td wa kp la bf oo bo pw ow tr)) rfl rfl rfl (Nat.le_of_ble_eq_true rfl) rfl (ab_rvOf w1 rfl) (L0_X4_isPerson (by omega) (by omega) (by omega) (by omega)) (by decide) rfl ?_
        refine E_if (t := 21) (b := true) rfl rfl (by decide) ?_
        refine E_aload_n rfl rfl ?_
        refine E_getfield (v := .ref 1) rfl w0 rfl (by decide) rfl ?_
        refine E_iload_n rfl rfl ?_
        refine E_callV (v := some (.int (nI (qPs s a1k (qN s))))) (As := [.ref 1, .int (nI a1k)]) (r0 := []) (cs2 := (ww im lf s d k ls rf rz ra rn rq lt m1 m2 m3 m4 bd fc hd sz el s g fm hm so si sh ce ca td wa kp la bf oo bo pw ow tr)) rfl rfl rfl (Nat.le_of_ble_eq_true rfl) rfl (ab_rvOf w1 rfl) (sq_bitsAt w_q1 I (by omega)) (by decide) rfl ?_
        refine E_istore_n (L2 := [some (.ref 0), some (.int (nI a1k)), some (.int (nI (qPs s a1k (qN s))))]) rfl rfl ?_
        refine E_aload_n rfl rfl ?_
        refine E_getfield (v := .ref 1) rfl w0 rfl (by decide) rfl ?_
        refine E_iload_n rfl rfl ?_
        refine E_callV (v := some (.int (nI (qWs s (qPs s a1k (qN s)) (qN s))))) (As := [.ref 1, .int (nI (qPs s a1k (qN s)))]) (r0 := []) (cs2 := (ww im lf s d k ls rf rz ra rn rq lt m1 m2 m3 m4 bd fc hd sz el s g fm hm so si sh ce ca td wa kp la bf oo bo pw ow tr)) rfl rfl rfl (Nat.le_of_ble_eq_true rfl) rfl (ab_rvOf w1 rfl) (sq_worthOfBits w_q1 I (by omega)) (by decide) rfl ?_
        refine E_aload_n rfl rfl ?_
        refine E_getfield (v := .ref 1) rfl w0 rfl (by decide) rfl ?_
        refine E_getfield (v := .ref 6) rfl w1 rfl (by decide) rfl ?_
        refine E_iload_n rfl rfl ?_
        refine E_ialN (l := qU s) (v := (qU s).getD a1k 0) rfl w6 (by omega) (by omega) rfl ?_
        refine E_iadd (z := nI ((qWs s (qPs s a1k (qN s)) (qN s)) + ((qU s).getD a1k 0))) rfl (nI_add _ _) ?_
        refine E_aload_n rfl rfl ?_
        refine E_getfield (v := .ref 1) rfl w0 rfl (by decide) rfl ?_
        refine E_iload_n rfl rfl ?_
        refine E_callV (v := some (.int (nI (qHs s (qPs s a1k (qN s)) (qN s))))) (As := [.ref 1, .int (nI (qPs s a1k (qN s)))]) (r0 := [.int (nI ((qWs s (qPs s a1k (qN s)) (qN s)) + ((qU s).getD a1k 0)))]) (cs2 := (ww im lf s d k ls rf rz ra rn rq lt m1 m2 m3 m4 bd fc hd sz el s g fm hm so si sh ce ca td wa kp la bf oo bo pw ow tr)) rfl rfl rfl (Nat.le_of_ble_eq_true rfl) rfl (ab_rvOf w1 rfl) (sq_harmOfBits w_q1 I (by omega)) (by decide) rfl ?_
        refine E_isub (z := nI ((qWs s (qPs s a1k (qN s)) (qN s)) + ((qU s).getD a1k 0)) - nI (qHs s (qPs s a1k (qN s)) (qN s))) rfl rfl ?_
        exact E_iret rfl rfl
      · show Ev ab_Z0 3 192 [.ref 65, .int (nI a1k)] (ww im lf s d k ls rf rz ra rn rq lt m1 m2 m3 m4 bd fc hd sz el s g fm hm so si sh ce ca td wa kp la bf oo bo pw ow tr) (some (.int (nI ((qWs s (qPs s a1k (qN s)) (qN s)) + ((qU s).getD a1k 0)) - nI (qHs s (qPs s a1k (qN s)) (qN s)))), (ww im lf s d k ls rf rz ra rn rq lt m1 m2 m3 m4 bd fc hd sz el s g fm hm so si sh ce ca td wa kp la bf oo bo pw ow tr))
        refine Ef.in (md := mX6_rich) (L := [some (.ref 65), some (.int (nI a1k))]) rfl (Nat.le_of_ble_eq_true rfl) rfl ?_
        refine E_aload_n rfl rfl ?_
        refine E_iload_n rfl rfl ?_
        refine E_callV (v := some (.int (nI 1))) (As := [.ref 65, .int (nI a1k)]) (r0 := []) (cs2 := (ww im lf s d k ls rf rz ra rn rq lt m1 m2 m3 m4 bd fc hd sz el s g fm hm so si sh ce ca td wa kp la bf oo bo pw ow tr)) rfl rfl rfl (Nat.le_of_ble_eq_true rfl) rfl (ab_rvOf w65 rfl) (L2_X6_isOne (by omega) (by omega) (by omega) (by omega)) (by decide) rfl ?_
        refine E_if (t := 18) (b := true) rfl rfl (by decide) ?_
        refine E_aload_n rfl rfl ?_
        refine E_aload_n rfl rfl ?_
        refine E_iload_n rfl rfl ?_
        refine E_callV (v := some (.int (nI (qPs s a1k (qN s))))) (As := [.ref 65, .int (nI a1k)]) (r0 := [.ref 65]) (cs2 := (ww im lf s d k ls rf rz ra rn rq lt m1 m2 m3 m4 bd fc hd sz el s g fm hm so si sh ce ca td wa kp la bf oo bo pw ow tr)) rfl rfl rfl (Nat.le_of_ble_eq_true rfl) rfl (ab_rvOf w65 rfl) (mo_piecesOf w_m I (by omega)) (by decide) rfl ?_
        refine E_callV (v := some (.int (nI (qWs s (qPs s a1k (qN s)) (qN s))))) (As := [.ref 65, .int (nI (qPs s a1k (qN s)))]) (r0 := []) (cs2 := (ww im lf s d k ls rf rz ra rn rq lt m1 m2 m3 m4 bd fc hd sz el s g fm hm so si sh ce ca td wa kp la bf oo bo pw ow tr)) rfl rfl rfl (Nat.le_of_ble_eq_true rfl) rfl (ab_rvOf w65 rfl) (mo_worthOf w_m I (by omega)) (by decide) rfl ?_
        refine E_aload_n rfl rfl ?_
        refine E_getfield (v := .ref 71) rfl w65 rfl (by decide) rfl ?_
        refine E_iload_n rfl rfl ?_
        refine E_ialN (l := qU s) (v := (qU s).getD a1k 0) rfl w71 (by omega) (by omega) rfl ?_
        refine E_iadd (z := nI ((qWs s (qPs s a1k (qN s)) (qN s)) + ((qU s).getD a1k 0))) rfl (nI_add _ _) ?_
        refine E_aload_n rfl rfl ?_
        refine E_aload_n rfl rfl ?_
        refine E_iload_n rfl rfl ?_
        refine E_callV (v := some (.int (nI (qPs s a1k (qN s))))) (As := [.ref 65, .int (nI a1k)]) (r0 := [.ref 65, .int (nI ((qWs s (qPs s a1k (qN s)) (qN s)) + ((qU s).getD a1k 0)))]) (cs2 := (ww im lf s d k ls rf rz ra rn rq lt m1 m2 m3 m4 bd fc hd sz el s g fm hm so si sh ce ca td wa kp la bf oo bo pw ow tr)) rfl rfl rfl (Nat.le_of_ble_eq_true rfl) rfl (ab_rvOf w65 rfl) (mo_piecesOf w_m I (by omega)) (by decide) rfl ?_
        refine E_callV (v := some (.int (nI (qHs s (qPs s a1k (qN s)) (qN s))))) (As := [.ref 65, .int (nI (qPs s a1k (qN s)))]) (r0 := [.int (nI ((qWs s (qPs s a1k (qN s)) (qN s)) + ((qU s).getD a1k 0)))]) (cs2 := (ww im lf s d k ls rf rz ra rn rq lt m1 m2 m3 m4 bd fc hd sz el s g fm hm so si sh ce ca td wa kp la bf oo bo pw ow tr)) rfl rfl rfl (Nat.le_of_ble_eq_true rfl) rfl (ab_rvOf w65 rfl) (mo_harmOf w_m I (by omega)) (by decide) rfl ?_
        refine E_isub (z := nI ((qWs s (qPs s a1k (qN s)) (qN s)) + ((qU s).getD a1k 0)) - nI (qHs s (qPs s a1k (qN s)) (qN s))) rfl rfl ?_
        exact E_iret rfl rfl
      · exact ⟨I, rfl, hf, iQ, iM, iT, iS, l_el, (lr.1), (lr.2.1), (lr.2.2.1), (lr.2.2.2.1), (lr.2.2.2.2.1), (lr.2.2.2.2.2.1), (lr.2.2.2.2.2.2.1), (lr.2.2.2.2.2.2.2.1), (lr.2.2.2.2.2.2.2.2.1), (lr.2.2.2.2.2.2.2.2.2.1), (lr.2.2.2.2.2.2.2.2.2.2.1), (lr.2.2.2.2.2.2.2.2.2.2.2.1), (lr.2.2.2.2.2.2.2.2.2.2.2.2.1), (lr.2.2.2.2.2.2.2.2.2.2.2.2.2.1), (lr.2.2.2.2.2.2.2.2.2.2.2.2.2.2.1), (lr.2.2.2.2.2.2.2.2.2.2.2.2.2.2.2.1), (lr.2.2.2.2.2.2.2.2.2.2.2.2.2.2.2.2.1), (lr.2.2.2.2.2.2.2.2.2.2.2.2.2.2.2.2.2.1), (lr.2.2.2.2.2.2.2.2.2.2.2.2.2.2.2.2.2.2.1), (lr.2.2.2.2.2.2.2.2.2.2.2.2.2.2.2.2.2.2.2.1), (lr.2.2.2.2.2.2.2.2.2.2.2.2.2.2.2.2.2.2.2.2)⟩
    · refine ⟨(-1001), (im, lf, s, d, k, ls, rf, rz, ra, rn, rq, lt, m1, m2, m3, m4, bd, (fc.set 1 ((fc.getD 1 0) + (nI 1))), hd, sz, el, s, g, fm, hm, so, si, sh, ce, ca, td, wa, kp, la, bf, oo, bo, pw, ow, tr), (im, lf, s, d, k, ls, rf, rz, ra, rn, rq, lt, m1, m2, m3, m4, bd, (fc.set 1 ((fc.getD 1 0) + (nI 1))), hd, sz, el, s, g, (fm.set 1 ((fm.getD 1 0) + (nI 1))), hm, so, si, sh, ce, ca, td, wa, kp, la, bf, oo, bo, pw, ow, tr), ?_, ?_, ?_⟩
      · show Ev ab_Z0 3 102 [.ref 0, .int (nI a1k)] (ww im lf s d k ls rf rz ra rn rq lt m1 m2 m3 m4 bd fc hd sz el s g fm hm so si sh ce ca td wa kp la bf oo bo pw ow tr) (some (.int (-1001)), (ww im lf s d k ls rf rz ra rn rq lt m1 m2 m3 m4 bd (fc.set 1 ((fc.getD 1 0) + (nI 1))) hd sz el s g fm hm so si sh ce ca td wa kp la bf oo bo pw ow tr))
        refine Ef.in (md := mX5_rich) (L := [some (.ref 0), some (.int (nI a1k)), none]) rfl (Nat.le_of_ble_eq_true rfl) rfl ?_
        refine E_aload_n rfl rfl ?_
        refine E_getfield (v := .ref 1) rfl w0 rfl (by decide) rfl ?_
        refine E_iload_n rfl rfl ?_
        refine E_callV (v := some (.int (nI 0))) (As := [.ref 1, .int (nI a1k)]) (r0 := []) (cs2 := (ww im lf s d k ls rf rz ra rn rq lt m1 m2 m3 m4 bd fc hd sz el s g fm hm so si sh ce ca td wa kp la bf oo bo pw ow tr)) rfl rfl rfl (Nat.le_of_ble_eq_true rfl) rfl (ab_rvOf w1 rfl) (L11_X4_isPerson (by omega) (by omega) (by omega) (by omega)) (by decide) rfl ?_
        refine E_if (t := 21) (b := false) rfl rfl (by decide) ?_
        refine E_aload_n rfl rfl ?_
        refine E_iconst (x := nI 1) rfl (by decide) ?_
        refine E_callV (v := some (.int (-1))) (As := [.ref 0, .int (nI 1)]) (r0 := []) (cs2 := (ww im lf s d k ls rf rz ra rn rq lt m1 m2 m3 m4 bd (fc.set 1 ((fc.getD 1 0) + (nI 1))) hd sz el s g fm hm so si sh ce ca td wa kp la bf oo bo pw ow tr)) rfl rfl rfl (Nat.le_of_ble_eq_true rfl) rfl (ab_rvOf w0 rfl) (L6_X5_refuse (by omega)) (by decide) w_lens ?_
        refine E_sipush (x := nI 1000) rfl (by decide) ?_
        refine E_isub (z := (-1001)) rfl (by decide) ?_
        exact E_iret rfl rfl
      · show Ev ab_Z0 3 192 [.ref 65, .int (nI a1k)] (ww im lf s d k ls rf rz ra rn rq lt m1 m2 m3 m4 bd (fc.set 1 ((fc.getD 1 0) + (nI 1))) hd sz el s g fm hm so si sh ce ca td wa kp la bf oo bo pw ow tr) (some (.int (-1001)), (ww im lf s d k ls rf rz ra rn rq lt m1 m2 m3 m4 bd (fc.set 1 ((fc.getD 1 0) + (nI 1))) hd sz el s g (fm.set 1 ((fm.getD 1 0) + (nI 1))) hm so si sh ce ca td wa kp la bf oo bo pw ow tr))
        refine Ef.in (md := mX6_rich) (L := [some (.ref 65), some (.int (nI a1k))]) rfl (Nat.le_of_ble_eq_true rfl) rfl ?_
        refine E_aload_n rfl rfl ?_
        refine E_iload_n rfl rfl ?_
        refine E_callV (v := some (.int (nI 0))) (As := [.ref 65, .int (nI a1k)]) (r0 := []) (cs2 := (ww im lf s d k ls rf rz ra rn rq lt m1 m2 m3 m4 bd (fc.set 1 ((fc.getD 1 0) + (nI 1))) hd sz el s g fm hm so si sh ce ca td wa kp la bf oo bo pw ow tr)) rfl rfl rfl (Nat.le_of_ble_eq_true rfl) rfl (ab_rvOf w65 rfl) (L12_X6_isOne (by omega) (by omega) (by omega) (by omega)) (by decide) rfl ?_
        refine E_if (t := 18) (b := false) rfl rfl (by decide) ?_
        refine E_aload_n rfl rfl ?_
        refine E_iconst (x := (-1)) rfl (by decide) ?_
        refine E_callV (v := some (.int (-1))) (As := [.ref 65, .int (-1)]) (r0 := []) (cs2 := (ww im lf s d k ls rf rz ra rn rq lt m1 m2 m3 m4 bd (fc.set 1 ((fc.getD 1 0) + (nI 1))) hd sz el s g (fm.set 1 ((fm.getD 1 0) + (nI 1))) hm so si sh ce ca td wa kp la bf oo bo pw ow tr)) rfl rfl rfl (Nat.le_of_ble_eq_true rfl) rfl (ab_rvOf w65 rfl) (L8_X6_no (by omega)) (by decide) w_lens ?_
        refine E_sipush (x := nI 1000) rfl (by decide) ?_
        refine E_isub (z := (-1001)) rfl (by decide) ?_
        exact E_iret rfl rfl
      · exact ⟨I, rfl, hf, iQ, iM, iT, iS, l_el, (lr.1), (lr.2.1), (lr.2.2.1), (by simp only [List.length_set]; exact (lr.2.2.2.1)), (by simp only [List.length_set]; exact (lr.2.2.2.2.1)), (lr.2.2.2.2.2.1), (lr.2.2.2.2.2.2.1), (lr.2.2.2.2.2.2.2.1), (lr.2.2.2.2.2.2.2.2.1), (lr.2.2.2.2.2.2.2.2.2.1), (lr.2.2.2.2.2.2.2.2.2.2.1), (lr.2.2.2.2.2.2.2.2.2.2.2.1), (lr.2.2.2.2.2.2.2.2.2.2.2.2.1), (lr.2.2.2.2.2.2.2.2.2.2.2.2.2.1), (lr.2.2.2.2.2.2.2.2.2.2.2.2.2.2.1), (lr.2.2.2.2.2.2.2.2.2.2.2.2.2.2.2.1), (lr.2.2.2.2.2.2.2.2.2.2.2.2.2.2.2.2.1), (lr.2.2.2.2.2.2.2.2.2.2.2.2.2.2.2.2.2.1), (lr.2.2.2.2.2.2.2.2.2.2.2.2.2.2.2.2.2.2.1), (lr.2.2.2.2.2.2.2.2.2.2.2.2.2.2.2.2.2.2.2.1), (lr.2.2.2.2.2.2.2.2.2.2.2.2.2.2.2.2.2.2.2.2)⟩
  · refine ⟨(-1001), (im, lf, s, d, k, ls, rf, rz, ra, rn, rq, lt, m1, m2, m3, m4, bd, (fc.set 1 ((fc.getD 1 0) + (nI 1))), hd, sz, el, s, g, fm, hm, so, si, sh, ce, ca, td, wa, kp, la, bf, oo, bo, pw, ow, tr), (im, lf, s, d, k, ls, rf, rz, ra, rn, rq, lt, m1, m2, m3, m4, bd, (fc.set 1 ((fc.getD 1 0) + (nI 1))), hd, sz, el, s, g, (fm.set 1 ((fm.getD 1 0) + (nI 1))), hm, so, si, sh, ce, ca, td, wa, kp, la, bf, oo, bo, pw, ow, tr), ?_, ?_, ?_⟩
    · show Ev ab_Z0 3 102 [.ref 0, .int a1] (ww im lf s d k ls rf rz ra rn rq lt m1 m2 m3 m4 bd fc hd sz el s g fm hm so si sh ce ca td wa kp la bf oo bo pw ow tr) (some (.int (-1001)), (ww im lf s d k ls rf rz ra rn rq lt m1 m2 m3 m4 bd (fc.set 1 ((fc.getD 1 0) + (nI 1))) hd sz el s g fm hm so si sh ce ca td wa kp la bf oo bo pw ow tr))
      refine Ef.in (md := mX5_rich) (L := [some (.ref 0), some (.int a1), none]) rfl (Nat.le_of_ble_eq_true rfl) rfl ?_
      refine E_aload_n rfl rfl ?_
      refine E_getfield (v := .ref 1) rfl w0 rfl (by decide) rfl ?_
      refine E_iload_n rfl rfl ?_
      refine E_callV (v := some (.int (nI 0))) (As := [.ref 1, .int a1]) (r0 := []) (cs2 := (ww im lf s d k ls rf rz ra rn rq lt m1 m2 m3 m4 bd fc hd sz el s g fm hm so si sh ce ca td wa kp la bf oo bo pw ow tr)) rfl rfl rfl (Nat.le_of_ble_eq_true rfl) rfl (ab_rvOf w1 rfl) (L13_X4_isPerson (by omega) (by omega)) (by decide) rfl ?_
      refine E_if (t := 21) (b := false) rfl rfl (by decide) ?_
      refine E_aload_n rfl rfl ?_
      refine E_iconst (x := nI 1) rfl (by decide) ?_
      refine E_callV (v := some (.int (-1))) (As := [.ref 0, .int (nI 1)]) (r0 := []) (cs2 := (ww im lf s d k ls rf rz ra rn rq lt m1 m2 m3 m4 bd (fc.set 1 ((fc.getD 1 0) + (nI 1))) hd sz el s g fm hm so si sh ce ca td wa kp la bf oo bo pw ow tr)) rfl rfl rfl (Nat.le_of_ble_eq_true rfl) rfl (ab_rvOf w0 rfl) (L6_X5_refuse (by omega)) (by decide) w_lens ?_
      refine E_sipush (x := nI 1000) rfl (by decide) ?_
      refine E_isub (z := (-1001)) rfl (by decide) ?_
      exact E_iret rfl rfl
    · show Ev ab_Z0 3 192 [.ref 65, .int a1] (ww im lf s d k ls rf rz ra rn rq lt m1 m2 m3 m4 bd (fc.set 1 ((fc.getD 1 0) + (nI 1))) hd sz el s g fm hm so si sh ce ca td wa kp la bf oo bo pw ow tr) (some (.int (-1001)), (ww im lf s d k ls rf rz ra rn rq lt m1 m2 m3 m4 bd (fc.set 1 ((fc.getD 1 0) + (nI 1))) hd sz el s g (fm.set 1 ((fm.getD 1 0) + (nI 1))) hm so si sh ce ca td wa kp la bf oo bo pw ow tr))
      refine Ef.in (md := mX6_rich) (L := [some (.ref 65), some (.int a1)]) rfl (Nat.le_of_ble_eq_true rfl) rfl ?_
      refine E_aload_n rfl rfl ?_
      refine E_iload_n rfl rfl ?_
      refine E_callV (v := some (.int (nI 0))) (As := [.ref 65, .int a1]) (r0 := []) (cs2 := (ww im lf s d k ls rf rz ra rn rq lt m1 m2 m3 m4 bd (fc.set 1 ((fc.getD 1 0) + (nI 1))) hd sz el s g fm hm so si sh ce ca td wa kp la bf oo bo pw ow tr)) rfl rfl rfl (Nat.le_of_ble_eq_true rfl) rfl (ab_rvOf w65 rfl) (L14_X6_isOne (by omega) (by omega)) (by decide) rfl ?_
      refine E_if (t := 18) (b := false) rfl rfl (by decide) ?_
      refine E_aload_n rfl rfl ?_
      refine E_iconst (x := (-1)) rfl (by decide) ?_
      refine E_callV (v := some (.int (-1))) (As := [.ref 65, .int (-1)]) (r0 := []) (cs2 := (ww im lf s d k ls rf rz ra rn rq lt m1 m2 m3 m4 bd (fc.set 1 ((fc.getD 1 0) + (nI 1))) hd sz el s g (fm.set 1 ((fm.getD 1 0) + (nI 1))) hm so si sh ce ca td wa kp la bf oo bo pw ow tr)) rfl rfl rfl (Nat.le_of_ble_eq_true rfl) rfl (ab_rvOf w65 rfl) (L8_X6_no (by omega)) (by decide) w_lens ?_
      refine E_sipush (x := nI 1000) rfl (by decide) ?_
      refine E_isub (z := (-1001)) rfl (by decide) ?_
      exact E_iret rfl rfl
    · exact ⟨I, rfl, hf, iQ, iM, iT, iS, l_el, (lr.1), (lr.2.1), (lr.2.2.1), (by simp only [List.length_set]; exact (lr.2.2.2.1)), (by simp only [List.length_set]; exact (lr.2.2.2.2.1)), (lr.2.2.2.2.2.1), (lr.2.2.2.2.2.2.1), (lr.2.2.2.2.2.2.2.1), (lr.2.2.2.2.2.2.2.2.1), (lr.2.2.2.2.2.2.2.2.2.1), (lr.2.2.2.2.2.2.2.2.2.2.1), (lr.2.2.2.2.2.2.2.2.2.2.2.1), (lr.2.2.2.2.2.2.2.2.2.2.2.2.1), (lr.2.2.2.2.2.2.2.2.2.2.2.2.2.1), (lr.2.2.2.2.2.2.2.2.2.2.2.2.2.2.1), (lr.2.2.2.2.2.2.2.2.2.2.2.2.2.2.2.1), (lr.2.2.2.2.2.2.2.2.2.2.2.2.2.2.2.2.1), (lr.2.2.2.2.2.2.2.2.2.2.2.2.2.2.2.2.2.1), (lr.2.2.2.2.2.2.2.2.2.2.2.2.2.2.2.2.2.2.1), (lr.2.2.2.2.2.2.2.2.2.2.2.2.2.2.2.2.2.2.2.1), (lr.2.2.2.2.2.2.2.2.2.2.2.2.2.2.2.2.2.2.2.2)⟩
