/-! cast; by program (wip/tools/op.py) -/
set_option maxHeartbeats 4000000 in
theorem op_cast (x : St) (hx : wI x) (a1 : Int32) (a2 : Int32) : ∃ (r : Int32) (x1 x2 : St), Ev ab_Z0 6 106 [.ref 0, .int a1, .int a2] (wt x) (some (.int r), wt x1) ∧ Ev ab_Z0 5 197 [.ref 65, .int a1, .int a2] (wt x1) (some (.int r), wt x2) ∧ wI x2 := by
  obtain ⟨im, lf, s, d, k, ls, rf, rz, ra, rn, rq, lt, m1, m2, m3, m4, bd, fc, hd, sz, el, t, g, fm, hm, so, si, sh, ce, ca, td, wa, kp, la, bf, oo, bo, pw, ow, tr⟩ := x
  obtain ⟨I, ts, hf, iQ, iM, iT, iS, l_el, l_ls, l_lt, l_bd, l_fc, l_fm, l_hm, l_so, l_si, l_sh, l_ce, l_ca, l_td, l_wa, l_kp, l_la, l_bf, l_oo, l_bo, l_pw, l_ow, l_tr⟩ := hx
  subst ts
  obtain ⟨⟨i0, i1, i2, i3⟩, ⟨i4, i5, i6, i7, i8⟩, ⟨i9, i10⟩, I1, I2, I3, I4⟩ := id I
  obtain ⟨⟨d0, d1, d2, d3, d4, d5, d6, d7, d8⟩, ⟨k0, k1, k2, k3, k4, k5, k6, k7, k8⟩, ⟨r0, r1, r2, r3, r4, r5, r6, r7, r8⟩⟩ := iQ
  rcases I4 with er | er
  · rcases ab_int a1 with ⟨a1k, f1, rfl⟩ | f1
    · by_cases f2 : a1k < (qM s)
      · rcases ab_int a2 with ⟨a2k, f3, rfl⟩ | f3
        · by_cases f4 : ((qU s).getD a1k 0) < a2k
          · by_cases f5 : 99 < a2k
            · have er2 : (qR s).toInt = 0 := by rw [er]; rfl
              have := I2 a1k (by omega)
              have := qPs_in s 99 (i := qN s) (by omega)
              refine ⟨(-6), (im, lf, s, d, k, ls, rf, rz, ra, rn, rq, lt, m1, m2, m3, m4, bd, (fc.set 6 ((fc.getD 6 0) + (nI 1))), hd, sz, el, s, g, fm, hm, so, si, sh, ce, ca, td, wa, kp, la, bf, oo, bo, pw, ow, tr), (im, lf, s, d, k, ls, rf, rz, ra, rn, rq, lt, m1, m2, m3, m4, bd, (fc.set 6 ((fc.getD 6 0) + (nI 1))), hd, sz, el, s, g, (fm.set 6 ((fm.getD 6 0) + (nI 1))), hm, so, si, sh, ce, ca, td, wa, kp, la, (lsF (bst s (qPs s 99 (qN s)) (qN s) (2 ^ qN s))), oo, bo, pw, ow, tr), ?_, ?_, ?_⟩
              · show Ev ab_Z0 6 106 [.ref 0, .int (nI a1k), .int (nI a2k)] (ww im lf s d k ls rf rz ra rn rq lt m1 m2 m3 m4 bd fc hd sz el s g fm hm so si sh ce ca td wa kp la bf oo bo pw ow tr) (some (.int (-6)), (ww im lf s d k ls rf rz ra rn rq lt m1 m2 m3 m4 bd (fc.set 6 ((fc.getD 6 0) + (nI 1))) hd sz el s g fm hm so si sh ce ca td wa kp la bf oo bo pw ow tr))
                refine Ef.in (md := mX5_cast) (L := [some (.ref 0), some (.int (nI a1k)), some (.int (nI a2k)), none]) rfl (Nat.le_of_ble_eq_true rfl) rfl ?_
                refine E_aload_n rfl rfl ?_
                refine E_getfield (v := .ref 1) rfl w0 rfl (by decide) rfl ?_
                refine E_iload_n rfl rfl ?_
                refine E_callV (v := some (.int (nI 1))) (As := [.ref 1, .int (nI a1k)]) (r0 := []) (cs2 := (ww im lf s d k ls rf rz ra rn rq lt m1 m2 m3 m4 bd fc hd sz el s g fm hm so si sh ce ca td wa kp la bf oo bo pw ow tr)) rfl rfl rfl (Nat.le_of_ble_eq_true rfl) rfl (ab_rvOf w1 rfl) (L0_X4_isPerson (by omega) (by omega) (by omega) (by omega)) (by decide) rfl ?_
                refine E_if (t := 17) (b := true) rfl rfl (by decide) ?_
                refine E_aload_n rfl rfl ?_
                refine E_aload_n rfl rfl ?_
                refine E_getfield (v := .ref 1) rfl w0 rfl (by decide) rfl ?_
                refine E_iload_n rfl rfl ?_
                refine E_iload_n rfl rfl ?_
                have e1 : Ev ab_Z0 2 122 [.ref 0, .ref 1, .int (nI a1k), .int (nI a2k)] (ww im lf s d k ls rf rz ra rn rq lt m1 m2 m3 m4 bd fc hd sz el s g fm hm so si sh ce ca td wa kp la bf oo bo pw ow tr) (some (.int (-1)), (ww im lf s d k ls rf rz ra rn rq lt m1 m2 m3 m4 bd fc hd sz el s g fm hm so si sh ce ca td wa kp la bf oo bo pw ow tr)) := by
                  refine Ef.in (md := mX5_throwBy) (L := [some (.ref 0), some (.ref 1), some (.int (nI a1k)), some (.int (nI a2k)), none]) rfl (Nat.le_of_ble_eq_true rfl) rfl ?_
                  refine E_aload_n rfl rfl ?_
                  refine E_iload_n rfl rfl ?_
                  refine E_callV (v := some (.int (nI 1))) (As := [.ref 1, .int (nI a1k)]) (r0 := []) (cs2 := (ww im lf s d k ls rf rz ra rn rq lt m1 m2 m3 m4 bd fc hd sz el s g fm hm so si sh ce ca td wa kp la bf oo bo pw ow tr)) rfl rfl rfl (Nat.le_of_ble_eq_true rfl) rfl (ab_rvOf w1 rfl) (L0_X4_isPerson (by omega) (by omega) (by omega) (by omega)) (by decide) rfl ?_
                  refine E_if (t := 18) (b := false) rfl rfl (by decide) ?_
                  refine E_iload_n rfl rfl ?_
                  refine E_aload_n rfl rfl ?_
                  refine E_getfield (v := .ref 6) rfl w1 rfl (by decide) rfl ?_
                  refine E_iload_n rfl rfl ?_
                  refine E_ialN (l := qU s) (v := (qU s).getD a1k 0) rfl w6 (by omega) (by omega) rfl ?_
                  refine E_ic (t := 20) (b := false) rfl rfl ((cn_le (nI_toInt (by omega)) (nI_toInt (by omega))).trans (decide_eq_false (by omega))) ?_
                  refine E_iconst (x := (-1)) rfl (by decide) ?_
                  exact E_iret rfl rfl
                refine E_callV (v := some (.int (-1))) (As := [.ref 0, .ref 1, .int (nI a1k), .int (nI a2k)]) (r0 := []) (cs2 := (ww im lf s d k ls rf rz ra rn rq lt m1 m2 m3 m4 bd fc hd sz el s g fm hm so si sh ce ca td wa kp la bf oo bo pw ow tr)) rfl rfl rfl (Nat.le_of_ble_eq_true rfl) rfl (ab_rvOf w0 rfl) e1 (by decide) rfl ?_
                refine E_istore_n (L2 := [some (.ref 0), some (.int (nI a1k)), some (.int (nI a2k)), some (.int (-1))]) rfl rfl ?_
                refine E_iload_n rfl rfl ?_
                refine E_iconst (x := (-1)) rfl (by decide) ?_
                refine E_ic (t := 40) (b := false) rfl rfl (by decide) ?_
                refine E_aload_n rfl rfl ?_
                refine E_bipush (x := nI 6) rfl (by decide) ?_
                refine E_callV (v := some (.int (-6))) (As := [.ref 0, .int (nI 6)]) (r0 := []) (cs2 := (ww im lf s d k ls rf rz ra rn rq lt m1 m2 m3 m4 bd (fc.set 6 ((fc.getD 6 0) + (nI 1))) hd sz el s g fm hm so si sh ce ca td wa kp la bf oo bo pw ow tr)) rfl rfl rfl (Nat.le_of_ble_eq_true rfl) rfl (ab_rvOf w0 rfl) (L26_X5_refuse (by omega)) (by decide) w_lens ?_
                exact E_iret rfl rfl
              · show Ev ab_Z0 5 197 [.ref 65, .int (nI a1k), .int (nI a2k)] (ww im lf s d k ls rf rz ra rn rq lt m1 m2 m3 m4 bd (fc.set 6 ((fc.getD 6 0) + (nI 1))) hd sz el s g fm hm so si sh ce ca td wa kp la bf oo bo pw ow tr) (some (.int (-6)), (ww im lf s d k ls rf rz ra rn rq lt m1 m2 m3 m4 bd (fc.set 6 ((fc.getD 6 0) + (nI 1))) hd sz el s g (fm.set 6 ((fm.getD 6 0) + (nI 1))) hm so si sh ce ca td wa kp la (lsF (bst s (qPs s 99 (qN s)) (qN s) (2 ^ qN s))) oo bo pw ow tr))
                refine Ef.in (md := mX6_cast) (L := [some (.ref 65), some (.int (nI a1k)), some (.int (nI a2k)), none]) rfl (Nat.le_of_ble_eq_true rfl) rfl ?_
                refine E_aload_n rfl rfl ?_
                refine E_iload_n rfl rfl ?_
                refine E_callV (v := some (.int (nI 1))) (As := [.ref 65, .int (nI a1k)]) (r0 := []) (cs2 := (ww im lf s d k ls rf rz ra rn rq lt m1 m2 m3 m4 bd (fc.set 6 ((fc.getD 6 0) + (nI 1))) hd sz el s g fm hm so si sh ce ca td wa kp la bf oo bo pw ow tr)) rfl rfl rfl (Nat.le_of_ble_eq_true rfl) rfl (ab_rvOf w65 rfl) (L2_X6_isOne (by omega) (by omega) (by omega) (by omega)) (by decide) rfl ?_
                refine E_if (t := 14) (b := true) rfl rfl (by decide) ?_
                refine E_aload_n rfl rfl ?_
                refine E_aload_n rfl rfl ?_
                refine E_bipush (x := nI 99) rfl (by decide) ?_
                refine E_callV (v := some (.int (nI (qPs s 99 (qN s))))) (As := [.ref 65, .int (nI 99)]) (r0 := [.ref 65]) (cs2 := (ww im lf s d k ls rf rz ra rn rq lt m1 m2 m3 m4 bd (fc.set 6 ((fc.getD 6 0) + (nI 1))) hd sz el s g fm hm so si sh ce ca td wa kp la bf oo bo pw ow tr)) rfl rfl rfl (Nat.le_of_ble_eq_true rfl) rfl (ab_rvOf w65 rfl) (mo_piecesOf w_m I (by omega)) (by decide) rfl ?_
                refine E_callV (v := none) (As := [.ref 65, .int (nI (qPs s 99 (qN s)))]) (r0 := []) (cs2 := (ww im lf s d k ls rf rz ra rn rq lt m1 m2 m3 m4 bd (fc.set 6 ((fc.getD 6 0) + (nI 1))) hd sz el s g fm hm so si sh ce ca td wa kp la (lsF (bst s (qPs s 99 (qN s)) (qN s) (2 ^ qN s))) oo bo pw ow tr)) rfl rfl rfl (Nat.le_of_ble_eq_true rfl) rfl (ab_rvOf w65 rfl) (w_best (m := qPs s 99 (qN s)) I (by omega) l_bf) (by decide) w_lens ?_
                refine E_aload_n rfl rfl ?_
                refine E_iload_n rfl rfl ?_
                refine E_iconst (x := nI 0) rfl (by decide) ?_
                refine E_bipush (x := nI 99) rfl (by decide) ?_
                refine E_callV (v := some (.int (nI 0))) (As := [.ref 65, .int (nI a2k), .int (nI 0), .int (nI 99)]) (r0 := []) (cs2 := (ww im lf s d k ls rf rz ra rn rq lt m1 m2 m3 m4 bd (fc.set 6 ((fc.getD 6 0) + (nI 1))) hd sz el s g fm hm so si sh ce ca td wa kp la (lsF (bst s (qPs s 99 (qN s)) (qN s) (2 ^ qN s))) oo bo pw ow tr)) rfl rfl rfl (Nat.le_of_ble_eq_true rfl) rfl (ab_rvOf w65 rfl) (L83_X6_isFrom (by omega) (by omega) (by omega)) (by decide) rfl ?_
                refine E_if (t := 44) (b := true) rfl rfl (by decide) ?_
                refine E_iconst (x := (-1)) rfl (by decide) ?_
                refine E_istore_n (L2 := [some (.ref 65), some (.int (nI a1k)), some (.int (nI a2k)), some (.int (-1))]) rfl rfl ?_
                refine E_iload_n rfl rfl ?_
                refine E_iconst (x := (-1)) rfl (by decide) ?_
                refine E_ic (t := 58) (b := false) rfl rfl (by decide) ?_
                refine E_aload_n rfl rfl ?_
                refine E_bipush (x := (-6)) rfl (by decide) ?_
                refine E_callV (v := some (.int (-6))) (As := [.ref 65, .int (-6)]) (r0 := []) (cs2 := (ww im lf s d k ls rf rz ra rn rq lt m1 m2 m3 m4 bd (fc.set 6 ((fc.getD 6 0) + (nI 1))) hd sz el s g (fm.set 6 ((fm.getD 6 0) + (nI 1))) hm so si sh ce ca td wa kp la (lsF (bst s (qPs s 99 (qN s)) (qN s) (2 ^ qN s))) oo bo pw ow tr)) rfl rfl rfl (Nat.le_of_ble_eq_true rfl) rfl (ab_rvOf w65 rfl) (L28_X6_no (by omega)) (by decide) w_lens ?_
                exact E_iret rfl rfl
              · exact ⟨I, rfl, hf, ⟨⟨d0, d1, d2, d3, d4, d5, d6, d7, d8⟩, ⟨k0, k1, k2, k3, k4, k5, k6, k7, k8⟩, ⟨r0, r1, r2, r3, r4, r5, r6, r7, r8⟩⟩, iM, iT, iS, l_el, l_ls, l_lt, l_bd, (by simp only [List.length_set]; exact l_fc), (by simp only [List.length_set]; exact l_fm), l_hm, l_so, l_si, l_sh, l_ce, l_ca, l_td, l_wa, l_kp, l_la, (lsF_len _), l_oo, l_bo, l_pw, l_ow, l_tr⟩
            · have er2 : (qR s).toInt = 0 := by rw [er]; rfl
              have := I2 a1k (by omega)
              have := qPs_in s 99 (i := qN s) (by omega)
              have := qPr_in I a1k (w := ((qW s).getD a1k 0)) (by omega)
              refine ⟨(-6), (im, lf, s, d, k, ls, rf, rz, ra, rn, rq, lt, m1, m2, m3, m4, bd, (fc.set 6 ((fc.getD 6 0) + (nI 1))), hd, sz, el, s, g, fm, hm, so, si, sh, ce, ca, td, wa, kp, la, bf, oo, bo, pw, ow, tr), (im, lf, s, d, k, ls, rf, rz, ra, rn, rq, lt, m1, m2, m3, m4, bd, (fc.set 6 ((fc.getD 6 0) + (nI 1))), hd, sz, el, s, g, (fm.set 6 ((fm.getD 6 0) + (nI 1))), hm, so, si, sh, ce, ca, td, wa, kp, la, (lsF (bst s (qPs s 99 (qN s)) (qN s) (2 ^ qN s))), oo, bo, pw, ow, tr), ?_, ?_, ?_⟩
              · show Ev ab_Z0 6 106 [.ref 0, .int (nI a1k), .int (nI a2k)] (ww im lf s d k ls rf rz ra rn rq lt m1 m2 m3 m4 bd fc hd sz el s g fm hm so si sh ce ca td wa kp la bf oo bo pw ow tr) (some (.int (-6)), (ww im lf s d k ls rf rz ra rn rq lt m1 m2 m3 m4 bd (fc.set 6 ((fc.getD 6 0) + (nI 1))) hd sz el s g fm hm so si sh ce ca td wa kp la bf oo bo pw ow tr))
                refine Ef.in (md := mX5_cast) (L := [some (.ref 0), some (.int (nI a1k)), some (.int (nI a2k)), none]) rfl (Nat.le_of_ble_eq_true rfl) rfl ?_
                refine E_aload_n rfl rfl ?_
                refine E_getfield (v := .ref 1) rfl w0 rfl (by decide) rfl ?_
                refine E_iload_n rfl rfl ?_
                refine E_callV (v := some (.int (nI 1))) (As := [.ref 1, .int (nI a1k)]) (r0 := []) (cs2 := (ww im lf s d k ls rf rz ra rn rq lt m1 m2 m3 m4 bd fc hd sz el s g fm hm so si sh ce ca td wa kp la bf oo bo pw ow tr)) rfl rfl rfl (Nat.le_of_ble_eq_true rfl) rfl (ab_rvOf w1 rfl) (L0_X4_isPerson (by omega) (by omega) (by omega) (by omega)) (by decide) rfl ?_
                refine E_if (t := 17) (b := true) rfl rfl (by decide) ?_
                refine E_aload_n rfl rfl ?_
                refine E_aload_n rfl rfl ?_
                refine E_getfield (v := .ref 1) rfl w0 rfl (by decide) rfl ?_
                refine E_iload_n rfl rfl ?_
                refine E_iload_n rfl rfl ?_
                have e1 : Ev ab_Z0 2 122 [.ref 0, .ref 1, .int (nI a1k), .int (nI a2k)] (ww im lf s d k ls rf rz ra rn rq lt m1 m2 m3 m4 bd fc hd sz el s g fm hm so si sh ce ca td wa kp la bf oo bo pw ow tr) (some (.int (-1)), (ww im lf s d k ls rf rz ra rn rq lt m1 m2 m3 m4 bd fc hd sz el s g fm hm so si sh ce ca td wa kp la bf oo bo pw ow tr)) := by
                  refine Ef.in (md := mX5_throwBy) (L := [some (.ref 0), some (.ref 1), some (.int (nI a1k)), some (.int (nI a2k)), none]) rfl (Nat.le_of_ble_eq_true rfl) rfl ?_
                  refine E_aload_n rfl rfl ?_
                  refine E_iload_n rfl rfl ?_
                  refine E_callV (v := some (.int (nI 1))) (As := [.ref 1, .int (nI a1k)]) (r0 := []) (cs2 := (ww im lf s d k ls rf rz ra rn rq lt m1 m2 m3 m4 bd fc hd sz el s g fm hm so si sh ce ca td wa kp la bf oo bo pw ow tr)) rfl rfl rfl (Nat.le_of_ble_eq_true rfl) rfl (ab_rvOf w1 rfl) (L0_X4_isPerson (by omega) (by omega) (by omega) (by omega)) (by decide) rfl ?_
                  refine E_if (t := 18) (b := false) rfl rfl (by decide) ?_
                  refine E_iload_n rfl rfl ?_
                  refine E_aload_n rfl rfl ?_
                  refine E_getfield (v := .ref 6) rfl w1 rfl (by decide) rfl ?_
                  refine E_iload_n rfl rfl ?_
                  refine E_ialN (l := qU s) (v := (qU s).getD a1k 0) rfl w6 (by omega) (by omega) rfl ?_
                  refine E_ic (t := 20) (b := false) rfl rfl ((cn_le (nI_toInt (by omega)) (nI_toInt (by omega))).trans (decide_eq_false (by omega))) ?_
                  refine E_iconst (x := (-1)) rfl (by decide) ?_
                  exact E_iret rfl rfl
                refine E_callV (v := some (.int (-1))) (As := [.ref 0, .ref 1, .int (nI a1k), .int (nI a2k)]) (r0 := []) (cs2 := (ww im lf s d k ls rf rz ra rn rq lt m1 m2 m3 m4 bd fc hd sz el s g fm hm so si sh ce ca td wa kp la bf oo bo pw ow tr)) rfl rfl rfl (Nat.le_of_ble_eq_true rfl) rfl (ab_rvOf w0 rfl) e1 (by decide) rfl ?_
                refine E_istore_n (L2 := [some (.ref 0), some (.int (nI a1k)), some (.int (nI a2k)), some (.int (-1))]) rfl rfl ?_
                refine E_iload_n rfl rfl ?_
                refine E_iconst (x := (-1)) rfl (by decide) ?_
                refine E_ic (t := 40) (b := false) rfl rfl (by decide) ?_
                refine E_aload_n rfl rfl ?_
                refine E_bipush (x := nI 6) rfl (by decide) ?_
                refine E_callV (v := some (.int (-6))) (As := [.ref 0, .int (nI 6)]) (r0 := []) (cs2 := (ww im lf s d k ls rf rz ra rn rq lt m1 m2 m3 m4 bd (fc.set 6 ((fc.getD 6 0) + (nI 1))) hd sz el s g fm hm so si sh ce ca td wa kp la bf oo bo pw ow tr)) rfl rfl rfl (Nat.le_of_ble_eq_true rfl) rfl (ab_rvOf w0 rfl) (L26_X5_refuse (by omega)) (by decide) w_lens ?_
                exact E_iret rfl rfl
              · show Ev ab_Z0 5 197 [.ref 65, .int (nI a1k), .int (nI a2k)] (ww im lf s d k ls rf rz ra rn rq lt m1 m2 m3 m4 bd (fc.set 6 ((fc.getD 6 0) + (nI 1))) hd sz el s g fm hm so si sh ce ca td wa kp la bf oo bo pw ow tr) (some (.int (-6)), (ww im lf s d k ls rf rz ra rn rq lt m1 m2 m3 m4 bd (fc.set 6 ((fc.getD 6 0) + (nI 1))) hd sz el s g (fm.set 6 ((fm.getD 6 0) + (nI 1))) hm so si sh ce ca td wa kp la (lsF (bst s (qPs s 99 (qN s)) (qN s) (2 ^ qN s))) oo bo pw ow tr))
                refine Ef.in (md := mX6_cast) (L := [some (.ref 65), some (.int (nI a1k)), some (.int (nI a2k)), none]) rfl (Nat.le_of_ble_eq_true rfl) rfl ?_
                refine E_aload_n rfl rfl ?_
                refine E_iload_n rfl rfl ?_
                refine E_callV (v := some (.int (nI 1))) (As := [.ref 65, .int (nI a1k)]) (r0 := []) (cs2 := (ww im lf s d k ls rf rz ra rn rq lt m1 m2 m3 m4 bd (fc.set 6 ((fc.getD 6 0) + (nI 1))) hd sz el s g fm hm so si sh ce ca td wa kp la bf oo bo pw ow tr)) rfl rfl rfl (Nat.le_of_ble_eq_true rfl) rfl (ab_rvOf w65 rfl) (L2_X6_isOne (by omega) (by omega) (by omega) (by omega)) (by decide) rfl ?_
                refine E_if (t := 14) (b := true) rfl rfl (by decide) ?_
                refine E_aload_n rfl rfl ?_
                refine E_aload_n rfl rfl ?_
                refine E_bipush (x := nI 99) rfl (by decide) ?_
                refine E_callV (v := some (.int (nI (qPs s 99 (qN s))))) (As := [.ref 65, .int (nI 99)]) (r0 := [.ref 65]) (cs2 := (ww im lf s d k ls rf rz ra rn rq lt m1 m2 m3 m4 bd (fc.set 6 ((fc.getD 6 0) + (nI 1))) hd sz el s g fm hm so si sh ce ca td wa kp la bf oo bo pw ow tr)) rfl rfl rfl (Nat.le_of_ble_eq_true rfl) rfl (ab_rvOf w65 rfl) (mo_piecesOf w_m I (by omega)) (by decide) rfl ?_
                refine E_callV (v := none) (As := [.ref 65, .int (nI (qPs s 99 (qN s)))]) (r0 := []) (cs2 := (ww im lf s d k ls rf rz ra rn rq lt m1 m2 m3 m4 bd (fc.set 6 ((fc.getD 6 0) + (nI 1))) hd sz el s g fm hm so si sh ce ca td wa kp la (lsF (bst s (qPs s 99 (qN s)) (qN s) (2 ^ qN s))) oo bo pw ow tr)) rfl rfl rfl (Nat.le_of_ble_eq_true rfl) rfl (ab_rvOf w65 rfl) (w_best (m := qPs s 99 (qN s)) I (by omega) l_bf) (by decide) w_lens ?_
                refine E_aload_n rfl rfl ?_
                refine E_iload_n rfl rfl ?_
                refine E_iconst (x := nI 0) rfl (by decide) ?_
                refine E_bipush (x := nI 99) rfl (by decide) ?_
                refine E_callV (v := some (.int (nI 1))) (As := [.ref 65, .int (nI a2k), .int (nI 0), .int (nI 99)]) (r0 := []) (cs2 := (ww im lf s d k ls rf rz ra rn rq lt m1 m2 m3 m4 bd (fc.set 6 ((fc.getD 6 0) + (nI 1))) hd sz el s g fm hm so si sh ce ca td wa kp la (lsF (bst s (qPs s 99 (qN s)) (qN s) (2 ^ qN s))) oo bo pw ow tr)) rfl rfl rfl (Nat.le_of_ble_eq_true rfl) rfl (ab_rvOf w65 rfl) (L85_X6_isFrom (by omega) (by omega) (by omega)) (by decide) rfl ?_
                refine E_if (t := 44) (b := false) rfl rfl (by decide) ?_
                refine E_aload_n rfl rfl ?_
                refine E_iload_n rfl rfl ?_
                refine E_iload_n rfl rfl ?_
                have e2 : Ev ab_Z0 2 176 [.ref 65, .int (nI a1k), .int (nI a2k)] (ww im lf s d k ls rf rz ra rn rq lt m1 m2 m3 m4 bd (fc.set 6 ((fc.getD 6 0) + (nI 1))) hd sz el s g fm hm so si sh ce ca td wa kp la (lsF (bst s (qPs s 99 (qN s)) (qN s) (2 ^ qN s))) oo bo pw ow tr) (some (.int (-1)), (ww im lf s d k ls rf rz ra rn rq lt m1 m2 m3 m4 bd (fc.set 6 ((fc.getD 6 0) + (nI 1))) hd sz el s g fm hm so si sh ce ca td wa kp la (lsF (bst s (qPs s 99 (qN s)) (qN s) (2 ^ qN s))) oo bo pw ow tr)) := by
                  refine Ef.in (md := mX6_thrown) (L := [some (.ref 65), some (.int (nI a1k)), some (.int (nI a2k)), none]) rfl (Nat.le_of_ble_eq_true rfl) rfl ?_
                  refine E_iload_n rfl rfl ?_
                  refine E_aload_n rfl rfl ?_
                  refine E_iload_n rfl rfl ?_
                  refine E_aload_n rfl rfl ?_
                  refine E_getfield (v := .ref 73) rfl w65 rfl (by decide) rfl ?_
                  refine E_iload_n rfl rfl ?_
                  refine E_ialN (l := qW s) (v := (qW s).getD a1k 0) rfl w73 (by omega) (by omega) rfl ?_
                  refine E_callV (v := some (.int (nI (qPr s a1k ((qW s).getD a1k 0))))) (As := [.ref 65, .int (nI a1k), .int (nI ((qW s).getD a1k 0))]) (r0 := [.int (nI a2k)]) (cs2 := (ww im lf s d k ls rf rz ra rn rq lt m1 m2 m3 m4 bd (fc.set 6 ((fc.getD 6 0) + (nI 1))) hd sz el s g fm hm so si sh ce ca td wa kp la (lsF (bst s (qPs s 99 (qN s)) (qN s) (2 ^ qN s))) oo bo pw ow tr)) rfl rfl rfl (Nat.le_of_ble_eq_true rfl) rfl (ab_rvOf w65 rfl) (mo_priceFor w_m I (by omega) (by omega)) (by decide) rfl ?_
                  refine E_isub (z := nI a2k - nI (qPr s a1k ((qW s).getD a1k 0))) rfl rfl ?_
                  refine E_istore_n (L2 := [some (.ref 65), some (.int (nI a1k)), some (.int (nI a2k)), some (.int (nI a2k - nI (qPr s a1k ((qW s).getD a1k 0))))]) rfl rfl ?_
                  refine E_aload_n rfl rfl ?_
                  refine E_iload_n rfl rfl ?_
                  refine E_iconst (x := nI 0) rfl (by decide) ?_
                  refine E_bipush (x := nI 99) rfl (by decide) ?_
                  refine E_callV (v := some (.int (nI 1))) (As := [.ref 65, .int (nI a2k), .int (nI 0), .int (nI 99)]) (r0 := []) (cs2 := (ww im lf s d k ls rf rz ra rn rq lt m1 m2 m3 m4 bd (fc.set 6 ((fc.getD 6 0) + (nI 1))) hd sz el s g fm hm so si sh ce ca td wa kp la (lsF (bst s (qPs s 99 (qN s)) (qN s) (2 ^ qN s))) oo bo pw ow tr)) rfl rfl rfl (Nat.le_of_ble_eq_true rfl) rfl (ab_rvOf w65 rfl) (L85_X6_isFrom (by omega) (by omega) (by omega)) (by decide) rfl ?_
                  refine E_if (t := 39) (b := false) rfl rfl (by decide) ?_
                  refine E_iload_n rfl rfl ?_
                  refine E_aload_n rfl rfl ?_
                  refine E_getfield (v := .ref 71) rfl w65 rfl (by decide) rfl ?_
                  refine E_iload_n rfl rfl ?_
                  refine E_ialN (l := qU s) (v := (qU s).getD a1k 0) rfl w71 (by omega) (by omega) rfl ?_
                  refine E_ic (t := 39) (b := true) rfl rfl ((cn_gt (nI_toInt (by omega)) (nI_toInt (by omega))).trans (decide_eq_true (by omega))) ?_
                  refine E_iconst (x := (-1)) rfl (by decide) ?_
                  refine E_goto (t := 48) rfl rfl ?_
                  exact E_iret rfl rfl
                refine E_callV (v := some (.int (-1))) (As := [.ref 65, .int (nI a1k), .int (nI a2k)]) (r0 := []) (cs2 := (ww im lf s d k ls rf rz ra rn rq lt m1 m2 m3 m4 bd (fc.set 6 ((fc.getD 6 0) + (nI 1))) hd sz el s g fm hm so si sh ce ca td wa kp la (lsF (bst s (qPs s 99 (qN s)) (qN s) (2 ^ qN s))) oo bo pw ow tr)) rfl rfl rfl (Nat.le_of_ble_eq_true rfl) rfl (ab_rvOf w65 rfl) e2 (by decide) rfl ?_
                refine E_goto (t := 45) rfl rfl ?_
                refine E_istore_n (L2 := [some (.ref 65), some (.int (nI a1k)), some (.int (nI a2k)), some (.int (-1))]) rfl rfl ?_
                refine E_iload_n rfl rfl ?_
                refine E_iconst (x := (-1)) rfl (by decide) ?_
                refine E_ic (t := 58) (b := false) rfl rfl (by decide) ?_
                refine E_aload_n rfl rfl ?_
                refine E_bipush (x := (-6)) rfl (by decide) ?_
                refine E_callV (v := some (.int (-6))) (As := [.ref 65, .int (-6)]) (r0 := []) (cs2 := (ww im lf s d k ls rf rz ra rn rq lt m1 m2 m3 m4 bd (fc.set 6 ((fc.getD 6 0) + (nI 1))) hd sz el s g (fm.set 6 ((fm.getD 6 0) + (nI 1))) hm so si sh ce ca td wa kp la (lsF (bst s (qPs s 99 (qN s)) (qN s) (2 ^ qN s))) oo bo pw ow tr)) rfl rfl rfl (Nat.le_of_ble_eq_true rfl) rfl (ab_rvOf w65 rfl) (L28_X6_no (by omega)) (by decide) w_lens ?_
                exact E_iret rfl rfl
              · exact ⟨I, rfl, hf, ⟨⟨d0, d1, d2, d3, d4, d5, d6, d7, d8⟩, ⟨k0, k1, k2, k3, k4, k5, k6, k7, k8⟩, ⟨r0, r1, r2, r3, r4, r5, r6, r7, r8⟩⟩, iM, iT, iS, l_el, l_ls, l_lt, l_bd, (by simp only [List.length_set]; exact l_fc), (by simp only [List.length_set]; exact l_fm), l_hm, l_so, l_si, l_sh, l_ce, l_ca, l_td, l_wa, l_kp, l_la, (lsF_len _), l_oo, l_bo, l_pw, l_ow, l_tr⟩
          · by_cases f5 : a2k < (qPr s a1k ((qW s).getD a1k 0))
            · have er2 : (qR s).toInt = 0 := by rw [er]; rfl
              have := I2 a1k (by omega)
              have := qPr_in I a1k (w := ((qW s).getD a1k 0)) (by omega)
              have := qPs_in s 99 (i := qN s) (by omega)
              refine ⟨(-6), (im, lf, s, d, k, ls, rf, rz, ra, rn, rq, lt, m1, m2, m3, m4, bd, (fc.set 6 ((fc.getD 6 0) + (nI 1))), hd, sz, el, s, g, fm, hm, so, si, sh, ce, ca, td, wa, kp, la, bf, oo, bo, pw, ow, tr), (im, lf, s, d, k, ls, rf, rz, ra, rn, rq, lt, m1, m2, m3, m4, bd, (fc.set 6 ((fc.getD 6 0) + (nI 1))), hd, sz, el, s, g, (fm.set 6 ((fm.getD 6 0) + (nI 1))), hm, so, si, sh, ce, ca, td, wa, kp, la, (lsF (bst s (qPs s 99 (qN s)) (qN s) (2 ^ qN s))), oo, bo, pw, ow, tr), ?_, ?_, ?_⟩
              · show Ev ab_Z0 6 106 [.ref 0, .int (nI a1k), .int (nI a2k)] (ww im lf s d k ls rf rz ra rn rq lt m1 m2 m3 m4 bd fc hd sz el s g fm hm so si sh ce ca td wa kp la bf oo bo pw ow tr) (some (.int (-6)), (ww im lf s d k ls rf rz ra rn rq lt m1 m2 m3 m4 bd (fc.set 6 ((fc.getD 6 0) + (nI 1))) hd sz el s g fm hm so si sh ce ca td wa kp la bf oo bo pw ow tr))
                refine Ef.in (md := mX5_cast) (L := [some (.ref 0), some (.int (nI a1k)), some (.int (nI a2k)), none]) rfl (Nat.le_of_ble_eq_true rfl) rfl ?_
                refine E_aload_n rfl rfl ?_
                refine E_getfield (v := .ref 1) rfl w0 rfl (by decide) rfl ?_
                refine E_iload_n rfl rfl ?_
                refine E_callV (v := some (.int (nI 1))) (As := [.ref 1, .int (nI a1k)]) (r0 := []) (cs2 := (ww im lf s d k ls rf rz ra rn rq lt m1 m2 m3 m4 bd fc hd sz el s g fm hm so si sh ce ca td wa kp la bf oo bo pw ow tr)) rfl rfl rfl (Nat.le_of_ble_eq_true rfl) rfl (ab_rvOf w1 rfl) (L0_X4_isPerson (by omega) (by omega) (by omega) (by omega)) (by decide) rfl ?_
                refine E_if (t := 17) (b := true) rfl rfl (by decide) ?_
                refine E_aload_n rfl rfl ?_
                refine E_aload_n rfl rfl ?_
                refine E_getfield (v := .ref 1) rfl w0 rfl (by decide) rfl ?_
                refine E_iload_n rfl rfl ?_
                refine E_iload_n rfl rfl ?_
                have e1 : Ev ab_Z0 4 122 [.ref 0, .ref 1, .int (nI a1k), .int (nI a2k)] (ww im lf s d k ls rf rz ra rn rq lt m1 m2 m3 m4 bd fc hd sz el s g fm hm so si sh ce ca td wa kp la bf oo bo pw ow tr) (some (.int (-1)), (ww im lf s d k ls rf rz ra rn rq lt m1 m2 m3 m4 bd fc hd sz el s g fm hm so si sh ce ca td wa kp la bf oo bo pw ow tr)) := by
                  refine Ef.in (md := mX5_throwBy) (L := [some (.ref 0), some (.ref 1), some (.int (nI a1k)), some (.int (nI a2k)), none]) rfl (Nat.le_of_ble_eq_true rfl) rfl ?_
                  refine E_aload_n rfl rfl ?_
                  refine E_iload_n rfl rfl ?_
                  refine E_callV (v := some (.int (nI 1))) (As := [.ref 1, .int (nI a1k)]) (r0 := []) (cs2 := (ww im lf s d k ls rf rz ra rn rq lt m1 m2 m3 m4 bd fc hd sz el s g fm hm so si sh ce ca td wa kp la bf oo bo pw ow tr)) rfl rfl rfl (Nat.le_of_ble_eq_true rfl) rfl (ab_rvOf w1 rfl) (L0_X4_isPerson (by omega) (by omega) (by omega) (by omega)) (by decide) rfl ?_
                  refine E_if (t := 18) (b := false) rfl rfl (by decide) ?_
                  refine E_iload_n rfl rfl ?_
                  refine E_aload_n rfl rfl ?_
                  refine E_getfield (v := .ref 6) rfl w1 rfl (by decide) rfl ?_
                  refine E_iload_n rfl rfl ?_
                  refine E_ialN (l := qU s) (v := (qU s).getD a1k 0) rfl w6 (by omega) (by omega) rfl ?_
                  refine E_ic (t := 20) (b := true) rfl rfl ((cn_le (nI_toInt (by omega)) (nI_toInt (by omega))).trans (decide_eq_true (by omega))) ?_
                  refine E_aload_n rfl rfl ?_
                  refine E_iload_n rfl rfl ?_
                  refine E_aload_n rfl rfl ?_
                  refine E_getfield (v := .ref 8) rfl w1 rfl (by decide) rfl ?_
                  refine E_iload_n rfl rfl ?_
                  refine E_ialN (l := qW s) (v := (qW s).getD a1k 0) rfl w8 (by omega) (by omega) rfl ?_
                  refine E_callV (v := some (.int (nI (qPr s a1k ((qW s).getD a1k 0))))) (As := [.ref 1, .int (nI a1k), .int (nI ((qW s).getD a1k 0))]) (r0 := []) (cs2 := (ww im lf s d k ls rf rz ra rn rq lt m1 m2 m3 m4 bd fc hd sz el s g fm hm so si sh ce ca td wa kp la bf oo bo pw ow tr)) rfl rfl rfl (Nat.le_of_ble_eq_true rfl) rfl (ab_rvOf w1 rfl) (sq_priceFor w_q1 I (by omega) (by omega)) (by decide) rfl ?_
                  refine E_istore (L2 := [some (.ref 0), some (.ref 1), some (.int (nI a1k)), some (.int (nI a2k)), some (.int (nI (qPr s a1k ((qW s).getD a1k 0))))]) rfl rfl ?_
                  refine E_iload_n rfl rfl ?_
                  refine E_iload rfl rfl ?_
                  refine E_ic (t := 43) (b := false) rfl rfl ((cn_ge (nI_toInt (by omega)) (nI_toInt (by omega))).trans (decide_eq_false (by omega))) ?_
                  refine E_iconst (x := (-1)) rfl (by decide) ?_
                  refine E_goto (t := 59) rfl rfl ?_
                  exact E_iret rfl rfl
                refine E_callV (v := some (.int (-1))) (As := [.ref 0, .ref 1, .int (nI a1k), .int (nI a2k)]) (r0 := []) (cs2 := (ww im lf s d k ls rf rz ra rn rq lt m1 m2 m3 m4 bd fc hd sz el s g fm hm so si sh ce ca td wa kp la bf oo bo pw ow tr)) rfl rfl rfl (Nat.le_of_ble_eq_true rfl) rfl (ab_rvOf w0 rfl) e1 (by decide) rfl ?_
                refine E_istore_n (L2 := [some (.ref 0), some (.int (nI a1k)), some (.int (nI a2k)), some (.int (-1))]) rfl rfl ?_
                refine E_iload_n rfl rfl ?_
                refine E_iconst (x := (-1)) rfl (by decide) ?_
                refine E_ic (t := 40) (b := false) rfl rfl (by decide) ?_
                refine E_aload_n rfl rfl ?_
                refine E_bipush (x := nI 6) rfl (by decide) ?_
                refine E_callV (v := some (.int (-6))) (As := [.ref 0, .int (nI 6)]) (r0 := []) (cs2 := (ww im lf s d k ls rf rz ra rn rq lt m1 m2 m3 m4 bd (fc.set 6 ((fc.getD 6 0) + (nI 1))) hd sz el s g fm hm so si sh ce ca td wa kp la bf oo bo pw ow tr)) rfl rfl rfl (Nat.le_of_ble_eq_true rfl) rfl (ab_rvOf w0 rfl) (L26_X5_refuse (by omega)) (by decide) w_lens ?_
                exact E_iret rfl rfl
              · show Ev ab_Z0 5 197 [.ref 65, .int (nI a1k), .int (nI a2k)] (ww im lf s d k ls rf rz ra rn rq lt m1 m2 m3 m4 bd (fc.set 6 ((fc.getD 6 0) + (nI 1))) hd sz el s g fm hm so si sh ce ca td wa kp la bf oo bo pw ow tr) (some (.int (-6)), (ww im lf s d k ls rf rz ra rn rq lt m1 m2 m3 m4 bd (fc.set 6 ((fc.getD 6 0) + (nI 1))) hd sz el s g (fm.set 6 ((fm.getD 6 0) + (nI 1))) hm so si sh ce ca td wa kp la (lsF (bst s (qPs s 99 (qN s)) (qN s) (2 ^ qN s))) oo bo pw ow tr))
                refine Ef.in (md := mX6_cast) (L := [some (.ref 65), some (.int (nI a1k)), some (.int (nI a2k)), none]) rfl (Nat.le_of_ble_eq_true rfl) rfl ?_
                refine E_aload_n rfl rfl ?_
                refine E_iload_n rfl rfl ?_
                refine E_callV (v := some (.int (nI 1))) (As := [.ref 65, .int (nI a1k)]) (r0 := []) (cs2 := (ww im lf s d k ls rf rz ra rn rq lt m1 m2 m3 m4 bd (fc.set 6 ((fc.getD 6 0) + (nI 1))) hd sz el s g fm hm so si sh ce ca td wa kp la bf oo bo pw ow tr)) rfl rfl rfl (Nat.le_of_ble_eq_true rfl) rfl (ab_rvOf w65 rfl) (L2_X6_isOne (by omega) (by omega) (by omega) (by omega)) (by decide) rfl ?_
                refine E_if (t := 14) (b := true) rfl rfl (by decide) ?_
                refine E_aload_n rfl rfl ?_
                refine E_aload_n rfl rfl ?_
                refine E_bipush (x := nI 99) rfl (by decide) ?_
                refine E_callV (v := some (.int (nI (qPs s 99 (qN s))))) (As := [.ref 65, .int (nI 99)]) (r0 := [.ref 65]) (cs2 := (ww im lf s d k ls rf rz ra rn rq lt m1 m2 m3 m4 bd (fc.set 6 ((fc.getD 6 0) + (nI 1))) hd sz el s g fm hm so si sh ce ca td wa kp la bf oo bo pw ow tr)) rfl rfl rfl (Nat.le_of_ble_eq_true rfl) rfl (ab_rvOf w65 rfl) (mo_piecesOf w_m I (by omega)) (by decide) rfl ?_
                refine E_callV (v := none) (As := [.ref 65, .int (nI (qPs s 99 (qN s)))]) (r0 := []) (cs2 := (ww im lf s d k ls rf rz ra rn rq lt m1 m2 m3 m4 bd (fc.set 6 ((fc.getD 6 0) + (nI 1))) hd sz el s g fm hm so si sh ce ca td wa kp la (lsF (bst s (qPs s 99 (qN s)) (qN s) (2 ^ qN s))) oo bo pw ow tr)) rfl rfl rfl (Nat.le_of_ble_eq_true rfl) rfl (ab_rvOf w65 rfl) (w_best (m := qPs s 99 (qN s)) I (by omega) l_bf) (by decide) w_lens ?_
                refine E_aload_n rfl rfl ?_
                refine E_iload_n rfl rfl ?_
                refine E_iconst (x := nI 0) rfl (by decide) ?_
                refine E_bipush (x := nI 99) rfl (by decide) ?_
                refine E_callV (v := some (.int (nI 1))) (As := [.ref 65, .int (nI a2k), .int (nI 0), .int (nI 99)]) (r0 := []) (cs2 := (ww im lf s d k ls rf rz ra rn rq lt m1 m2 m3 m4 bd (fc.set 6 ((fc.getD 6 0) + (nI 1))) hd sz el s g fm hm so si sh ce ca td wa kp la (lsF (bst s (qPs s 99 (qN s)) (qN s) (2 ^ qN s))) oo bo pw ow tr)) rfl rfl rfl (Nat.le_of_ble_eq_true rfl) rfl (ab_rvOf w65 rfl) (L85_X6_isFrom (by omega) (by omega) (by omega)) (by decide) rfl ?_
                refine E_if (t := 44) (b := false) rfl rfl (by decide) ?_
                refine E_aload_n rfl rfl ?_
                refine E_iload_n rfl rfl ?_
                refine E_iload_n rfl rfl ?_
                have e2 : Ev ab_Z0 2 176 [.ref 65, .int (nI a1k), .int (nI a2k)] (ww im lf s d k ls rf rz ra rn rq lt m1 m2 m3 m4 bd (fc.set 6 ((fc.getD 6 0) + (nI 1))) hd sz el s g fm hm so si sh ce ca td wa kp la (lsF (bst s (qPs s 99 (qN s)) (qN s) (2 ^ qN s))) oo bo pw ow tr) (some (.int (-1)), (ww im lf s d k ls rf rz ra rn rq lt m1 m2 m3 m4 bd (fc.set 6 ((fc.getD 6 0) + (nI 1))) hd sz el s g fm hm so si sh ce ca td wa kp la (lsF (bst s (qPs s 99 (qN s)) (qN s) (2 ^ qN s))) oo bo pw ow tr)) := by
                  refine Ef.in (md := mX6_thrown) (L := [some (.ref 65), some (.int (nI a1k)), some (.int (nI a2k)), none]) rfl (Nat.le_of_ble_eq_true rfl) rfl ?_
                  refine E_iload_n rfl rfl ?_
                  refine E_aload_n rfl rfl ?_
                  refine E_iload_n rfl rfl ?_
                  refine E_aload_n rfl rfl ?_
                  refine E_getfield (v := .ref 73) rfl w65 rfl (by decide) rfl ?_
                  refine E_iload_n rfl rfl ?_
                  refine E_ialN (l := qW s) (v := (qW s).getD a1k 0) rfl w73 (by omega) (by omega) rfl ?_
                  refine E_callV (v := some (.int (nI (qPr s a1k ((qW s).getD a1k 0))))) (As := [.ref 65, .int (nI a1k), .int (nI ((qW s).getD a1k 0))]) (r0 := [.int (nI a2k)]) (cs2 := (ww im lf s d k ls rf rz ra rn rq lt m1 m2 m3 m4 bd (fc.set 6 ((fc.getD 6 0) + (nI 1))) hd sz el s g fm hm so si sh ce ca td wa kp la (lsF (bst s (qPs s 99 (qN s)) (qN s) (2 ^ qN s))) oo bo pw ow tr)) rfl rfl rfl (Nat.le_of_ble_eq_true rfl) rfl (ab_rvOf w65 rfl) (mo_priceFor w_m I (by omega) (by omega)) (by decide) rfl ?_
                  refine E_isub (z := nI a2k - nI (qPr s a1k ((qW s).getD a1k 0))) rfl rfl ?_
                  refine E_istore_n (L2 := [some (.ref 65), some (.int (nI a1k)), some (.int (nI a2k)), some (.int (nI a2k - nI (qPr s a1k ((qW s).getD a1k 0))))]) rfl rfl ?_
                  refine E_aload_n rfl rfl ?_
                  refine E_iload_n rfl rfl ?_
                  refine E_iconst (x := nI 0) rfl (by decide) ?_
                  refine E_bipush (x := nI 99) rfl (by decide) ?_
                  refine E_callV (v := some (.int (nI 1))) (As := [.ref 65, .int (nI a2k), .int (nI 0), .int (nI 99)]) (r0 := []) (cs2 := (ww im lf s d k ls rf rz ra rn rq lt m1 m2 m3 m4 bd (fc.set 6 ((fc.getD 6 0) + (nI 1))) hd sz el s g fm hm so si sh ce ca td wa kp la (lsF (bst s (qPs s 99 (qN s)) (qN s) (2 ^ qN s))) oo bo pw ow tr)) rfl rfl rfl (Nat.le_of_ble_eq_true rfl) rfl (ab_rvOf w65 rfl) (L85_X6_isFrom (by omega) (by omega) (by omega)) (by decide) rfl ?_
                  refine E_if (t := 39) (b := false) rfl rfl (by decide) ?_
                  refine E_iload_n rfl rfl ?_
                  refine E_aload_n rfl rfl ?_
                  refine E_getfield (v := .ref 71) rfl w65 rfl (by decide) rfl ?_
                  refine E_iload_n rfl rfl ?_
                  refine E_ialN (l := qU s) (v := (qU s).getD a1k 0) rfl w71 (by omega) (by omega) rfl ?_
                  refine E_ic (t := 39) (b := false) rfl rfl ((cn_gt (nI_toInt (by omega)) (nI_toInt (by omega))).trans (decide_eq_false (by omega))) ?_
                  refine E_iload_n rfl rfl ?_
                  refine E_if (t := 43) (b := false) rfl rfl ((cn_ge (ab_subI (by omega) (by omega)) (by decide : (0 : Int32).toInt = 0)).trans (decide_eq_false (by omega))) ?_
                  refine E_iconst (x := (-1)) rfl (by decide) ?_
                  refine E_goto (t := 48) rfl rfl ?_
                  exact E_iret rfl rfl
                refine E_callV (v := some (.int (-1))) (As := [.ref 65, .int (nI a1k), .int (nI a2k)]) (r0 := []) (cs2 := (ww im lf s d k ls rf rz ra rn rq lt m1 m2 m3 m4 bd (fc.set 6 ((fc.getD 6 0) + (nI 1))) hd sz el s g fm hm so si sh ce ca td wa kp la (lsF (bst s (qPs s 99 (qN s)) (qN s) (2 ^ qN s))) oo bo pw ow tr)) rfl rfl rfl (Nat.le_of_ble_eq_true rfl) rfl (ab_rvOf w65 rfl) e2 (by decide) rfl ?_
                refine E_goto (t := 45) rfl rfl ?_
                refine E_istore_n (L2 := [some (.ref 65), some (.int (nI a1k)), some (.int (nI a2k)), some (.int (-1))]) rfl rfl ?_
                refine E_iload_n rfl rfl ?_
                refine E_iconst (x := (-1)) rfl (by decide) ?_
                refine E_ic (t := 58) (b := false) rfl rfl (by decide) ?_
                refine E_aload_n rfl rfl ?_
                refine E_bipush (x := (-6)) rfl (by decide) ?_
                refine E_callV (v := some (.int (-6))) (As := [.ref 65, .int (-6)]) (r0 := []) (cs2 := (ww im lf s d k ls rf rz ra rn rq lt m1 m2 m3 m4 bd (fc.set 6 ((fc.getD 6 0) + (nI 1))) hd sz el s g (fm.set 6 ((fm.getD 6 0) + (nI 1))) hm so si sh ce ca td wa kp la (lsF (bst s (qPs s 99 (qN s)) (qN s) (2 ^ qN s))) oo bo pw ow tr)) rfl rfl rfl (Nat.le_of_ble_eq_true rfl) rfl (ab_rvOf w65 rfl) (L28_X6_no (by omega)) (by decide) w_lens ?_
                exact E_iret rfl rfl
              · exact ⟨I, rfl, hf, ⟨⟨d0, d1, d2, d3, d4, d5, d6, d7, d8⟩, ⟨k0, k1, k2, k3, k4, k5, k6, k7, k8⟩, ⟨r0, r1, r2, r3, r4, r5, r6, r7, r8⟩⟩, iM, iT, iS, l_el, l_ls, l_lt, l_bd, (by simp only [List.length_set]; exact l_fc), (by simp only [List.length_set]; exact l_fm), l_hm, l_so, l_si, l_sh, l_ce, l_ca, l_td, l_wa, l_kp, l_la, (lsF_len _), l_oo, l_bo, l_pw, l_ow, l_tr⟩
            · rcases wgh_bst s (qPs s 99 (qN s)) (qN s) (a2k - (qPr s a1k ((qW s).getD a1k 0))) with ⟨eb0, fb0⟩ | ⟨B0, hB0, hs0, hw0, hb0, hk0⟩
              · have er2 : (qR s).toInt = 0 := by rw [er]; rfl
                have := I2 a1k (by omega)
                have := qPr_in I a1k (w := ((qW s).getD a1k 0)) (by omega)
                have := qPs_in s 99 (i := qN s) (by omega)
                have := lsF_len (wgh s (qPs s 99 (qN s)) (qN s))
                have := lsF_len (bst s (qPs s 99 (qN s)) (qN s) (2 ^ qN s))
                refine ⟨(-6), (im, lf, s, d, k, (lsF (wgh s (qPs s 99 (qN s)) (qN s))), rf, rz, ra, rn, rq, lt, m1, m2, m3, m4, bd, (fc.set 6 ((fc.getD 6 0) + (nI 1))), hd, sz, el, s, g, fm, hm, so, si, sh, ce, ca, td, wa, kp, la, bf, oo, bo, pw, ow, tr), (im, lf, s, d, k, (lsF (wgh s (qPs s 99 (qN s)) (qN s))), rf, rz, ra, rn, rq, lt, m1, m2, m3, m4, bd, (fc.set 6 ((fc.getD 6 0) + (nI 1))), hd, sz, el, s, g, (fm.set 6 ((fm.getD 6 0) + (nI 1))), hm, so, si, sh, ce, ca, td, wa, kp, la, (lsF (bst s (qPs s 99 (qN s)) (qN s) (2 ^ qN s))), oo, bo, pw, ow, tr), ?_, ?_, ?_⟩
                · show Ev ab_Z0 6 106 [.ref 0, .int (nI a1k), .int (nI a2k)] (ww im lf s d k ls rf rz ra rn rq lt m1 m2 m3 m4 bd fc hd sz el s g fm hm so si sh ce ca td wa kp la bf oo bo pw ow tr) (some (.int (-6)), (ww im lf s d k (lsF (wgh s (qPs s 99 (qN s)) (qN s))) rf rz ra rn rq lt m1 m2 m3 m4 bd (fc.set 6 ((fc.getD 6 0) + (nI 1))) hd sz el s g fm hm so si sh ce ca td wa kp la bf oo bo pw ow tr))
                  refine Ef.in (md := mX5_cast) (L := [some (.ref 0), some (.int (nI a1k)), some (.int (nI a2k)), none]) rfl (Nat.le_of_ble_eq_true rfl) rfl ?_
                  refine E_aload_n rfl rfl ?_
                  refine E_getfield (v := .ref 1) rfl w0 rfl (by decide) rfl ?_
                  refine E_iload_n rfl rfl ?_
                  refine E_callV (v := some (.int (nI 1))) (As := [.ref 1, .int (nI a1k)]) (r0 := []) (cs2 := (ww im lf s d k ls rf rz ra rn rq lt m1 m2 m3 m4 bd fc hd sz el s g fm hm so si sh ce ca td wa kp la bf oo bo pw ow tr)) rfl rfl rfl (Nat.le_of_ble_eq_true rfl) rfl (ab_rvOf w1 rfl) (L0_X4_isPerson (by omega) (by omega) (by omega) (by omega)) (by decide) rfl ?_
                  refine E_if (t := 17) (b := true) rfl rfl (by decide) ?_
                  refine E_aload_n rfl rfl ?_
                  refine E_aload_n rfl rfl ?_
                  refine E_getfield (v := .ref 1) rfl w0 rfl (by decide) rfl ?_
                  refine E_iload_n rfl rfl ?_
                  refine E_iload_n rfl rfl ?_
                  have e3 : Ev ab_Z0 4 122 [.ref 0, .ref 1, .int (nI a1k), .int (nI a2k)] (ww im lf s d k ls rf rz ra rn rq lt m1 m2 m3 m4 bd fc hd sz el s g fm hm so si sh ce ca td wa kp la bf oo bo pw ow tr) (some (.int (-1)), (ww im lf s d k (lsF (wgh s (qPs s 99 (qN s)) (qN s))) rf rz ra rn rq lt m1 m2 m3 m4 bd fc hd sz el s g fm hm so si sh ce ca td wa kp la bf oo bo pw ow tr)) := by
                    refine Ef.in (md := mX5_throwBy) (L := [some (.ref 0), some (.ref 1), some (.int (nI a1k)), some (.int (nI a2k)), none]) rfl (Nat.le_of_ble_eq_true rfl) rfl ?_
                    refine E_aload_n rfl rfl ?_
                    refine E_iload_n rfl rfl ?_
                    refine E_callV (v := some (.int (nI 1))) (As := [.ref 1, .int (nI a1k)]) (r0 := []) (cs2 := (ww im lf s d k ls rf rz ra rn rq lt m1 m2 m3 m4 bd fc hd sz el s g fm hm so si sh ce ca td wa kp la bf oo bo pw ow tr)) rfl rfl rfl (Nat.le_of_ble_eq_true rfl) rfl (ab_rvOf w1 rfl) (L0_X4_isPerson (by omega) (by omega) (by omega) (by omega)) (by decide) rfl ?_
                    refine E_if (t := 18) (b := false) rfl rfl (by decide) ?_
                    refine E_iload_n rfl rfl ?_
                    refine E_aload_n rfl rfl ?_
                    refine E_getfield (v := .ref 6) rfl w1 rfl (by decide) rfl ?_
                    refine E_iload_n rfl rfl ?_
                    refine E_ialN (l := qU s) (v := (qU s).getD a1k 0) rfl w6 (by omega) (by omega) rfl ?_
                    refine E_ic (t := 20) (b := true) rfl rfl ((cn_le (nI_toInt (by omega)) (nI_toInt (by omega))).trans (decide_eq_true (by omega))) ?_
                    refine E_aload_n rfl rfl ?_
                    refine E_iload_n rfl rfl ?_
                    refine E_aload_n rfl rfl ?_
                    refine E_getfield (v := .ref 8) rfl w1 rfl (by decide) rfl ?_
                    refine E_iload_n rfl rfl ?_
                    refine E_ialN (l := qW s) (v := (qW s).getD a1k 0) rfl w8 (by omega) (by omega) rfl ?_
                    refine E_callV (v := some (.int (nI (qPr s a1k ((qW s).getD a1k 0))))) (As := [.ref 1, .int (nI a1k), .int (nI ((qW s).getD a1k 0))]) (r0 := []) (cs2 := (ww im lf s d k ls rf rz ra rn rq lt m1 m2 m3 m4 bd fc hd sz el s g fm hm so si sh ce ca td wa kp la bf oo bo pw ow tr)) rfl rfl rfl (Nat.le_of_ble_eq_true rfl) rfl (ab_rvOf w1 rfl) (sq_priceFor w_q1 I (by omega) (by omega)) (by decide) rfl ?_
                    refine E_istore (L2 := [some (.ref 0), some (.ref 1), some (.int (nI a1k)), some (.int (nI a2k)), some (.int (nI (qPr s a1k ((qW s).getD a1k 0))))]) rfl rfl ?_
                    refine E_iload_n rfl rfl ?_
                    refine E_iload rfl rfl ?_
                    refine E_ic (t := 43) (b := true) rfl rfl ((cn_ge (nI_toInt (by omega)) (nI_toInt (by omega))).trans (decide_eq_true (by omega))) ?_
                    refine E_aload_n rfl rfl ?_
                    refine E_getfield (v := .ref 32) rfl w0 rfl (by decide) rfl ?_
                    refine E_aload_n rfl rfl ?_
                    refine E_aload_n rfl rfl ?_
                    refine E_getfield (v := .int (qR s)) rfl w1 rfl (by decide) rfl ?_
                    refine E_iload_n rfl rfl ?_
                    refine E_iload rfl rfl ?_
                    refine E_isub (z := nI (a2k - (qPr s a1k ((qW s).getD a1k 0)))) rfl (pk_sub (by omega)) ?_
                    have e2 : Ev ab_Z0 3 1 [.ref 32, .ref 1, .int (qR s), .int (nI (a2k - (qPr s a1k ((qW s).getD a1k 0))))] (ww im lf s d k ls rf rz ra rn rq lt m1 m2 m3 m4 bd fc hd sz el s g fm hm so si sh ce ca td wa kp la bf oo bo pw ow tr) (some (.int (-1)), (ww im lf s d k (lsF (wgh s (qPs s 99 (qN s)) (qN s))) rf rz ra rn rq lt m1 m2 m3 m4 bd fc hd sz el s g fm hm so si sh ce ca td wa kp la bf oo bo pw ow tr)) := by
                      refine Ef.in (md := mX0_bitsBy) (L := [some (.ref 32), some (.ref 1), some (.int (qR s)), some (.int (nI (a2k - (qPr s a1k ((qW s).getD a1k 0)))))]) rfl (Nat.le_of_ble_eq_true rfl) rfl ?_
                      refine E_iload_n rfl rfl ?_
                      refine E_iconst (x := nI 1) rfl (by decide) ?_
                      refine E_ic (t := 11) (b := true) rfl rfl ((cn_ne rfl (nI_toInt (by omega))).trans (decide_eq_true (by omega))) ?_
                      refine E_aload_n rfl rfl ?_
                      refine E_aload_n rfl rfl ?_
                      refine E_aload_n rfl rfl ?_
                      refine E_callV (v := some (.int (nI (qPs s 99 (qN s))))) (As := [.ref 1]) (r0 := [.ref 1, .ref 32]) (cs2 := (ww im lf s d k ls rf rz ra rn rq lt m1 m2 m3 m4 bd fc hd sz el s g fm hm so si sh ce ca td wa kp la bf oo bo pw ow tr)) rfl rfl rfl (Nat.le_of_ble_eq_true rfl) rfl (ab_rvOf w1 rfl) (sq_basin w_q1 I) (by decide) rfl ?_
                      refine E_callV (v := none) (As := [.ref 32, .ref 1, .int (nI (qPs s 99 (qN s)))]) (r0 := []) (cs2 := (ww im lf s d k (lsF (wgh s (qPs s 99 (qN s)) (qN s))) rf rz ra rn rq lt m1 m2 m3 m4 bd fc hd sz el s g fm hm so si sh ce ca td wa kp la bf oo bo pw ow tr)) rfl rfl rfl (Nat.le_of_ble_eq_true rfl) rfl (ab_rvOf w32 rfl) (w_weigh1 (m := qPs s 99 (qN s)) I (by omega) l_ls) (by decide) w_lens ?_
                      refine E_aload_n rfl rfl ?_
                      refine E_iload_n rfl rfl ?_
                      have e1 : Ev ab_Z0 2 4 [.ref 32, .int (nI (a2k - (qPr s a1k ((qW s).getD a1k 0))))] (ww im lf s d k (lsF (wgh s (qPs s 99 (qN s)) (qN s))) rf rz ra rn rq lt m1 m2 m3 m4 bd fc hd sz el s g fm hm so si sh ce ca td wa kp la bf oo bo pw ow tr) (some (.int (-1)), (ww im lf s d k (lsF (wgh s (qPs s 99 (qN s)) (qN s))) rf rz ra rn rq lt m1 m2 m3 m4 bd fc hd sz el s g fm hm so si sh ce ca td wa kp la bf oo bo pw ow tr)) := by
                        refine Ef.in (md := mX0_fewestFor) (L := [some (.ref 32), some (.int (nI (a2k - (qPr s a1k ((qW s).getD a1k 0)))))]) rfl (Nat.le_of_ble_eq_true rfl) rfl ?_
                        refine E_iload_n rfl rfl ?_
                        refine E_callS (v := some (.int (nI 1))) (As := [.int (nI (a2k - (qPr s a1k ((qW s).getD a1k 0))))]) (r0 := []) (cs2 := (ww im lf s d k (lsF (wgh s (qPs s 99 (qN s)) (qN s))) rf rz ra rn rq lt m1 m2 m3 m4 bd fc hd sz el s g fm hm so si sh ce ca td wa kp la bf oo bo pw ow tr)) rfl rfl rfl (Nat.le_of_ble_eq_true rfl) rfl (L97_X4_isAmount (by omega) (by omega) (by omega)) (by decide) rfl ?_
                        refine E_if (t := 17) (b := false) rfl rfl (by decide) ?_
                        refine E_aload_n rfl rfl ?_
                        refine E_getfield (v := .ref 33) rfl w32 rfl (by decide) rfl ?_
                        refine E_iload_n rfl rfl ?_
                        refine E_ialI (l := (lsF (wgh s (qPs s 99 (qN s)) (qN s)))) (v := (-1)) rfl w33 (by omega) (by omega) (by rw [lsF_get (by omega), eb0]; rfl) ?_
                        refine E_iconst (x := (-1)) rfl (by decide) ?_
                        refine E_ic (t := 19) (b := false) rfl rfl (by decide) ?_
                        refine E_iconst (x := (-1)) rfl (by decide) ?_
                        exact E_iret rfl rfl
                      refine E_callV (v := some (.int (-1))) (As := [.ref 32, .int (nI (a2k - (qPr s a1k ((qW s).getD a1k 0))))]) (r0 := []) (cs2 := (ww im lf s d k (lsF (wgh s (qPs s 99 (qN s)) (qN s))) rf rz ra rn rq lt m1 m2 m3 m4 bd fc hd sz el s g fm hm so si sh ce ca td wa kp la bf oo bo pw ow tr)) rfl rfl rfl (Nat.le_of_ble_eq_true rfl) rfl (ab_rvOf w32 rfl) e1 (by decide) rfl ?_
                      exact E_iret rfl rfl
                    refine E_callV (v := some (.int (-1))) (As := [.ref 32, .ref 1, .int (qR s), .int (nI (a2k - (qPr s a1k ((qW s).getD a1k 0))))]) (r0 := []) (cs2 := (ww im lf s d k (lsF (wgh s (qPs s 99 (qN s)) (qN s))) rf rz ra rn rq lt m1 m2 m3 m4 bd fc hd sz el s g fm hm so si sh ce ca td wa kp la bf oo bo pw ow tr)) rfl rfl rfl (Nat.le_of_ble_eq_true rfl) rfl (ab_rvOf w32 rfl) e2 (by decide) w_lens ?_
                    exact E_iret rfl rfl
                  refine E_callV (v := some (.int (-1))) (As := [.ref 0, .ref 1, .int (nI a1k), .int (nI a2k)]) (r0 := []) (cs2 := (ww im lf s d k (lsF (wgh s (qPs s 99 (qN s)) (qN s))) rf rz ra rn rq lt m1 m2 m3 m4 bd fc hd sz el s g fm hm so si sh ce ca td wa kp la bf oo bo pw ow tr)) rfl rfl rfl (Nat.le_of_ble_eq_true rfl) rfl (ab_rvOf w0 rfl) e3 (by decide) w_lens ?_
                  refine E_istore_n (L2 := [some (.ref 0), some (.int (nI a1k)), some (.int (nI a2k)), some (.int (-1))]) rfl rfl ?_
                  refine E_iload_n rfl rfl ?_
                  refine E_iconst (x := (-1)) rfl (by decide) ?_
                  refine E_ic (t := 40) (b := false) rfl rfl (by decide) ?_
                  refine E_aload_n rfl rfl ?_
                  refine E_bipush (x := nI 6) rfl (by decide) ?_
                  refine E_callV (v := some (.int (-6))) (As := [.ref 0, .int (nI 6)]) (r0 := []) (cs2 := (ww im lf s d k (lsF (wgh s (qPs s 99 (qN s)) (qN s))) rf rz ra rn rq lt m1 m2 m3 m4 bd (fc.set 6 ((fc.getD 6 0) + (nI 1))) hd sz el s g fm hm so si sh ce ca td wa kp la bf oo bo pw ow tr)) rfl rfl rfl (Nat.le_of_ble_eq_true rfl) rfl (ab_rvOf w0 rfl) (L26_X5_refuse (by omega)) (by decide) w_lens ?_
                  exact E_iret rfl rfl
                · show Ev ab_Z0 5 197 [.ref 65, .int (nI a1k), .int (nI a2k)] (ww im lf s d k (lsF (wgh s (qPs s 99 (qN s)) (qN s))) rf rz ra rn rq lt m1 m2 m3 m4 bd (fc.set 6 ((fc.getD 6 0) + (nI 1))) hd sz el s g fm hm so si sh ce ca td wa kp la bf oo bo pw ow tr) (some (.int (-6)), (ww im lf s d k (lsF (wgh s (qPs s 99 (qN s)) (qN s))) rf rz ra rn rq lt m1 m2 m3 m4 bd (fc.set 6 ((fc.getD 6 0) + (nI 1))) hd sz el s g (fm.set 6 ((fm.getD 6 0) + (nI 1))) hm so si sh ce ca td wa kp la (lsF (bst s (qPs s 99 (qN s)) (qN s) (2 ^ qN s))) oo bo pw ow tr))
                  refine Ef.in (md := mX6_cast) (L := [some (.ref 65), some (.int (nI a1k)), some (.int (nI a2k)), none]) rfl (Nat.le_of_ble_eq_true rfl) rfl ?_
                  refine E_aload_n rfl rfl ?_
                  refine E_iload_n rfl rfl ?_
                  refine E_callV (v := some (.int (nI 1))) (As := [.ref 65, .int (nI a1k)]) (r0 := []) (cs2 := (ww im lf s d k (lsF (wgh s (qPs s 99 (qN s)) (qN s))) rf rz ra rn rq lt m1 m2 m3 m4 bd (fc.set 6 ((fc.getD 6 0) + (nI 1))) hd sz el s g fm hm so si sh ce ca td wa kp la bf oo bo pw ow tr)) rfl rfl rfl (Nat.le_of_ble_eq_true rfl) rfl (ab_rvOf w65 rfl) (L2_X6_isOne (by omega) (by omega) (by omega) (by omega)) (by decide) rfl ?_
                  refine E_if (t := 14) (b := true) rfl rfl (by decide) ?_
                  refine E_aload_n rfl rfl ?_
                  refine E_aload_n rfl rfl ?_
                  refine E_bipush (x := nI 99) rfl (by decide) ?_
                  refine E_callV (v := some (.int (nI (qPs s 99 (qN s))))) (As := [.ref 65, .int (nI 99)]) (r0 := [.ref 65]) (cs2 := (ww im lf s d k (lsF (wgh s (qPs s 99 (qN s)) (qN s))) rf rz ra rn rq lt m1 m2 m3 m4 bd (fc.set 6 ((fc.getD 6 0) + (nI 1))) hd sz el s g fm hm so si sh ce ca td wa kp la bf oo bo pw ow tr)) rfl rfl rfl (Nat.le_of_ble_eq_true rfl) rfl (ab_rvOf w65 rfl) (mo_piecesOf w_m I (by omega)) (by decide) rfl ?_
                  refine E_callV (v := none) (As := [.ref 65, .int (nI (qPs s 99 (qN s)))]) (r0 := []) (cs2 := (ww im lf s d k (lsF (wgh s (qPs s 99 (qN s)) (qN s))) rf rz ra rn rq lt m1 m2 m3 m4 bd (fc.set 6 ((fc.getD 6 0) + (nI 1))) hd sz el s g fm hm so si sh ce ca td wa kp la (lsF (bst s (qPs s 99 (qN s)) (qN s) (2 ^ qN s))) oo bo pw ow tr)) rfl rfl rfl (Nat.le_of_ble_eq_true rfl) rfl (ab_rvOf w65 rfl) (w_best (m := qPs s 99 (qN s)) I (by omega) l_bf) (by decide) w_lens ?_
                  refine E_aload_n rfl rfl ?_
                  refine E_iload_n rfl rfl ?_
                  refine E_iconst (x := nI 0) rfl (by decide) ?_
                  refine E_bipush (x := nI 99) rfl (by decide) ?_
                  refine E_callV (v := some (.int (nI 1))) (As := [.ref 65, .int (nI a2k), .int (nI 0), .int (nI 99)]) (r0 := []) (cs2 := (ww im lf s d k (lsF (wgh s (qPs s 99 (qN s)) (qN s))) rf rz ra rn rq lt m1 m2 m3 m4 bd (fc.set 6 ((fc.getD 6 0) + (nI 1))) hd sz el s g fm hm so si sh ce ca td wa kp la (lsF (bst s (qPs s 99 (qN s)) (qN s) (2 ^ qN s))) oo bo pw ow tr)) rfl rfl rfl (Nat.le_of_ble_eq_true rfl) rfl (ab_rvOf w65 rfl) (L85_X6_isFrom (by omega) (by omega) (by omega)) (by decide) rfl ?_
                  refine E_if (t := 44) (b := false) rfl rfl (by decide) ?_
                  refine E_aload_n rfl rfl ?_
                  refine E_iload_n rfl rfl ?_
                  refine E_iload_n rfl rfl ?_
                  have e5 : Ev ab_Z0 2 176 [.ref 65, .int (nI a1k), .int (nI a2k)] (ww im lf s d k (lsF (wgh s (qPs s 99 (qN s)) (qN s))) rf rz ra rn rq lt m1 m2 m3 m4 bd (fc.set 6 ((fc.getD 6 0) + (nI 1))) hd sz el s g fm hm so si sh ce ca td wa kp la (lsF (bst s (qPs s 99 (qN s)) (qN s) (2 ^ qN s))) oo bo pw ow tr) (some (.int (-1)), (ww im lf s d k (lsF (wgh s (qPs s 99 (qN s)) (qN s))) rf rz ra rn rq lt m1 m2 m3 m4 bd (fc.set 6 ((fc.getD 6 0) + (nI 1))) hd sz el s g fm hm so si sh ce ca td wa kp la (lsF (bst s (qPs s 99 (qN s)) (qN s) (2 ^ qN s))) oo bo pw ow tr)) := by
                    refine Ef.in (md := mX6_thrown) (L := [some (.ref 65), some (.int (nI a1k)), some (.int (nI a2k)), none]) rfl (Nat.le_of_ble_eq_true rfl) rfl ?_
                    refine E_iload_n rfl rfl ?_
                    refine E_aload_n rfl rfl ?_
                    refine E_iload_n rfl rfl ?_
                    refine E_aload_n rfl rfl ?_
                    refine E_getfield (v := .ref 73) rfl w65 rfl (by decide) rfl ?_
                    refine E_iload_n rfl rfl ?_
                    refine E_ialN (l := qW s) (v := (qW s).getD a1k 0) rfl w73 (by omega) (by omega) rfl ?_
                    refine E_callV (v := some (.int (nI (qPr s a1k ((qW s).getD a1k 0))))) (As := [.ref 65, .int (nI a1k), .int (nI ((qW s).getD a1k 0))]) (r0 := [.int (nI a2k)]) (cs2 := (ww im lf s d k (lsF (wgh s (qPs s 99 (qN s)) (qN s))) rf rz ra rn rq lt m1 m2 m3 m4 bd (fc.set 6 ((fc.getD 6 0) + (nI 1))) hd sz el s g fm hm so si sh ce ca td wa kp la (lsF (bst s (qPs s 99 (qN s)) (qN s) (2 ^ qN s))) oo bo pw ow tr)) rfl rfl rfl (Nat.le_of_ble_eq_true rfl) rfl (ab_rvOf w65 rfl) (mo_priceFor w_m I (by omega) (by omega)) (by decide) rfl ?_
                    refine E_isub (z := nI (a2k - (qPr s a1k ((qW s).getD a1k 0)))) rfl (pk_sub (by omega)) ?_
                    refine E_istore_n (L2 := [some (.ref 65), some (.int (nI a1k)), some (.int (nI a2k)), some (.int (nI (a2k - (qPr s a1k ((qW s).getD a1k 0)))))]) rfl rfl ?_
                    refine E_aload_n rfl rfl ?_
                    refine E_iload_n rfl rfl ?_
                    refine E_iconst (x := nI 0) rfl (by decide) ?_
                    refine E_bipush (x := nI 99) rfl (by decide) ?_
                    refine E_callV (v := some (.int (nI 1))) (As := [.ref 65, .int (nI a2k), .int (nI 0), .int (nI 99)]) (r0 := []) (cs2 := (ww im lf s d k (lsF (wgh s (qPs s 99 (qN s)) (qN s))) rf rz ra rn rq lt m1 m2 m3 m4 bd (fc.set 6 ((fc.getD 6 0) + (nI 1))) hd sz el s g fm hm so si sh ce ca td wa kp la (lsF (bst s (qPs s 99 (qN s)) (qN s) (2 ^ qN s))) oo bo pw ow tr)) rfl rfl rfl (Nat.le_of_ble_eq_true rfl) rfl (ab_rvOf w65 rfl) (L85_X6_isFrom (by omega) (by omega) (by omega)) (by decide) rfl ?_
                    refine E_if (t := 39) (b := false) rfl rfl (by decide) ?_
                    refine E_iload_n rfl rfl ?_
                    refine E_aload_n rfl rfl ?_
                    refine E_getfield (v := .ref 71) rfl w65 rfl (by decide) rfl ?_
                    refine E_iload_n rfl rfl ?_
                    refine E_ialN (l := qU s) (v := (qU s).getD a1k 0) rfl w71 (by omega) (by omega) rfl ?_
                    refine E_ic (t := 39) (b := false) rfl rfl ((cn_gt (nI_toInt (by omega)) (nI_toInt (by omega))).trans (decide_eq_false (by omega))) ?_
                    refine E_iload_n rfl rfl ?_
                    refine E_if (t := 43) (b := true) rfl rfl ((cn_ge (nI_toInt (by omega)) (by decide : (0 : Int32).toInt = 0)).trans (decide_eq_true (by omega))) ?_
                    refine E_aload_n rfl rfl ?_
                    refine E_iload_n rfl rfl ?_
                    have e4 : Ev ab_Z0 1 172 [.ref 65, .int (nI (a2k - (qPr s a1k ((qW s).getD a1k 0))))] (ww im lf s d k (lsF (wgh s (qPs s 99 (qN s)) (qN s))) rf rz ra rn rq lt m1 m2 m3 m4 bd (fc.set 6 ((fc.getD 6 0) + (nI 1))) hd sz el s g fm hm so si sh ce ca td wa kp la (lsF (bst s (qPs s 99 (qN s)) (qN s) (2 ^ qN s))) oo bo pw ow tr) (some (.int (-1)), (ww im lf s d k (lsF (wgh s (qPs s 99 (qN s)) (qN s))) rf rz ra rn rq lt m1 m2 m3 m4 bd (fc.set 6 ((fc.getD 6 0) + (nI 1))) hd sz el s g fm hm so si sh ce ca td wa kp la (lsF (bst s (qPs s 99 (qN s)) (qN s) (2 ^ qN s))) oo bo pw ow tr)) := by
                      refine Ef.in (md := mX6_changeFor) (L := [some (.ref 65), some (.int (nI (a2k - (qPr s a1k ((qW s).getD a1k 0)))))]) rfl (Nat.le_of_ble_eq_true rfl) rfl ?_
                      refine E_aload_n rfl rfl ?_
                      refine E_getfield (v := .int (qR s)) rfl w65 rfl (by decide) rfl ?_
                      refine E_if (t := 16) (b := false) rfl rfl ((cn_ne rfl (by decide : (0 : Int32).toInt = 0)).trans (decide_eq_false (by omega))) ?_
                      refine E_aload_n rfl rfl ?_
                      refine E_getfield (v := .ref 89) rfl w65 rfl (by decide) rfl ?_
                      refine E_iload_n rfl rfl ?_
                      refine E_ialI (l := (lsF (bst s (qPs s 99 (qN s)) (qN s) (2 ^ qN s)))) (v := (-1)) rfl w89 (by omega) (by omega) (by rw [lsF_get (by omega), fb0]; rfl) ?_
                      refine E_goto (t := 21) rfl rfl ?_
                      exact E_iret rfl rfl
                    refine E_callV (v := some (.int (-1))) (As := [.ref 65, .int (nI (a2k - (qPr s a1k ((qW s).getD a1k 0))))]) (r0 := []) (cs2 := (ww im lf s d k (lsF (wgh s (qPs s 99 (qN s)) (qN s))) rf rz ra rn rq lt m1 m2 m3 m4 bd (fc.set 6 ((fc.getD 6 0) + (nI 1))) hd sz el s g fm hm so si sh ce ca td wa kp la (lsF (bst s (qPs s 99 (qN s)) (qN s) (2 ^ qN s))) oo bo pw ow tr)) rfl rfl rfl (Nat.le_of_ble_eq_true rfl) rfl (ab_rvOf w65 rfl) e4 (by decide) rfl ?_
                    exact E_iret rfl rfl
                  refine E_callV (v := some (.int (-1))) (As := [.ref 65, .int (nI a1k), .int (nI a2k)]) (r0 := []) (cs2 := (ww im lf s d k (lsF (wgh s (qPs s 99 (qN s)) (qN s))) rf rz ra rn rq lt m1 m2 m3 m4 bd (fc.set 6 ((fc.getD 6 0) + (nI 1))) hd sz el s g fm hm so si sh ce ca td wa kp la (lsF (bst s (qPs s 99 (qN s)) (qN s) (2 ^ qN s))) oo bo pw ow tr)) rfl rfl rfl (Nat.le_of_ble_eq_true rfl) rfl (ab_rvOf w65 rfl) e5 (by decide) rfl ?_
                  refine E_goto (t := 45) rfl rfl ?_
                  refine E_istore_n (L2 := [some (.ref 65), some (.int (nI a1k)), some (.int (nI a2k)), some (.int (-1))]) rfl rfl ?_
                  refine E_iload_n rfl rfl ?_
                  refine E_iconst (x := (-1)) rfl (by decide) ?_
                  refine E_ic (t := 58) (b := false) rfl rfl (by decide) ?_
                  refine E_aload_n rfl rfl ?_
                  refine E_bipush (x := (-6)) rfl (by decide) ?_
                  refine E_callV (v := some (.int (-6))) (As := [.ref 65, .int (-6)]) (r0 := []) (cs2 := (ww im lf s d k (lsF (wgh s (qPs s 99 (qN s)) (qN s))) rf rz ra rn rq lt m1 m2 m3 m4 bd (fc.set 6 ((fc.getD 6 0) + (nI 1))) hd sz el s g (fm.set 6 ((fm.getD 6 0) + (nI 1))) hm so si sh ce ca td wa kp la (lsF (bst s (qPs s 99 (qN s)) (qN s) (2 ^ qN s))) oo bo pw ow tr)) rfl rfl rfl (Nat.le_of_ble_eq_true rfl) rfl (ab_rvOf w65 rfl) (L28_X6_no (by omega)) (by decide) w_lens ?_
                  exact E_iret rfl rfl
                · exact ⟨I, rfl, hf, ⟨⟨d0, d1, d2, d3, d4, d5, d6, d7, d8⟩, ⟨k0, k1, k2, k3, k4, k5, k6, k7, k8⟩, ⟨r0, r1, r2, r3, r4, r5, r6, r7, r8⟩⟩, iM, iT, iS, l_el, (lsF_len _), l_lt, l_bd, (by simp only [List.length_set]; exact l_fc), (by simp only [List.length_set]; exact l_fm), l_hm, l_so, l_si, l_sh, l_ce, l_ca, l_td, l_wa, l_kp, l_la, (lsF_len _), l_oo, l_bo, l_pw, l_ow, l_tr⟩
              · have er2 : (qR s).toInt = 0 := by rw [er]; rfl
                have := I2 a1k (by omega)
                have := qPr_in I a1k (w := ((qW s).getD a1k 0)) (by omega)
                have := qPs_in s 99 (i := qN s) (by omega)
                have := lsF_len (wgh s (qPs s 99 (qN s)) (qN s))
                have w9 : 2 ^ qN s ≤ 2 ^ 9 := Nat.pow_le_pow_right (by decide) (by omega)
                have kb0 := kAt_bits I hB0
                have := lsF_len (bst s (qPs s 99 (qN s)) (qN s) (2 ^ qN s))
                refine ⟨(nI B0), (im, lf, (qs_P (qs_Y (qs_G (qs_U s ((qU s).set a1k (((qU s).getD a1k 0) - a2k))) ((qG s).set a1k (((qG s).getD a1k 0) + (nI 1)))) ((qY s) + (nI a2k))) (qGP (qP s) a1k B0 (qN s))), d, k, (lsF (wgh s (qPs s 99 (qN s)) (qN s))), rf, rz, ra, rn, rq, lt, m1, m2, m3, m4, bd, fc, hd, sz, el, s, g, fm, hm, so, si, sh, ce, ca, td, wa, kp, la, bf, oo, bo, pw, ow, tr), (im, lf, (qs_P (qs_Y (qs_G (qs_U s ((qU s).set a1k (((qU s).getD a1k 0) - a2k))) ((qG s).set a1k (((qG s).getD a1k 0) + (nI 1)))) ((qY s) + (nI a2k))) (qGP (qP s) a1k B0 (qN s))), d, k, (lsF (wgh s (qPs s 99 (qN s)) (qN s))), rf, rz, ra, rn, rq, lt, m1, m2, m3, m4, bd, fc, hd, sz, el, (qs_P (qs_Y (qs_G (qs_U s ((qU s).set a1k (((qU s).getD a1k 0) - a2k))) ((qG s).set a1k (((qG s).getD a1k 0) + (nI 1)))) ((qY s) + (nI a2k))) (qGP (qP s) a1k B0 (qN s))), g, fm, hm, so, si, sh, ce, ca, td, wa, kp, la, (lsF (bst s (qPs s 99 (qN s)) (qN s) (2 ^ qN s))), oo, bo, pw, ow, tr), ?_, ?_, ?_⟩
                · show Ev ab_Z0 6 106 [.ref 0, .int (nI a1k), .int (nI a2k)] (ww im lf s d k ls rf rz ra rn rq lt m1 m2 m3 m4 bd fc hd sz el s g fm hm so si sh ce ca td wa kp la bf oo bo pw ow tr) (some (.int (nI B0)), (ww im lf (qs_P (qs_Y (qs_G (qs_U s ((qU s).set a1k (((qU s).getD a1k 0) - a2k))) ((qG s).set a1k (((qG s).getD a1k 0) + (nI 1)))) ((qY s) + (nI a2k))) (qGP (qP s) a1k B0 (qN s))) d k (lsF (wgh s (qPs s 99 (qN s)) (qN s))) rf rz ra rn rq lt m1 m2 m3 m4 bd fc hd sz el s g fm hm so si sh ce ca td wa kp la bf oo bo pw ow tr))
                  refine Ef.in (md := mX5_cast) (L := [some (.ref 0), some (.int (nI a1k)), some (.int (nI a2k)), none]) rfl (Nat.le_of_ble_eq_true rfl) rfl ?_
                  refine E_aload_n rfl rfl ?_
                  refine E_getfield (v := .ref 1) rfl w0 rfl (by decide) rfl ?_
                  refine E_iload_n rfl rfl ?_
                  refine E_callV (v := some (.int (nI 1))) (As := [.ref 1, .int (nI a1k)]) (r0 := []) (cs2 := (ww im lf s d k ls rf rz ra rn rq lt m1 m2 m3 m4 bd fc hd sz el s g fm hm so si sh ce ca td wa kp la bf oo bo pw ow tr)) rfl rfl rfl (Nat.le_of_ble_eq_true rfl) rfl (ab_rvOf w1 rfl) (L0_X4_isPerson (by omega) (by omega) (by omega) (by omega)) (by decide) rfl ?_
                  refine E_if (t := 17) (b := true) rfl rfl (by decide) ?_
                  refine E_aload_n rfl rfl ?_
                  refine E_aload_n rfl rfl ?_
                  refine E_getfield (v := .ref 1) rfl w0 rfl (by decide) rfl ?_
                  refine E_iload_n rfl rfl ?_
                  refine E_iload_n rfl rfl ?_
                  have e3 : Ev ab_Z0 4 122 [.ref 0, .ref 1, .int (nI a1k), .int (nI a2k)] (ww im lf s d k ls rf rz ra rn rq lt m1 m2 m3 m4 bd fc hd sz el s g fm hm so si sh ce ca td wa kp la bf oo bo pw ow tr) (some (.int (nI B0)), (ww im lf s d k (lsF (wgh s (qPs s 99 (qN s)) (qN s))) rf rz ra rn rq lt m1 m2 m3 m4 bd fc hd sz el s g fm hm so si sh ce ca td wa kp la bf oo bo pw ow tr)) := by
                    refine Ef.in (md := mX5_throwBy) (L := [some (.ref 0), some (.ref 1), some (.int (nI a1k)), some (.int (nI a2k)), none]) rfl (Nat.le_of_ble_eq_true rfl) rfl ?_
                    refine E_aload_n rfl rfl ?_
                    refine E_iload_n rfl rfl ?_
                    refine E_callV (v := some (.int (nI 1))) (As := [.ref 1, .int (nI a1k)]) (r0 := []) (cs2 := (ww im lf s d k ls rf rz ra rn rq lt m1 m2 m3 m4 bd fc hd sz el s g fm hm so si sh ce ca td wa kp la bf oo bo pw ow tr)) rfl rfl rfl (Nat.le_of_ble_eq_true rfl) rfl (ab_rvOf w1 rfl) (L0_X4_isPerson (by omega) (by omega) (by omega) (by omega)) (by decide) rfl ?_
                    refine E_if (t := 18) (b := false) rfl rfl (by decide) ?_
                    refine E_iload_n rfl rfl ?_
                    refine E_aload_n rfl rfl ?_
                    refine E_getfield (v := .ref 6) rfl w1 rfl (by decide) rfl ?_
                    refine E_iload_n rfl rfl ?_
                    refine E_ialN (l := qU s) (v := (qU s).getD a1k 0) rfl w6 (by omega) (by omega) rfl ?_
                    refine E_ic (t := 20) (b := true) rfl rfl ((cn_le (nI_toInt (by omega)) (nI_toInt (by omega))).trans (decide_eq_true (by omega))) ?_
                    refine E_aload_n rfl rfl ?_
                    refine E_iload_n rfl rfl ?_
                    refine E_aload_n rfl rfl ?_
                    refine E_getfield (v := .ref 8) rfl w1 rfl (by decide) rfl ?_
                    refine E_iload_n rfl rfl ?_
                    refine E_ialN (l := qW s) (v := (qW s).getD a1k 0) rfl w8 (by omega) (by omega) rfl ?_
                    refine E_callV (v := some (.int (nI (qPr s a1k ((qW s).getD a1k 0))))) (As := [.ref 1, .int (nI a1k), .int (nI ((qW s).getD a1k 0))]) (r0 := []) (cs2 := (ww im lf s d k ls rf rz ra rn rq lt m1 m2 m3 m4 bd fc hd sz el s g fm hm so si sh ce ca td wa kp la bf oo bo pw ow tr)) rfl rfl rfl (Nat.le_of_ble_eq_true rfl) rfl (ab_rvOf w1 rfl) (sq_priceFor w_q1 I (by omega) (by omega)) (by decide) rfl ?_
                    refine E_istore (L2 := [some (.ref 0), some (.ref 1), some (.int (nI a1k)), some (.int (nI a2k)), some (.int (nI (qPr s a1k ((qW s).getD a1k 0))))]) rfl rfl ?_
                    refine E_iload_n rfl rfl ?_
                    refine E_iload rfl rfl ?_
                    refine E_ic (t := 43) (b := true) rfl rfl ((cn_ge (nI_toInt (by omega)) (nI_toInt (by omega))).trans (decide_eq_true (by omega))) ?_
                    refine E_aload_n rfl rfl ?_
                    refine E_getfield (v := .ref 32) rfl w0 rfl (by decide) rfl ?_
                    refine E_aload_n rfl rfl ?_
                    refine E_aload_n rfl rfl ?_
                    refine E_getfield (v := .int (qR s)) rfl w1 rfl (by decide) rfl ?_
                    refine E_iload_n rfl rfl ?_
                    refine E_iload rfl rfl ?_
                    refine E_isub (z := nI (a2k - (qPr s a1k ((qW s).getD a1k 0)))) rfl (pk_sub (by omega)) ?_
                    have e2 : Ev ab_Z0 3 1 [.ref 32, .ref 1, .int (qR s), .int (nI (a2k - (qPr s a1k ((qW s).getD a1k 0))))] (ww im lf s d k ls rf rz ra rn rq lt m1 m2 m3 m4 bd fc hd sz el s g fm hm so si sh ce ca td wa kp la bf oo bo pw ow tr) (some (.int (nI B0)), (ww im lf s d k (lsF (wgh s (qPs s 99 (qN s)) (qN s))) rf rz ra rn rq lt m1 m2 m3 m4 bd fc hd sz el s g fm hm so si sh ce ca td wa kp la bf oo bo pw ow tr)) := by
                      refine Ef.in (md := mX0_bitsBy) (L := [some (.ref 32), some (.ref 1), some (.int (qR s)), some (.int (nI (a2k - (qPr s a1k ((qW s).getD a1k 0)))))]) rfl (Nat.le_of_ble_eq_true rfl) rfl ?_
                      refine E_iload_n rfl rfl ?_
                      refine E_iconst (x := nI 1) rfl (by decide) ?_
                      refine E_ic (t := 11) (b := true) rfl rfl ((cn_ne rfl (nI_toInt (by omega))).trans (decide_eq_true (by omega))) ?_
                      refine E_aload_n rfl rfl ?_
                      refine E_aload_n rfl rfl ?_
                      refine E_aload_n rfl rfl ?_
                      refine E_callV (v := some (.int (nI (qPs s 99 (qN s))))) (As := [.ref 1]) (r0 := [.ref 1, .ref 32]) (cs2 := (ww im lf s d k ls rf rz ra rn rq lt m1 m2 m3 m4 bd fc hd sz el s g fm hm so si sh ce ca td wa kp la bf oo bo pw ow tr)) rfl rfl rfl (Nat.le_of_ble_eq_true rfl) rfl (ab_rvOf w1 rfl) (sq_basin w_q1 I) (by decide) rfl ?_
                      refine E_callV (v := none) (As := [.ref 32, .ref 1, .int (nI (qPs s 99 (qN s)))]) (r0 := []) (cs2 := (ww im lf s d k (lsF (wgh s (qPs s 99 (qN s)) (qN s))) rf rz ra rn rq lt m1 m2 m3 m4 bd fc hd sz el s g fm hm so si sh ce ca td wa kp la bf oo bo pw ow tr)) rfl rfl rfl (Nat.le_of_ble_eq_true rfl) rfl (ab_rvOf w32 rfl) (w_weigh1 (m := qPs s 99 (qN s)) I (by omega) l_ls) (by decide) w_lens ?_
                      refine E_aload_n rfl rfl ?_
                      refine E_iload_n rfl rfl ?_
                      have e1 : Ev ab_Z0 2 4 [.ref 32, .int (nI (a2k - (qPr s a1k ((qW s).getD a1k 0))))] (ww im lf s d k (lsF (wgh s (qPs s 99 (qN s)) (qN s))) rf rz ra rn rq lt m1 m2 m3 m4 bd fc hd sz el s g fm hm so si sh ce ca td wa kp la bf oo bo pw ow tr) (some (.int (nI B0)), (ww im lf s d k (lsF (wgh s (qPs s 99 (qN s)) (qN s))) rf rz ra rn rq lt m1 m2 m3 m4 bd fc hd sz el s g fm hm so si sh ce ca td wa kp la bf oo bo pw ow tr)) := by
                        refine Ef.in (md := mX0_fewestFor) (L := [some (.ref 32), some (.int (nI (a2k - (qPr s a1k ((qW s).getD a1k 0)))))]) rfl (Nat.le_of_ble_eq_true rfl) rfl ?_
                        refine E_iload_n rfl rfl ?_
                        refine E_callS (v := some (.int (nI 1))) (As := [.int (nI (a2k - (qPr s a1k ((qW s).getD a1k 0))))]) (r0 := []) (cs2 := (ww im lf s d k (lsF (wgh s (qPs s 99 (qN s)) (qN s))) rf rz ra rn rq lt m1 m2 m3 m4 bd fc hd sz el s g fm hm so si sh ce ca td wa kp la bf oo bo pw ow tr)) rfl rfl rfl (Nat.le_of_ble_eq_true rfl) rfl (L97_X4_isAmount (by omega) (by omega) (by omega)) (by decide) rfl ?_
                        refine E_if (t := 17) (b := false) rfl rfl (by decide) ?_
                        refine E_aload_n rfl rfl ?_
                        refine E_getfield (v := .ref 33) rfl w32 rfl (by decide) rfl ?_
                        refine E_iload_n rfl rfl ?_
                        refine E_ialI (l := (lsF (wgh s (qPs s 99 (qN s)) (qN s)))) (v := nI (kAt s B0 (qN s))) rfl w33 (by omega) (by omega) (by rw [lsF_get (by omega), hk0]; rfl) ?_
                        refine E_iconst (x := (-1)) rfl (by decide) ?_
                        refine E_ic (t := 19) (b := true) rfl rfl ((cn_ne (nI_toInt (by omega)) (by decide : (-1 : Int32).toInt = -1)).trans (decide_eq_true (by omega))) ?_
                        refine E_aload_n rfl rfl ?_
                        refine E_getfield (v := .ref 33) rfl w32 rfl (by decide) rfl ?_
                        refine E_iload_n rfl rfl ?_
                        refine E_ialI (l := (lsF (wgh s (qPs s 99 (qN s)) (qN s)))) (v := nI (kAt s B0 (qN s))) rfl w33 (by omega) (by omega) (by rw [lsF_get (by omega), hk0]; rfl) ?_
                        refine E_sipush (x := nI 1023) rfl (by decide) ?_
                        refine E_iand (z := nI B0) rfl (kAt_and I hB0) ?_
                        exact E_iret rfl rfl
                      refine E_callV (v := some (.int (nI B0))) (As := [.ref 32, .int (nI (a2k - (qPr s a1k ((qW s).getD a1k 0))))]) (r0 := []) (cs2 := (ww im lf s d k (lsF (wgh s (qPs s 99 (qN s)) (qN s))) rf rz ra rn rq lt m1 m2 m3 m4 bd fc hd sz el s g fm hm so si sh ce ca td wa kp la bf oo bo pw ow tr)) rfl rfl rfl (Nat.le_of_ble_eq_true rfl) rfl (ab_rvOf w32 rfl) e1 (by decide) rfl ?_
                      exact E_iret rfl rfl
                    refine E_callV (v := some (.int (nI B0))) (As := [.ref 32, .ref 1, .int (qR s), .int (nI (a2k - (qPr s a1k ((qW s).getD a1k 0))))]) (r0 := []) (cs2 := (ww im lf s d k (lsF (wgh s (qPs s 99 (qN s)) (qN s))) rf rz ra rn rq lt m1 m2 m3 m4 bd fc hd sz el s g fm hm so si sh ce ca td wa kp la bf oo bo pw ow tr)) rfl rfl rfl (Nat.le_of_ble_eq_true rfl) rfl (ab_rvOf w32 rfl) e2 (by decide) w_lens ?_
                    exact E_iret rfl rfl
                  refine E_callV (v := some (.int (nI B0))) (As := [.ref 0, .ref 1, .int (nI a1k), .int (nI a2k)]) (r0 := []) (cs2 := (ww im lf s d k (lsF (wgh s (qPs s 99 (qN s)) (qN s))) rf rz ra rn rq lt m1 m2 m3 m4 bd fc hd sz el s g fm hm so si sh ce ca td wa kp la bf oo bo pw ow tr)) rfl rfl rfl (Nat.le_of_ble_eq_true rfl) rfl (ab_rvOf w0 rfl) e3 (by decide) w_lens ?_
                  refine E_istore_n (L2 := [some (.ref 0), some (.int (nI a1k)), some (.int (nI a2k)), some (.int (nI B0))]) rfl rfl ?_
                  refine E_iload_n rfl rfl ?_
                  refine E_iconst (x := (-1)) rfl (by decide) ?_
                  refine E_ic (t := 40) (b := true) rfl rfl ((cn_ne (nI_toInt (by omega)) (by decide : (-1 : Int32).toInt = -1)).trans (decide_eq_true (by omega))) ?_
                  refine E_aload_n rfl rfl ?_
                  refine E_getfield (v := .ref 1) rfl w0 rfl (by decide) rfl ?_
                  refine E_iload_n rfl rfl ?_
                  refine E_iload_n rfl rfl ?_
                  refine E_iload_n rfl rfl ?_
                  have e4 : Ev ab_Z0 2 71 [.ref 1, .int (nI a1k), .int (nI a2k), .int (nI B0)] (ww im lf s d k (lsF (wgh s (qPs s 99 (qN s)) (qN s))) rf rz ra rn rq lt m1 m2 m3 m4 bd fc hd sz el s g fm hm so si sh ce ca td wa kp la bf oo bo pw ow tr) (none, (ww im lf (qs_P (qs_Y (qs_G (qs_U s ((qU s).set a1k (((qU s).getD a1k 0) - a2k))) ((qG s).set a1k (((qG s).getD a1k 0) + (nI 1)))) ((qY s) + (nI a2k))) (qGP (qP s) a1k B0 (qN s))) d k (lsF (wgh s (qPs s 99 (qN s)) (qN s))) rf rz ra rn rq lt m1 m2 m3 m4 bd fc hd sz el s g fm hm so si sh ce ca td wa kp la bf oo bo pw ow tr)) := by
                    refine Ef.in (md := mX4_grant) (L := [some (.ref 1), some (.int (nI a1k)), some (.int (nI a2k)), some (.int (nI B0)), none]) rfl (Nat.le_of_ble_eq_true rfl) rfl ?_
                    refine E_aload_n rfl rfl ?_
                    refine E_getfield (v := .ref 6) rfl w1 rfl (by decide) rfl ?_
                    refine E_iload_n rfl rfl ?_
                    refine E_dup2 rfl ⟨rfl, rfl⟩ ?_
                    refine E_ialN (l := qU s) (v := (qU s).getD a1k 0) rfl w6 (by omega) (by omega) rfl ?_
                    refine E_iload_n rfl rfl ?_
                    refine E_isub (z := nI (((qU s).getD a1k 0) - a2k)) rfl (pk_sub (by omega)) ?_
                    refine E_iasN (l := qU s) (cs2 := (ww im lf (qs_U s ((qU s).set a1k (((qU s).getD a1k 0) - a2k))) d k (lsF (wgh s (qPs s 99 (qN s)) (qN s))) rf rz ra rn rq lt m1 m2 m3 m4 bd fc hd sz el s g fm hm so si sh ce ca td wa kp la bf oo bo pw ow tr)) rfl w6 (by omega) (by omega) w_pt1_U ?_
                    refine E_aload_n rfl rfl ?_
                    refine E_getfield (v := .ref 9) rfl w1 rfl (by decide) rfl ?_
                    refine E_iload_n rfl rfl ?_
                    refine E_dup2 rfl ⟨rfl, rfl⟩ ?_
                    refine E_ialI (l := qG s) (v := (qG s).getD a1k 0) rfl (w9v qg_GU) (by omega) (by omega) rfl ?_
                    refine E_iconst (x := nI 1) rfl (by decide) ?_
                    refine E_iadd (z := ((qG s).getD a1k 0) + (nI 1)) rfl rfl ?_
                    refine E_iasI (l := qG s) (cs2 := (ww im lf (qs_G (qs_U s ((qU s).set a1k (((qU s).getD a1k 0) - a2k))) ((qG s).set a1k (((qG s).getD a1k 0) + (nI 1)))) d k (lsF (wgh s (qPs s 99 (qN s)) (qN s))) rf rz ra rn rq lt m1 m2 m3 m4 bd fc hd sz el s g fm hm so si sh ce ca td wa kp la bf oo bo pw ow tr)) rfl (w9v qg_GU) (by omega) (by omega) w_pt1_G ?_
                    refine E_aload_n rfl rfl ?_
                    refine E_dup rfl rfl ?_
                    refine E_getfield (v := .int (qY s)) rfl w1 rfl (by decide) (congrArg (fun z => some (Value.int z)) (qg_YG.trans qg_YU)) ?_
                    refine E_iload_n rfl rfl ?_
                    refine E_iadd (z := (qY s) + (nI a2k)) rfl rfl ?_
                    refine E_putfield (cs2 := (ww im lf (qs_Y (qs_G (qs_U s ((qU s).set a1k (((qU s).getD a1k 0) - a2k))) ((qG s).set a1k (((qG s).getD a1k 0) + (nI 1)))) ((qY s) + (nI a2k))) d k (lsF (wgh s (qPs s 99 (qN s)) (qN s))) rf rz ra rn rq lt m1 m2 m3 m4 bd fc hd sz el s g fm hm so si sh ce ca td wa kp la bf oo bo pw ow tr)) rfl w1 rfl (by decide) (Nat.le_of_ble_eq_true rfl) rfl rfl rfl w_pt1_Y ?_
                    refine E_iconst (x := nI 0) rfl (by decide) ?_
                    refine E_istore (L2 := [some (.ref 1), some (.int (nI a1k)), some (.int (nI a2k)), some (.int (nI B0)), some (.int (nI 0))]) rfl rfl ?_
                    exact grant_s1 (s := (qs_Y (qs_G (qs_U s ((qU s).set a1k (((qU s).getD a1k 0) - a2k))) ((qG s).set a1k (((qG s).getD a1k 0) + (nI 1)))) ((qY s) + (nI a2k)))) (p := a1k) (n := a2k) (m := B0) (l := qP s) (n1 := qN s) ((congrArg (qs_P _) (Eq.symm (qg_PY.trans (qg_PG.trans qg_PU)))).trans qs_Pself) (qg_NY.trans (qg_NG.trans qg_NU)) (by omega) (I).1.2.2.2 (by omega) (by omega)
                  refine E_callV (v := none) (As := [.ref 1, .int (nI a1k), .int (nI a2k), .int (nI B0)]) (r0 := []) (cs2 := (ww im lf (qs_P (qs_Y (qs_G (qs_U s ((qU s).set a1k (((qU s).getD a1k 0) - a2k))) ((qG s).set a1k (((qG s).getD a1k 0) + (nI 1)))) ((qY s) + (nI a2k))) (qGP (qP s) a1k B0 (qN s))) d k (lsF (wgh s (qPs s 99 (qN s)) (qN s))) rf rz ra rn rq lt m1 m2 m3 m4 bd fc hd sz el s g fm hm so si sh ce ca td wa kp la bf oo bo pw ow tr)) rfl rfl rfl (Nat.le_of_ble_eq_true rfl) rfl (ab_rvOf w1 rfl) e4 (by decide) w_lens ?_
                  refine E_iload_n rfl rfl ?_
                  exact E_iret rfl rfl
                · show Ev ab_Z0 5 197 [.ref 65, .int (nI a1k), .int (nI a2k)] (ww im lf (qs_P (qs_Y (qs_G (qs_U s ((qU s).set a1k (((qU s).getD a1k 0) - a2k))) ((qG s).set a1k (((qG s).getD a1k 0) + (nI 1)))) ((qY s) + (nI a2k))) (qGP (qP s) a1k B0 (qN s))) d k (lsF (wgh s (qPs s 99 (qN s)) (qN s))) rf rz ra rn rq lt m1 m2 m3 m4 bd fc hd sz el s g fm hm so si sh ce ca td wa kp la bf oo bo pw ow tr) (some (.int (nI B0)), (ww im lf (qs_P (qs_Y (qs_G (qs_U s ((qU s).set a1k (((qU s).getD a1k 0) - a2k))) ((qG s).set a1k (((qG s).getD a1k 0) + (nI 1)))) ((qY s) + (nI a2k))) (qGP (qP s) a1k B0 (qN s))) d k (lsF (wgh s (qPs s 99 (qN s)) (qN s))) rf rz ra rn rq lt m1 m2 m3 m4 bd fc hd sz el (qs_P (qs_Y (qs_G (qs_U s ((qU s).set a1k (((qU s).getD a1k 0) - a2k))) ((qG s).set a1k (((qG s).getD a1k 0) + (nI 1)))) ((qY s) + (nI a2k))) (qGP (qP s) a1k B0 (qN s))) g fm hm so si sh ce ca td wa kp la (lsF (bst s (qPs s 99 (qN s)) (qN s) (2 ^ qN s))) oo bo pw ow tr))
                  refine Ef.in (md := mX6_cast) (L := [some (.ref 65), some (.int (nI a1k)), some (.int (nI a2k)), none]) rfl (Nat.le_of_ble_eq_true rfl) rfl ?_
                  refine E_aload_n rfl rfl ?_
                  refine E_iload_n rfl rfl ?_
                  refine E_callV (v := some (.int (nI 1))) (As := [.ref 65, .int (nI a1k)]) (r0 := []) (cs2 := (ww im lf (qs_P (qs_Y (qs_G (qs_U s ((qU s).set a1k (((qU s).getD a1k 0) - a2k))) ((qG s).set a1k (((qG s).getD a1k 0) + (nI 1)))) ((qY s) + (nI a2k))) (qGP (qP s) a1k B0 (qN s))) d k (lsF (wgh s (qPs s 99 (qN s)) (qN s))) rf rz ra rn rq lt m1 m2 m3 m4 bd fc hd sz el s g fm hm so si sh ce ca td wa kp la bf oo bo pw ow tr)) rfl rfl rfl (Nat.le_of_ble_eq_true rfl) rfl (ab_rvOf w65 rfl) (L2_X6_isOne (by omega) (by omega) (by omega) (by omega)) (by decide) rfl ?_
                  refine E_if (t := 14) (b := true) rfl rfl (by decide) ?_
                  refine E_aload_n rfl rfl ?_
                  refine E_aload_n rfl rfl ?_
                  refine E_bipush (x := nI 99) rfl (by decide) ?_
                  refine E_callV (v := some (.int (nI (qPs s 99 (qN s))))) (As := [.ref 65, .int (nI 99)]) (r0 := [.ref 65]) (cs2 := (ww im lf (qs_P (qs_Y (qs_G (qs_U s ((qU s).set a1k (((qU s).getD a1k 0) - a2k))) ((qG s).set a1k (((qG s).getD a1k 0) + (nI 1)))) ((qY s) + (nI a2k))) (qGP (qP s) a1k B0 (qN s))) d k (lsF (wgh s (qPs s 99 (qN s)) (qN s))) rf rz ra rn rq lt m1 m2 m3 m4 bd fc hd sz el s g fm hm so si sh ce ca td wa kp la bf oo bo pw ow tr)) rfl rfl rfl (Nat.le_of_ble_eq_true rfl) rfl (ab_rvOf w65 rfl) (mo_piecesOf w_m I (by omega)) (by decide) rfl ?_
                  refine E_callV (v := none) (As := [.ref 65, .int (nI (qPs s 99 (qN s)))]) (r0 := []) (cs2 := (ww im lf (qs_P (qs_Y (qs_G (qs_U s ((qU s).set a1k (((qU s).getD a1k 0) - a2k))) ((qG s).set a1k (((qG s).getD a1k 0) + (nI 1)))) ((qY s) + (nI a2k))) (qGP (qP s) a1k B0 (qN s))) d k (lsF (wgh s (qPs s 99 (qN s)) (qN s))) rf rz ra rn rq lt m1 m2 m3 m4 bd fc hd sz el s g fm hm so si sh ce ca td wa kp la (lsF (bst s (qPs s 99 (qN s)) (qN s) (2 ^ qN s))) oo bo pw ow tr)) rfl rfl rfl (Nat.le_of_ble_eq_true rfl) rfl (ab_rvOf w65 rfl) (w_best (m := qPs s 99 (qN s)) I (by omega) l_bf) (by decide) w_lens ?_
                  refine E_aload_n rfl rfl ?_
                  refine E_iload_n rfl rfl ?_
                  refine E_iconst (x := nI 0) rfl (by decide) ?_
                  refine E_bipush (x := nI 99) rfl (by decide) ?_
                  refine E_callV (v := some (.int (nI 1))) (As := [.ref 65, .int (nI a2k), .int (nI 0), .int (nI 99)]) (r0 := []) (cs2 := (ww im lf (qs_P (qs_Y (qs_G (qs_U s ((qU s).set a1k (((qU s).getD a1k 0) - a2k))) ((qG s).set a1k (((qG s).getD a1k 0) + (nI 1)))) ((qY s) + (nI a2k))) (qGP (qP s) a1k B0 (qN s))) d k (lsF (wgh s (qPs s 99 (qN s)) (qN s))) rf rz ra rn rq lt m1 m2 m3 m4 bd fc hd sz el s g fm hm so si sh ce ca td wa kp la (lsF (bst s (qPs s 99 (qN s)) (qN s) (2 ^ qN s))) oo bo pw ow tr)) rfl rfl rfl (Nat.le_of_ble_eq_true rfl) rfl (ab_rvOf w65 rfl) (L85_X6_isFrom (by omega) (by omega) (by omega)) (by decide) rfl ?_
                  refine E_if (t := 44) (b := false) rfl rfl (by decide) ?_
                  refine E_aload_n rfl rfl ?_
                  refine E_iload_n rfl rfl ?_
                  refine E_iload_n rfl rfl ?_
                  have e6 : Ev ab_Z0 2 176 [.ref 65, .int (nI a1k), .int (nI a2k)] (ww im lf (qs_P (qs_Y (qs_G (qs_U s ((qU s).set a1k (((qU s).getD a1k 0) - a2k))) ((qG s).set a1k (((qG s).getD a1k 0) + (nI 1)))) ((qY s) + (nI a2k))) (qGP (qP s) a1k B0 (qN s))) d k (lsF (wgh s (qPs s 99 (qN s)) (qN s))) rf rz ra rn rq lt m1 m2 m3 m4 bd fc hd sz el s g fm hm so si sh ce ca td wa kp la (lsF (bst s (qPs s 99 (qN s)) (qN s) (2 ^ qN s))) oo bo pw ow tr) (some (.int (nI B0)), (ww im lf (qs_P (qs_Y (qs_G (qs_U s ((qU s).set a1k (((qU s).getD a1k 0) - a2k))) ((qG s).set a1k (((qG s).getD a1k 0) + (nI 1)))) ((qY s) + (nI a2k))) (qGP (qP s) a1k B0 (qN s))) d k (lsF (wgh s (qPs s 99 (qN s)) (qN s))) rf rz ra rn rq lt m1 m2 m3 m4 bd fc hd sz el s g fm hm so si sh ce ca td wa kp la (lsF (bst s (qPs s 99 (qN s)) (qN s) (2 ^ qN s))) oo bo pw ow tr)) := by
                    refine Ef.in (md := mX6_thrown) (L := [some (.ref 65), some (.int (nI a1k)), some (.int (nI a2k)), none]) rfl (Nat.le_of_ble_eq_true rfl) rfl ?_
                    refine E_iload_n rfl rfl ?_
                    refine E_aload_n rfl rfl ?_
                    refine E_iload_n rfl rfl ?_
                    refine E_aload_n rfl rfl ?_
                    refine E_getfield (v := .ref 73) rfl w65 rfl (by decide) rfl ?_
                    refine E_iload_n rfl rfl ?_
                    refine E_ialN (l := qW s) (v := (qW s).getD a1k 0) rfl w73 (by omega) (by omega) rfl ?_
                    refine E_callV (v := some (.int (nI (qPr s a1k ((qW s).getD a1k 0))))) (As := [.ref 65, .int (nI a1k), .int (nI ((qW s).getD a1k 0))]) (r0 := [.int (nI a2k)]) (cs2 := (ww im lf (qs_P (qs_Y (qs_G (qs_U s ((qU s).set a1k (((qU s).getD a1k 0) - a2k))) ((qG s).set a1k (((qG s).getD a1k 0) + (nI 1)))) ((qY s) + (nI a2k))) (qGP (qP s) a1k B0 (qN s))) d k (lsF (wgh s (qPs s 99 (qN s)) (qN s))) rf rz ra rn rq lt m1 m2 m3 m4 bd fc hd sz el s g fm hm so si sh ce ca td wa kp la (lsF (bst s (qPs s 99 (qN s)) (qN s) (2 ^ qN s))) oo bo pw ow tr)) rfl rfl rfl (Nat.le_of_ble_eq_true rfl) rfl (ab_rvOf w65 rfl) (mo_priceFor w_m I (by omega) (by omega)) (by decide) rfl ?_
                    refine E_isub (z := nI (a2k - (qPr s a1k ((qW s).getD a1k 0)))) rfl (pk_sub (by omega)) ?_
                    refine E_istore_n (L2 := [some (.ref 65), some (.int (nI a1k)), some (.int (nI a2k)), some (.int (nI (a2k - (qPr s a1k ((qW s).getD a1k 0)))))]) rfl rfl ?_
                    refine E_aload_n rfl rfl ?_
                    refine E_iload_n rfl rfl ?_
                    refine E_iconst (x := nI 0) rfl (by decide) ?_
                    refine E_bipush (x := nI 99) rfl (by decide) ?_
                    refine E_callV (v := some (.int (nI 1))) (As := [.ref 65, .int (nI a2k), .int (nI 0), .int (nI 99)]) (r0 := []) (cs2 := (ww im lf (qs_P (qs_Y (qs_G (qs_U s ((qU s).set a1k (((qU s).getD a1k 0) - a2k))) ((qG s).set a1k (((qG s).getD a1k 0) + (nI 1)))) ((qY s) + (nI a2k))) (qGP (qP s) a1k B0 (qN s))) d k (lsF (wgh s (qPs s 99 (qN s)) (qN s))) rf rz ra rn rq lt m1 m2 m3 m4 bd fc hd sz el s g fm hm so si sh ce ca td wa kp la (lsF (bst s (qPs s 99 (qN s)) (qN s) (2 ^ qN s))) oo bo pw ow tr)) rfl rfl rfl (Nat.le_of_ble_eq_true rfl) rfl (ab_rvOf w65 rfl) (L85_X6_isFrom (by omega) (by omega) (by omega)) (by decide) rfl ?_
                    refine E_if (t := 39) (b := false) rfl rfl (by decide) ?_
                    refine E_iload_n rfl rfl ?_
                    refine E_aload_n rfl rfl ?_
                    refine E_getfield (v := .ref 71) rfl w65 rfl (by decide) rfl ?_
                    refine E_iload_n rfl rfl ?_
                    refine E_ialN (l := qU s) (v := (qU s).getD a1k 0) rfl w71 (by omega) (by omega) rfl ?_
                    refine E_ic (t := 39) (b := false) rfl rfl ((cn_gt (nI_toInt (by omega)) (nI_toInt (by omega))).trans (decide_eq_false (by omega))) ?_
                    refine E_iload_n rfl rfl ?_
                    refine E_if (t := 43) (b := true) rfl rfl ((cn_ge (nI_toInt (by omega)) (by decide : (0 : Int32).toInt = 0)).trans (decide_eq_true (by omega))) ?_
                    refine E_aload_n rfl rfl ?_
                    refine E_iload_n rfl rfl ?_
                    have e5 : Ev ab_Z0 1 172 [.ref 65, .int (nI (a2k - (qPr s a1k ((qW s).getD a1k 0))))] (ww im lf (qs_P (qs_Y (qs_G (qs_U s ((qU s).set a1k (((qU s).getD a1k 0) - a2k))) ((qG s).set a1k (((qG s).getD a1k 0) + (nI 1)))) ((qY s) + (nI a2k))) (qGP (qP s) a1k B0 (qN s))) d k (lsF (wgh s (qPs s 99 (qN s)) (qN s))) rf rz ra rn rq lt m1 m2 m3 m4 bd fc hd sz el s g fm hm so si sh ce ca td wa kp la (lsF (bst s (qPs s 99 (qN s)) (qN s) (2 ^ qN s))) oo bo pw ow tr) (some (.int (nI B0)), (ww im lf (qs_P (qs_Y (qs_G (qs_U s ((qU s).set a1k (((qU s).getD a1k 0) - a2k))) ((qG s).set a1k (((qG s).getD a1k 0) + (nI 1)))) ((qY s) + (nI a2k))) (qGP (qP s) a1k B0 (qN s))) d k (lsF (wgh s (qPs s 99 (qN s)) (qN s))) rf rz ra rn rq lt m1 m2 m3 m4 bd fc hd sz el s g fm hm so si sh ce ca td wa kp la (lsF (bst s (qPs s 99 (qN s)) (qN s) (2 ^ qN s))) oo bo pw ow tr)) := by
                      refine Ef.in (md := mX6_changeFor) (L := [some (.ref 65), some (.int (nI (a2k - (qPr s a1k ((qW s).getD a1k 0)))))]) rfl (Nat.le_of_ble_eq_true rfl) rfl ?_
                      refine E_aload_n rfl rfl ?_
                      refine E_getfield (v := .int (qR s)) rfl w65 rfl (by decide) rfl ?_
                      refine E_if (t := 16) (b := false) rfl rfl ((cn_ne rfl (by decide : (0 : Int32).toInt = 0)).trans (decide_eq_false (by omega))) ?_
                      refine E_aload_n rfl rfl ?_
                      refine E_getfield (v := .ref 89) rfl w65 rfl (by decide) rfl ?_
                      refine E_iload_n rfl rfl ?_
                      refine E_ialI (l := (lsF (bst s (qPs s 99 (qN s)) (qN s) (2 ^ qN s)))) (v := nI B0) rfl w89 (by omega) (by omega) (by rw [lsF_get (by omega), hb0]; rfl) ?_
                      refine E_goto (t := 21) rfl rfl ?_
                      exact E_iret rfl rfl
                    refine E_callV (v := some (.int (nI B0))) (As := [.ref 65, .int (nI (a2k - (qPr s a1k ((qW s).getD a1k 0))))]) (r0 := []) (cs2 := (ww im lf (qs_P (qs_Y (qs_G (qs_U s ((qU s).set a1k (((qU s).getD a1k 0) - a2k))) ((qG s).set a1k (((qG s).getD a1k 0) + (nI 1)))) ((qY s) + (nI a2k))) (qGP (qP s) a1k B0 (qN s))) d k (lsF (wgh s (qPs s 99 (qN s)) (qN s))) rf rz ra rn rq lt m1 m2 m3 m4 bd fc hd sz el s g fm hm so si sh ce ca td wa kp la (lsF (bst s (qPs s 99 (qN s)) (qN s) (2 ^ qN s))) oo bo pw ow tr)) rfl rfl rfl (Nat.le_of_ble_eq_true rfl) rfl (ab_rvOf w65 rfl) e5 (by decide) rfl ?_
                    exact E_iret rfl rfl
                  refine E_callV (v := some (.int (nI B0))) (As := [.ref 65, .int (nI a1k), .int (nI a2k)]) (r0 := []) (cs2 := (ww im lf (qs_P (qs_Y (qs_G (qs_U s ((qU s).set a1k (((qU s).getD a1k 0) - a2k))) ((qG s).set a1k (((qG s).getD a1k 0) + (nI 1)))) ((qY s) + (nI a2k))) (qGP (qP s) a1k B0 (qN s))) d k (lsF (wgh s (qPs s 99 (qN s)) (qN s))) rf rz ra rn rq lt m1 m2 m3 m4 bd fc hd sz el s g fm hm so si sh ce ca td wa kp la (lsF (bst s (qPs s 99 (qN s)) (qN s) (2 ^ qN s))) oo bo pw ow tr)) rfl rfl rfl (Nat.le_of_ble_eq_true rfl) rfl (ab_rvOf w65 rfl) e6 (by decide) rfl ?_
                  refine E_goto (t := 45) rfl rfl ?_
                  refine E_istore_n (L2 := [some (.ref 65), some (.int (nI a1k)), some (.int (nI a2k)), some (.int (nI B0))]) rfl rfl ?_
                  refine E_iload_n rfl rfl ?_
                  refine E_iconst (x := (-1)) rfl (by decide) ?_
                  refine E_ic (t := 58) (b := true) rfl rfl ((cn_ne (nI_toInt (by omega)) (by decide : (-1 : Int32).toInt = -1)).trans (decide_eq_true (by omega))) ?_
                  refine E_aload_n rfl rfl ?_
                  refine E_iload_n rfl rfl ?_
                  refine E_iload_n rfl rfl ?_
                  refine E_iload_n rfl rfl ?_
                  have e7 : Ev ab_Z0 1 183 [.ref 65, .int (nI a1k), .int (nI a2k), .int (nI B0)] (ww im lf (qs_P (qs_Y (qs_G (qs_U s ((qU s).set a1k (((qU s).getD a1k 0) - a2k))) ((qG s).set a1k (((qG s).getD a1k 0) + (nI 1)))) ((qY s) + (nI a2k))) (qGP (qP s) a1k B0 (qN s))) d k (lsF (wgh s (qPs s 99 (qN s)) (qN s))) rf rz ra rn rq lt m1 m2 m3 m4 bd fc hd sz el s g fm hm so si sh ce ca td wa kp la (lsF (bst s (qPs s 99 (qN s)) (qN s) (2 ^ qN s))) oo bo pw ow tr) (none, (ww im lf (qs_P (qs_Y (qs_G (qs_U s ((qU s).set a1k (((qU s).getD a1k 0) - a2k))) ((qG s).set a1k (((qG s).getD a1k 0) + (nI 1)))) ((qY s) + (nI a2k))) (qGP (qP s) a1k B0 (qN s))) d k (lsF (wgh s (qPs s 99 (qN s)) (qN s))) rf rz ra rn rq lt m1 m2 m3 m4 bd fc hd sz el (qs_P (qs_Y (qs_G (qs_U s ((qU s).set a1k (((qU s).getD a1k 0) - a2k))) ((qG s).set a1k (((qG s).getD a1k 0) + (nI 1)))) ((qY s) + (nI a2k))) (qGP (qP s) a1k B0 (qN s))) g fm hm so si sh ce ca td wa kp la (lsF (bst s (qPs s 99 (qN s)) (qN s) (2 ^ qN s))) oo bo pw ow tr)) := by
                    refine Ef.in (md := mX6_throwsIn) (L := [some (.ref 65), some (.int (nI a1k)), some (.int (nI a2k)), some (.int (nI B0)), none]) rfl (Nat.le_of_ble_eq_true rfl) rfl ?_
                    refine E_aload_n rfl rfl ?_
                    refine E_getfield (v := .ref 71) rfl w65 rfl (by decide) rfl ?_
                    refine E_iload_n rfl rfl ?_
                    refine E_dup2 rfl ⟨rfl, rfl⟩ ?_
                    refine E_ialN (l := qU s) (v := (qU s).getD a1k 0) rfl w71 (by omega) (by omega) rfl ?_
                    refine E_iload_n rfl rfl ?_
                    refine E_isub (z := nI (((qU s).getD a1k 0) - a2k)) rfl (pk_sub (by omega)) ?_
                    refine E_iasN (l := qU s) (cs2 := (ww im lf (qs_P (qs_Y (qs_G (qs_U s ((qU s).set a1k (((qU s).getD a1k 0) - a2k))) ((qG s).set a1k (((qG s).getD a1k 0) + (nI 1)))) ((qY s) + (nI a2k))) (qGP (qP s) a1k B0 (qN s))) d k (lsF (wgh s (qPs s 99 (qN s)) (qN s))) rf rz ra rn rq lt m1 m2 m3 m4 bd fc hd sz el (qs_U s ((qU s).set a1k (((qU s).getD a1k 0) - a2k))) g fm hm so si sh ce ca td wa kp la (lsF (bst s (qPs s 99 (qN s)) (qN s) (2 ^ qN s))) oo bo pw ow tr)) rfl w71 (by omega) (by omega) w_pt65_U ?_
                    refine E_aload_n rfl rfl ?_
                    refine E_getfield (v := .ref 74) rfl w65 rfl (by decide) rfl ?_
                    refine E_iload_n rfl rfl ?_
                    refine E_dup2 rfl ⟨rfl, rfl⟩ ?_
                    refine E_ialI (l := qG s) (v := (qG s).getD a1k 0) rfl (w74v qg_GU) (by omega) (by omega) rfl ?_
                    refine E_iconst (x := nI 1) rfl (by decide) ?_
                    refine E_iadd (z := ((qG s).getD a1k 0) + (nI 1)) rfl rfl ?_
                    refine E_iasI (l := qG s) (cs2 := (ww im lf (qs_P (qs_Y (qs_G (qs_U s ((qU s).set a1k (((qU s).getD a1k 0) - a2k))) ((qG s).set a1k (((qG s).getD a1k 0) + (nI 1)))) ((qY s) + (nI a2k))) (qGP (qP s) a1k B0 (qN s))) d k (lsF (wgh s (qPs s 99 (qN s)) (qN s))) rf rz ra rn rq lt m1 m2 m3 m4 bd fc hd sz el (qs_G (qs_U s ((qU s).set a1k (((qU s).getD a1k 0) - a2k))) ((qG s).set a1k (((qG s).getD a1k 0) + (nI 1)))) g fm hm so si sh ce ca td wa kp la (lsF (bst s (qPs s 99 (qN s)) (qN s) (2 ^ qN s))) oo bo pw ow tr)) rfl (w74v qg_GU) (by omega) (by omega) w_pt65_G ?_
                    refine E_aload_n rfl rfl ?_
                    refine E_dup rfl rfl ?_
                    refine E_getfield (v := .int (qY s)) rfl w65 rfl (by decide) (congrArg (fun z => some (Value.int z)) (qg_YG.trans qg_YU)) ?_
                    refine E_iload_n rfl rfl ?_
                    refine E_iadd (z := (qY s) + (nI a2k)) rfl rfl ?_
                    refine E_putfield (cs2 := (ww im lf (qs_P (qs_Y (qs_G (qs_U s ((qU s).set a1k (((qU s).getD a1k 0) - a2k))) ((qG s).set a1k (((qG s).getD a1k 0) + (nI 1)))) ((qY s) + (nI a2k))) (qGP (qP s) a1k B0 (qN s))) d k (lsF (wgh s (qPs s 99 (qN s)) (qN s))) rf rz ra rn rq lt m1 m2 m3 m4 bd fc hd sz el (qs_Y (qs_G (qs_U s ((qU s).set a1k (((qU s).getD a1k 0) - a2k))) ((qG s).set a1k (((qG s).getD a1k 0) + (nI 1)))) ((qY s) + (nI a2k))) g fm hm so si sh ce ca td wa kp la (lsF (bst s (qPs s 99 (qN s)) (qN s) (2 ^ qN s))) oo bo pw ow tr)) rfl w65 rfl (by decide) (Nat.le_of_ble_eq_true rfl) rfl rfl rfl w_pt65_Y ?_
                    refine E_iconst (x := nI 0) rfl (by decide) ?_
                    refine E_istore (L2 := [some (.ref 65), some (.int (nI a1k)), some (.int (nI a2k)), some (.int (nI B0)), some (.int (nI 0))]) rfl rfl ?_
                    exact grant_s65 (t := (qs_Y (qs_G (qs_U s ((qU s).set a1k (((qU s).getD a1k 0) - a2k))) ((qG s).set a1k (((qG s).getD a1k 0) + (nI 1)))) ((qY s) + (nI a2k)))) (p := a1k) (n := a2k) (m := B0) (l := qP s) (n1 := qN s) ((congrArg (qs_P _) (Eq.symm (qg_PY.trans (qg_PG.trans qg_PU)))).trans qs_Pself) (qg_NY.trans (qg_NG.trans qg_NU)) (by omega) (I).1.2.2.2 (by omega) (by omega)
                  refine E_callV (v := none) (As := [.ref 65, .int (nI a1k), .int (nI a2k), .int (nI B0)]) (r0 := []) (cs2 := (ww im lf (qs_P (qs_Y (qs_G (qs_U s ((qU s).set a1k (((qU s).getD a1k 0) - a2k))) ((qG s).set a1k (((qG s).getD a1k 0) + (nI 1)))) ((qY s) + (nI a2k))) (qGP (qP s) a1k B0 (qN s))) d k (lsF (wgh s (qPs s 99 (qN s)) (qN s))) rf rz ra rn rq lt m1 m2 m3 m4 bd fc hd sz el (qs_P (qs_Y (qs_G (qs_U s ((qU s).set a1k (((qU s).getD a1k 0) - a2k))) ((qG s).set a1k (((qG s).getD a1k 0) + (nI 1)))) ((qY s) + (nI a2k))) (qGP (qP s) a1k B0 (qN s))) g fm hm so si sh ce ca td wa kp la (lsF (bst s (qPs s 99 (qN s)) (qN s) (2 ^ qN s))) oo bo pw ow tr)) rfl rfl rfl (Nat.le_of_ble_eq_true rfl) rfl (ab_rvOf w65 rfl) e7 (by decide) w_lens ?_
                  refine E_iload_n rfl rfl ?_
                  exact E_iret rfl rfl
                · exact ⟨(qI_P (qI_Y (qI_G (kU I (by omega)) (by simp only [List.length_set]; exact I.2.1.2.2.2.1))) ((qGP_len _ _ _ _).trans I.1.2.2.2) (qGP_pl (k := qM s) (by omega) (fun x hx => (I.2.2.2.1 x hx).2.2.2.2) _)), rfl, hf, ⟨⟨d0, d1, d2, d3, d4, d5, d6, d7, d8⟩, ⟨k0, k1, k2, k3, k4, k5, k6, k7, k8⟩, ⟨r0, r1, r2, r3, r4, r5, r6, r7, r8⟩⟩, iM, iT, (iS.n (s2 := (qs_P (qs_Y (qs_G (qs_U s ((qU s).set a1k (((qU s).getD a1k 0) - a2k))) ((qG s).set a1k (((qG s).getD a1k 0) + (nI 1)))) ((qY s) + (nI a2k))) (qGP (qP s) a1k B0 (qN s)))) (Nat.le_refl _)), l_el, (lsF_len _), l_lt, l_bd, l_fc, l_fm, l_hm, l_so, l_si, l_sh, l_ce, l_ca, l_td, l_wa, l_kp, l_la, (lsF_len _), l_oo, l_bo, l_pw, l_ow, l_tr⟩
        · have er2 : (qR s).toInt = 0 := by rw [er]; rfl
          have := I2 a1k (by omega)
          have := qPr_in I a1k (w := ((qW s).getD a1k 0)) (by omega)
          have := qPs_in s 99 (i := qN s) (by omega)
          refine ⟨(-6), (im, lf, s, d, k, ls, rf, rz, ra, rn, rq, lt, m1, m2, m3, m4, bd, (fc.set 6 ((fc.getD 6 0) + (nI 1))), hd, sz, el, s, g, fm, hm, so, si, sh, ce, ca, td, wa, kp, la, bf, oo, bo, pw, ow, tr), (im, lf, s, d, k, ls, rf, rz, ra, rn, rq, lt, m1, m2, m3, m4, bd, (fc.set 6 ((fc.getD 6 0) + (nI 1))), hd, sz, el, s, g, (fm.set 6 ((fm.getD 6 0) + (nI 1))), hm, so, si, sh, ce, ca, td, wa, kp, la, (lsF (bst s (qPs s 99 (qN s)) (qN s) (2 ^ qN s))), oo, bo, pw, ow, tr), ?_, ?_, ?_⟩
          · show Ev ab_Z0 6 106 [.ref 0, .int (nI a1k), .int a2] (ww im lf s d k ls rf rz ra rn rq lt m1 m2 m3 m4 bd fc hd sz el s g fm hm so si sh ce ca td wa kp la bf oo bo pw ow tr) (some (.int (-6)), (ww im lf s d k ls rf rz ra rn rq lt m1 m2 m3 m4 bd (fc.set 6 ((fc.getD 6 0) + (nI 1))) hd sz el s g fm hm so si sh ce ca td wa kp la bf oo bo pw ow tr))
            refine Ef.in (md := mX5_cast) (L := [some (.ref 0), some (.int (nI a1k)), some (.int a2), none]) rfl (Nat.le_of_ble_eq_true rfl) rfl ?_
            refine E_aload_n rfl rfl ?_
            refine E_getfield (v := .ref 1) rfl w0 rfl (by decide) rfl ?_
            refine E_iload_n rfl rfl ?_
            refine E_callV (v := some (.int (nI 1))) (As := [.ref 1, .int (nI a1k)]) (r0 := []) (cs2 := (ww im lf s d k ls rf rz ra rn rq lt m1 m2 m3 m4 bd fc hd sz el s g fm hm so si sh ce ca td wa kp la bf oo bo pw ow tr)) rfl rfl rfl (Nat.le_of_ble_eq_true rfl) rfl (ab_rvOf w1 rfl) (L0_X4_isPerson (by omega) (by omega) (by omega) (by omega)) (by decide) rfl ?_
            refine E_if (t := 17) (b := true) rfl rfl (by decide) ?_
            refine E_aload_n rfl rfl ?_
            refine E_aload_n rfl rfl ?_
            refine E_getfield (v := .ref 1) rfl w0 rfl (by decide) rfl ?_
            refine E_iload_n rfl rfl ?_
            refine E_iload_n rfl rfl ?_
            have e1 : Ev ab_Z0 4 122 [.ref 0, .ref 1, .int (nI a1k), .int a2] (ww im lf s d k ls rf rz ra rn rq lt m1 m2 m3 m4 bd fc hd sz el s g fm hm so si sh ce ca td wa kp la bf oo bo pw ow tr) (some (.int (-1)), (ww im lf s d k ls rf rz ra rn rq lt m1 m2 m3 m4 bd fc hd sz el s g fm hm so si sh ce ca td wa kp la bf oo bo pw ow tr)) := by
              refine Ef.in (md := mX5_throwBy) (L := [some (.ref 0), some (.ref 1), some (.int (nI a1k)), some (.int a2), none]) rfl (Nat.le_of_ble_eq_true rfl) rfl ?_
              refine E_aload_n rfl rfl ?_
              refine E_iload_n rfl rfl ?_
              refine E_callV (v := some (.int (nI 1))) (As := [.ref 1, .int (nI a1k)]) (r0 := []) (cs2 := (ww im lf s d k ls rf rz ra rn rq lt m1 m2 m3 m4 bd fc hd sz el s g fm hm so si sh ce ca td wa kp la bf oo bo pw ow tr)) rfl rfl rfl (Nat.le_of_ble_eq_true rfl) rfl (ab_rvOf w1 rfl) (L0_X4_isPerson (by omega) (by omega) (by omega) (by omega)) (by decide) rfl ?_
              refine E_if (t := 18) (b := false) rfl rfl (by decide) ?_
              refine E_iload_n rfl rfl ?_
              refine E_aload_n rfl rfl ?_
              refine E_getfield (v := .ref 6) rfl w1 rfl (by decide) rfl ?_
              refine E_iload_n rfl rfl ?_
              refine E_ialN (l := qU s) (v := (qU s).getD a1k 0) rfl w6 (by omega) (by omega) rfl ?_
              refine E_ic (t := 20) (b := true) rfl rfl ((cn_le rfl (nI_toInt (by omega))).trans (decide_eq_true (by omega))) ?_
              refine E_aload_n rfl rfl ?_
              refine E_iload_n rfl rfl ?_
              refine E_aload_n rfl rfl ?_
              refine E_getfield (v := .ref 8) rfl w1 rfl (by decide) rfl ?_
              refine E_iload_n rfl rfl ?_
              refine E_ialN (l := qW s) (v := (qW s).getD a1k 0) rfl w8 (by omega) (by omega) rfl ?_
              refine E_callV (v := some (.int (nI (qPr s a1k ((qW s).getD a1k 0))))) (As := [.ref 1, .int (nI a1k), .int (nI ((qW s).getD a1k 0))]) (r0 := []) (cs2 := (ww im lf s d k ls rf rz ra rn rq lt m1 m2 m3 m4 bd fc hd sz el s g fm hm so si sh ce ca td wa kp la bf oo bo pw ow tr)) rfl rfl rfl (Nat.le_of_ble_eq_true rfl) rfl (ab_rvOf w1 rfl) (sq_priceFor w_q1 I (by omega) (by omega)) (by decide) rfl ?_
              refine E_istore (L2 := [some (.ref 0), some (.ref 1), some (.int (nI a1k)), some (.int a2), some (.int (nI (qPr s a1k ((qW s).getD a1k 0))))]) rfl rfl ?_
              refine E_iload_n rfl rfl ?_
              refine E_iload rfl rfl ?_
              refine E_ic (t := 43) (b := false) rfl rfl ((cn_ge rfl (nI_toInt (by omega))).trans (decide_eq_false (by omega))) ?_
              refine E_iconst (x := (-1)) rfl (by decide) ?_
              refine E_goto (t := 59) rfl rfl ?_
              exact E_iret rfl rfl
            refine E_callV (v := some (.int (-1))) (As := [.ref 0, .ref 1, .int (nI a1k), .int a2]) (r0 := []) (cs2 := (ww im lf s d k ls rf rz ra rn rq lt m1 m2 m3 m4 bd fc hd sz el s g fm hm so si sh ce ca td wa kp la bf oo bo pw ow tr)) rfl rfl rfl (Nat.le_of_ble_eq_true rfl) rfl (ab_rvOf w0 rfl) e1 (by decide) rfl ?_
            refine E_istore_n (L2 := [some (.ref 0), some (.int (nI a1k)), some (.int a2), some (.int (-1))]) rfl rfl ?_
            refine E_iload_n rfl rfl ?_
            refine E_iconst (x := (-1)) rfl (by decide) ?_
            refine E_ic (t := 40) (b := false) rfl rfl (by decide) ?_
            refine E_aload_n rfl rfl ?_
            refine E_bipush (x := nI 6) rfl (by decide) ?_
            refine E_callV (v := some (.int (-6))) (As := [.ref 0, .int (nI 6)]) (r0 := []) (cs2 := (ww im lf s d k ls rf rz ra rn rq lt m1 m2 m3 m4 bd (fc.set 6 ((fc.getD 6 0) + (nI 1))) hd sz el s g fm hm so si sh ce ca td wa kp la bf oo bo pw ow tr)) rfl rfl rfl (Nat.le_of_ble_eq_true rfl) rfl (ab_rvOf w0 rfl) (L26_X5_refuse (by omega)) (by decide) w_lens ?_
            exact E_iret rfl rfl
          · show Ev ab_Z0 5 197 [.ref 65, .int (nI a1k), .int a2] (ww im lf s d k ls rf rz ra rn rq lt m1 m2 m3 m4 bd (fc.set 6 ((fc.getD 6 0) + (nI 1))) hd sz el s g fm hm so si sh ce ca td wa kp la bf oo bo pw ow tr) (some (.int (-6)), (ww im lf s d k ls rf rz ra rn rq lt m1 m2 m3 m4 bd (fc.set 6 ((fc.getD 6 0) + (nI 1))) hd sz el s g (fm.set 6 ((fm.getD 6 0) + (nI 1))) hm so si sh ce ca td wa kp la (lsF (bst s (qPs s 99 (qN s)) (qN s) (2 ^ qN s))) oo bo pw ow tr))
            refine Ef.in (md := mX6_cast) (L := [some (.ref 65), some (.int (nI a1k)), some (.int a2), none]) rfl (Nat.le_of_ble_eq_true rfl) rfl ?_
            refine E_aload_n rfl rfl ?_
            refine E_iload_n rfl rfl ?_
            refine E_callV (v := some (.int (nI 1))) (As := [.ref 65, .int (nI a1k)]) (r0 := []) (cs2 := (ww im lf s d k ls rf rz ra rn rq lt m1 m2 m3 m4 bd (fc.set 6 ((fc.getD 6 0) + (nI 1))) hd sz el s g fm hm so si sh ce ca td wa kp la bf oo bo pw ow tr)) rfl rfl rfl (Nat.le_of_ble_eq_true rfl) rfl (ab_rvOf w65 rfl) (L2_X6_isOne (by omega) (by omega) (by omega) (by omega)) (by decide) rfl ?_
            refine E_if (t := 14) (b := true) rfl rfl (by decide) ?_
            refine E_aload_n rfl rfl ?_
            refine E_aload_n rfl rfl ?_
            refine E_bipush (x := nI 99) rfl (by decide) ?_
            refine E_callV (v := some (.int (nI (qPs s 99 (qN s))))) (As := [.ref 65, .int (nI 99)]) (r0 := [.ref 65]) (cs2 := (ww im lf s d k ls rf rz ra rn rq lt m1 m2 m3 m4 bd (fc.set 6 ((fc.getD 6 0) + (nI 1))) hd sz el s g fm hm so si sh ce ca td wa kp la bf oo bo pw ow tr)) rfl rfl rfl (Nat.le_of_ble_eq_true rfl) rfl (ab_rvOf w65 rfl) (mo_piecesOf w_m I (by omega)) (by decide) rfl ?_
            refine E_callV (v := none) (As := [.ref 65, .int (nI (qPs s 99 (qN s)))]) (r0 := []) (cs2 := (ww im lf s d k ls rf rz ra rn rq lt m1 m2 m3 m4 bd (fc.set 6 ((fc.getD 6 0) + (nI 1))) hd sz el s g fm hm so si sh ce ca td wa kp la (lsF (bst s (qPs s 99 (qN s)) (qN s) (2 ^ qN s))) oo bo pw ow tr)) rfl rfl rfl (Nat.le_of_ble_eq_true rfl) rfl (ab_rvOf w65 rfl) (w_best (m := qPs s 99 (qN s)) I (by omega) l_bf) (by decide) w_lens ?_
            refine E_aload_n rfl rfl ?_
            refine E_iload_n rfl rfl ?_
            refine E_iconst (x := nI 0) rfl (by decide) ?_
            refine E_bipush (x := nI 99) rfl (by decide) ?_
            refine E_callV (v := some (.int (nI 0))) (As := [.ref 65, .int a2, .int (nI 0), .int (nI 99)]) (r0 := []) (cs2 := (ww im lf s d k ls rf rz ra rn rq lt m1 m2 m3 m4 bd (fc.set 6 ((fc.getD 6 0) + (nI 1))) hd sz el s g fm hm so si sh ce ca td wa kp la (lsF (bst s (qPs s 99 (qN s)) (qN s) (2 ^ qN s))) oo bo pw ow tr)) rfl rfl rfl (Nat.le_of_ble_eq_true rfl) rfl (ab_rvOf w65 rfl) (L89_X6_isFrom (by omega) (by omega)) (by decide) rfl ?_
            refine E_if (t := 44) (b := true) rfl rfl (by decide) ?_
            refine E_iconst (x := (-1)) rfl (by decide) ?_
            refine E_istore_n (L2 := [some (.ref 65), some (.int (nI a1k)), some (.int a2), some (.int (-1))]) rfl rfl ?_
            refine E_iload_n rfl rfl ?_
            refine E_iconst (x := (-1)) rfl (by decide) ?_
            refine E_ic (t := 58) (b := false) rfl rfl (by decide) ?_
            refine E_aload_n rfl rfl ?_
            refine E_bipush (x := (-6)) rfl (by decide) ?_
            refine E_callV (v := some (.int (-6))) (As := [.ref 65, .int (-6)]) (r0 := []) (cs2 := (ww im lf s d k ls rf rz ra rn rq lt m1 m2 m3 m4 bd (fc.set 6 ((fc.getD 6 0) + (nI 1))) hd sz el s g (fm.set 6 ((fm.getD 6 0) + (nI 1))) hm so si sh ce ca td wa kp la (lsF (bst s (qPs s 99 (qN s)) (qN s) (2 ^ qN s))) oo bo pw ow tr)) rfl rfl rfl (Nat.le_of_ble_eq_true rfl) rfl (ab_rvOf w65 rfl) (L28_X6_no (by omega)) (by decide) w_lens ?_
            exact E_iret rfl rfl
          · exact ⟨I, rfl, hf, ⟨⟨d0, d1, d2, d3, d4, d5, d6, d7, d8⟩, ⟨k0, k1, k2, k3, k4, k5, k6, k7, k8⟩, ⟨r0, r1, r2, r3, r4, r5, r6, r7, r8⟩⟩, iM, iT, iS, l_el, l_ls, l_lt, l_bd, (by simp only [List.length_set]; exact l_fc), (by simp only [List.length_set]; exact l_fm), l_hm, l_so, l_si, l_sh, l_ce, l_ca, l_td, l_wa, l_kp, l_la, (lsF_len _), l_oo, l_bo, l_pw, l_ow, l_tr⟩
      · have er2 : (qR s).toInt = 0 := by rw [er]; rfl
        refine ⟨(-1), (im, lf, s, d, k, ls, rf, rz, ra, rn, rq, lt, m1, m2, m3, m4, bd, (fc.set 1 ((fc.getD 1 0) + (nI 1))), hd, sz, el, s, g, fm, hm, so, si, sh, ce, ca, td, wa, kp, la, bf, oo, bo, pw, ow, tr), (im, lf, s, d, k, ls, rf, rz, ra, rn, rq, lt, m1, m2, m3, m4, bd, (fc.set 1 ((fc.getD 1 0) + (nI 1))), hd, sz, el, s, g, (fm.set 1 ((fm.getD 1 0) + (nI 1))), hm, so, si, sh, ce, ca, td, wa, kp, la, bf, oo, bo, pw, ow, tr), ?_, ?_, ?_⟩
        · show Ev ab_Z0 6 106 [.ref 0, .int (nI a1k), .int a2] (ww im lf s d k ls rf rz ra rn rq lt m1 m2 m3 m4 bd fc hd sz el s g fm hm so si sh ce ca td wa kp la bf oo bo pw ow tr) (some (.int (-1)), (ww im lf s d k ls rf rz ra rn rq lt m1 m2 m3 m4 bd (fc.set 1 ((fc.getD 1 0) + (nI 1))) hd sz el s g fm hm so si sh ce ca td wa kp la bf oo bo pw ow tr))
          refine Ef.in (md := mX5_cast) (L := [some (.ref 0), some (.int (nI a1k)), some (.int a2), none]) rfl (Nat.le_of_ble_eq_true rfl) rfl ?_
          refine E_aload_n rfl rfl ?_
          refine E_getfield (v := .ref 1) rfl w0 rfl (by decide) rfl ?_
          refine E_iload_n rfl rfl ?_
          refine E_callV (v := some (.int (nI 0))) (As := [.ref 1, .int (nI a1k)]) (r0 := []) (cs2 := (ww im lf s d k ls rf rz ra rn rq lt m1 m2 m3 m4 bd fc hd sz el s g fm hm so si sh ce ca td wa kp la bf oo bo pw ow tr)) rfl rfl rfl (Nat.le_of_ble_eq_true rfl) rfl (ab_rvOf w1 rfl) (L11_X4_isPerson (by omega) (by omega) (by omega) (by omega)) (by decide) rfl ?_
          refine E_if (t := 17) (b := false) rfl rfl (by decide) ?_
          refine E_aload_n rfl rfl ?_
          refine E_iconst (x := nI 1) rfl (by decide) ?_
          refine E_callV (v := some (.int (-1))) (As := [.ref 0, .int (nI 1)]) (r0 := []) (cs2 := (ww im lf s d k ls rf rz ra rn rq lt m1 m2 m3 m4 bd (fc.set 1 ((fc.getD 1 0) + (nI 1))) hd sz el s g fm hm so si sh ce ca td wa kp la bf oo bo pw ow tr)) rfl rfl rfl (Nat.le_of_ble_eq_true rfl) rfl (ab_rvOf w0 rfl) (L6_X5_refuse (by omega)) (by decide) w_lens ?_
          exact E_iret rfl rfl
        · show Ev ab_Z0 5 197 [.ref 65, .int (nI a1k), .int a2] (ww im lf s d k ls rf rz ra rn rq lt m1 m2 m3 m4 bd (fc.set 1 ((fc.getD 1 0) + (nI 1))) hd sz el s g fm hm so si sh ce ca td wa kp la bf oo bo pw ow tr) (some (.int (-1)), (ww im lf s d k ls rf rz ra rn rq lt m1 m2 m3 m4 bd (fc.set 1 ((fc.getD 1 0) + (nI 1))) hd sz el s g (fm.set 1 ((fm.getD 1 0) + (nI 1))) hm so si sh ce ca td wa kp la bf oo bo pw ow tr))
          refine Ef.in (md := mX6_cast) (L := [some (.ref 65), some (.int (nI a1k)), some (.int a2), none]) rfl (Nat.le_of_ble_eq_true rfl) rfl ?_
          refine E_aload_n rfl rfl ?_
          refine E_iload_n rfl rfl ?_
          refine E_callV (v := some (.int (nI 0))) (As := [.ref 65, .int (nI a1k)]) (r0 := []) (cs2 := (ww im lf s d k ls rf rz ra rn rq lt m1 m2 m3 m4 bd (fc.set 1 ((fc.getD 1 0) + (nI 1))) hd sz el s g fm hm so si sh ce ca td wa kp la bf oo bo pw ow tr)) rfl rfl rfl (Nat.le_of_ble_eq_true rfl) rfl (ab_rvOf w65 rfl) (L12_X6_isOne (by omega) (by omega) (by omega) (by omega)) (by decide) rfl ?_
          refine E_if (t := 14) (b := false) rfl rfl (by decide) ?_
          refine E_aload_n rfl rfl ?_
          refine E_iconst (x := (-1)) rfl (by decide) ?_
          refine E_callV (v := some (.int (-1))) (As := [.ref 65, .int (-1)]) (r0 := []) (cs2 := (ww im lf s d k ls rf rz ra rn rq lt m1 m2 m3 m4 bd (fc.set 1 ((fc.getD 1 0) + (nI 1))) hd sz el s g (fm.set 1 ((fm.getD 1 0) + (nI 1))) hm so si sh ce ca td wa kp la bf oo bo pw ow tr)) rfl rfl rfl (Nat.le_of_ble_eq_true rfl) rfl (ab_rvOf w65 rfl) (L8_X6_no (by omega)) (by decide) w_lens ?_
          exact E_iret rfl rfl
        · exact ⟨I, rfl, hf, ⟨⟨d0, d1, d2, d3, d4, d5, d6, d7, d8⟩, ⟨k0, k1, k2, k3, k4, k5, k6, k7, k8⟩, ⟨r0, r1, r2, r3, r4, r5, r6, r7, r8⟩⟩, iM, iT, iS, l_el, l_ls, l_lt, l_bd, (by simp only [List.length_set]; exact l_fc), (by simp only [List.length_set]; exact l_fm), l_hm, l_so, l_si, l_sh, l_ce, l_ca, l_td, l_wa, l_kp, l_la, l_bf, l_oo, l_bo, l_pw, l_ow, l_tr⟩
    · have er2 : (qR s).toInt = 0 := by rw [er]; rfl
      refine ⟨(-1), (im, lf, s, d, k, ls, rf, rz, ra, rn, rq, lt, m1, m2, m3, m4, bd, (fc.set 1 ((fc.getD 1 0) + (nI 1))), hd, sz, el, s, g, fm, hm, so, si, sh, ce, ca, td, wa, kp, la, bf, oo, bo, pw, ow, tr), (im, lf, s, d, k, ls, rf, rz, ra, rn, rq, lt, m1, m2, m3, m4, bd, (fc.set 1 ((fc.getD 1 0) + (nI 1))), hd, sz, el, s, g, (fm.set 1 ((fm.getD 1 0) + (nI 1))), hm, so, si, sh, ce, ca, td, wa, kp, la, bf, oo, bo, pw, ow, tr), ?_, ?_, ?_⟩
      · show Ev ab_Z0 6 106 [.ref 0, .int a1, .int a2] (ww im lf s d k ls rf rz ra rn rq lt m1 m2 m3 m4 bd fc hd sz el s g fm hm so si sh ce ca td wa kp la bf oo bo pw ow tr) (some (.int (-1)), (ww im lf s d k ls rf rz ra rn rq lt m1 m2 m3 m4 bd (fc.set 1 ((fc.getD 1 0) + (nI 1))) hd sz el s g fm hm so si sh ce ca td wa kp la bf oo bo pw ow tr))
        refine Ef.in (md := mX5_cast) (L := [some (.ref 0), some (.int a1), some (.int a2), none]) rfl (Nat.le_of_ble_eq_true rfl) rfl ?_
        refine E_aload_n rfl rfl ?_
        refine E_getfield (v := .ref 1) rfl w0 rfl (by decide) rfl ?_
        refine E_iload_n rfl rfl ?_
        refine E_callV (v := some (.int (nI 0))) (As := [.ref 1, .int a1]) (r0 := []) (cs2 := (ww im lf s d k ls rf rz ra rn rq lt m1 m2 m3 m4 bd fc hd sz el s g fm hm so si sh ce ca td wa kp la bf oo bo pw ow tr)) rfl rfl rfl (Nat.le_of_ble_eq_true rfl) rfl (ab_rvOf w1 rfl) (L13_X4_isPerson (by omega) (by omega)) (by decide) rfl ?_
        refine E_if (t := 17) (b := false) rfl rfl (by decide) ?_
        refine E_aload_n rfl rfl ?_
        refine E_iconst (x := nI 1) rfl (by decide) ?_
        refine E_callV (v := some (.int (-1))) (As := [.ref 0, .int (nI 1)]) (r0 := []) (cs2 := (ww im lf s d k ls rf rz ra rn rq lt m1 m2 m3 m4 bd (fc.set 1 ((fc.getD 1 0) + (nI 1))) hd sz el s g fm hm so si sh ce ca td wa kp la bf oo bo pw ow tr)) rfl rfl rfl (Nat.le_of_ble_eq_true rfl) rfl (ab_rvOf w0 rfl) (L6_X5_refuse (by omega)) (by decide) w_lens ?_
        exact E_iret rfl rfl
      · show Ev ab_Z0 5 197 [.ref 65, .int a1, .int a2] (ww im lf s d k ls rf rz ra rn rq lt m1 m2 m3 m4 bd (fc.set 1 ((fc.getD 1 0) + (nI 1))) hd sz el s g fm hm so si sh ce ca td wa kp la bf oo bo pw ow tr) (some (.int (-1)), (ww im lf s d k ls rf rz ra rn rq lt m1 m2 m3 m4 bd (fc.set 1 ((fc.getD 1 0) + (nI 1))) hd sz el s g (fm.set 1 ((fm.getD 1 0) + (nI 1))) hm so si sh ce ca td wa kp la bf oo bo pw ow tr))
        refine Ef.in (md := mX6_cast) (L := [some (.ref 65), some (.int a1), some (.int a2), none]) rfl (Nat.le_of_ble_eq_true rfl) rfl ?_
        refine E_aload_n rfl rfl ?_
        refine E_iload_n rfl rfl ?_
        refine E_callV (v := some (.int (nI 0))) (As := [.ref 65, .int a1]) (r0 := []) (cs2 := (ww im lf s d k ls rf rz ra rn rq lt m1 m2 m3 m4 bd (fc.set 1 ((fc.getD 1 0) + (nI 1))) hd sz el s g fm hm so si sh ce ca td wa kp la bf oo bo pw ow tr)) rfl rfl rfl (Nat.le_of_ble_eq_true rfl) rfl (ab_rvOf w65 rfl) (L14_X6_isOne (by omega) (by omega)) (by decide) rfl ?_
        refine E_if (t := 14) (b := false) rfl rfl (by decide) ?_
        refine E_aload_n rfl rfl ?_
        refine E_iconst (x := (-1)) rfl (by decide) ?_
        refine E_callV (v := some (.int (-1))) (As := [.ref 65, .int (-1)]) (r0 := []) (cs2 := (ww im lf s d k ls rf rz ra rn rq lt m1 m2 m3 m4 bd (fc.set 1 ((fc.getD 1 0) + (nI 1))) hd sz el s g (fm.set 1 ((fm.getD 1 0) + (nI 1))) hm so si sh ce ca td wa kp la bf oo bo pw ow tr)) rfl rfl rfl (Nat.le_of_ble_eq_true rfl) rfl (ab_rvOf w65 rfl) (L8_X6_no (by omega)) (by decide) w_lens ?_
        exact E_iret rfl rfl
      · exact ⟨I, rfl, hf, ⟨⟨d0, d1, d2, d3, d4, d5, d6, d7, d8⟩, ⟨k0, k1, k2, k3, k4, k5, k6, k7, k8⟩, ⟨r0, r1, r2, r3, r4, r5, r6, r7, r8⟩⟩, iM, iT, iS, l_el, l_ls, l_lt, l_bd, (by simp only [List.length_set]; exact l_fc), (by simp only [List.length_set]; exact l_fm), l_hm, l_so, l_si, l_sh, l_ce, l_ca, l_td, l_wa, l_kp, l_la, l_bf, l_oo, l_bo, l_pw, l_ow, l_tr⟩
  · rcases ab_int a1 with ⟨a1k, f1, rfl⟩ | f1
    · by_cases f2 : a1k < (qM s)
      · rcases ab_int a2 with ⟨a2k, f3, rfl⟩ | f3
        · by_cases f4 : ((qU s).getD a1k 0) < a2k
          · by_cases f5 : 99 < a2k
            · have er2 : (qR s).toInt = 1 := by rw [er]; rfl
              have := I2 a1k (by omega)
              have := qPs_in s 99 (i := qN s) (by omega)
              refine ⟨(-6), (im, lf, s, d, k, ls, rf, rz, ra, rn, rq, lt, m1, m2, m3, m4, bd, (fc.set 6 ((fc.getD 6 0) + (nI 1))), hd, sz, el, s, g, fm, hm, so, si, sh, ce, ca, td, wa, kp, la, bf, oo, bo, pw, ow, tr), (im, lf, s, d, k, ls, rf, rz, ra, rn, rq, lt, m1, m2, m3, m4, bd, (fc.set 6 ((fc.getD 6 0) + (nI 1))), hd, sz, el, s, g, (fm.set 6 ((fm.getD 6 0) + (nI 1))), hm, so, si, sh, ce, ca, td, wa, kp, la, (lsF (bst s (qPs s 99 (qN s)) (qN s) (2 ^ qN s))), oo, bo, pw, ow, tr), ?_, ?_, ?_⟩
              · show Ev ab_Z0 6 106 [.ref 0, .int (nI a1k), .int (nI a2k)] (ww im lf s d k ls rf rz ra rn rq lt m1 m2 m3 m4 bd fc hd sz el s g fm hm so si sh ce ca td wa kp la bf oo bo pw ow tr) (some (.int (-6)), (ww im lf s d k ls rf rz ra rn rq lt m1 m2 m3 m4 bd (fc.set 6 ((fc.getD 6 0) + (nI 1))) hd sz el s g fm hm so si sh ce ca td wa kp la bf oo bo pw ow tr))
                refine Ef.in (md := mX5_cast) (L := [some (.ref 0), some (.int (nI a1k)), some (.int (nI a2k)), none]) rfl (Nat.le_of_ble_eq_true rfl) rfl ?_
                refine E_aload_n rfl rfl ?_
                refine E_getfield (v := .ref 1) rfl w0 rfl (by decide) rfl ?_
                refine E_iload_n rfl rfl ?_
                refine E_callV (v := some (.int (nI 1))) (As := [.ref 1, .int (nI a1k)]) (r0 := []) (cs2 := (ww im lf s d k ls rf rz ra rn rq lt m1 m2 m3 m4 bd fc hd sz el s g fm hm so si sh ce ca td wa kp la bf oo bo pw ow tr)) rfl rfl rfl (Nat.le_of_ble_eq_true rfl) rfl (ab_rvOf w1 rfl) (L0_X4_isPerson (by omega) (by omega) (by omega) (by omega)) (by decide) rfl ?_
                refine E_if (t := 17) (b := true) rfl rfl (by decide) ?_
                refine E_aload_n rfl rfl ?_
                refine E_aload_n rfl rfl ?_
                refine E_getfield (v := .ref 1) rfl w0 rfl (by decide) rfl ?_
                refine E_iload_n rfl rfl ?_
                refine E_iload_n rfl rfl ?_
                have e1 : Ev ab_Z0 2 122 [.ref 0, .ref 1, .int (nI a1k), .int (nI a2k)] (ww im lf s d k ls rf rz ra rn rq lt m1 m2 m3 m4 bd fc hd sz el s g fm hm so si sh ce ca td wa kp la bf oo bo pw ow tr) (some (.int (-1)), (ww im lf s d k ls rf rz ra rn rq lt m1 m2 m3 m4 bd fc hd sz el s g fm hm so si sh ce ca td wa kp la bf oo bo pw ow tr)) := by
                  refine Ef.in (md := mX5_throwBy) (L := [some (.ref 0), some (.ref 1), some (.int (nI a1k)), some (.int (nI a2k)), none]) rfl (Nat.le_of_ble_eq_true rfl) rfl ?_
                  refine E_aload_n rfl rfl ?_
                  refine E_iload_n rfl rfl ?_
                  refine E_callV (v := some (.int (nI 1))) (As := [.ref 1, .int (nI a1k)]) (r0 := []) (cs2 := (ww im lf s d k ls rf rz ra rn rq lt m1 m2 m3 m4 bd fc hd sz el s g fm hm so si sh ce ca td wa kp la bf oo bo pw ow tr)) rfl rfl rfl (Nat.le_of_ble_eq_true rfl) rfl (ab_rvOf w1 rfl) (L0_X4_isPerson (by omega) (by omega) (by omega) (by omega)) (by decide) rfl ?_
                  refine E_if (t := 18) (b := false) rfl rfl (by decide) ?_
                  refine E_iload_n rfl rfl ?_
                  refine E_aload_n rfl rfl ?_
                  refine E_getfield (v := .ref 6) rfl w1 rfl (by decide) rfl ?_
                  refine E_iload_n rfl rfl ?_
                  refine E_ialN (l := qU s) (v := (qU s).getD a1k 0) rfl w6 (by omega) (by omega) rfl ?_
                  refine E_ic (t := 20) (b := false) rfl rfl ((cn_le (nI_toInt (by omega)) (nI_toInt (by omega))).trans (decide_eq_false (by omega))) ?_
                  refine E_iconst (x := (-1)) rfl (by decide) ?_
                  exact E_iret rfl rfl
                refine E_callV (v := some (.int (-1))) (As := [.ref 0, .ref 1, .int (nI a1k), .int (nI a2k)]) (r0 := []) (cs2 := (ww im lf s d k ls rf rz ra rn rq lt m1 m2 m3 m4 bd fc hd sz el s g fm hm so si sh ce ca td wa kp la bf oo bo pw ow tr)) rfl rfl rfl (Nat.le_of_ble_eq_true rfl) rfl (ab_rvOf w0 rfl) e1 (by decide) rfl ?_
                refine E_istore_n (L2 := [some (.ref 0), some (.int (nI a1k)), some (.int (nI a2k)), some (.int (-1))]) rfl rfl ?_
                refine E_iload_n rfl rfl ?_
                refine E_iconst (x := (-1)) rfl (by decide) ?_
                refine E_ic (t := 40) (b := false) rfl rfl (by decide) ?_
                refine E_aload_n rfl rfl ?_
                refine E_bipush (x := nI 6) rfl (by decide) ?_
                refine E_callV (v := some (.int (-6))) (As := [.ref 0, .int (nI 6)]) (r0 := []) (cs2 := (ww im lf s d k ls rf rz ra rn rq lt m1 m2 m3 m4 bd (fc.set 6 ((fc.getD 6 0) + (nI 1))) hd sz el s g fm hm so si sh ce ca td wa kp la bf oo bo pw ow tr)) rfl rfl rfl (Nat.le_of_ble_eq_true rfl) rfl (ab_rvOf w0 rfl) (L26_X5_refuse (by omega)) (by decide) w_lens ?_
                exact E_iret rfl rfl
              · show Ev ab_Z0 5 197 [.ref 65, .int (nI a1k), .int (nI a2k)] (ww im lf s d k ls rf rz ra rn rq lt m1 m2 m3 m4 bd (fc.set 6 ((fc.getD 6 0) + (nI 1))) hd sz el s g fm hm so si sh ce ca td wa kp la bf oo bo pw ow tr) (some (.int (-6)), (ww im lf s d k ls rf rz ra rn rq lt m1 m2 m3 m4 bd (fc.set 6 ((fc.getD 6 0) + (nI 1))) hd sz el s g (fm.set 6 ((fm.getD 6 0) + (nI 1))) hm so si sh ce ca td wa kp la (lsF (bst s (qPs s 99 (qN s)) (qN s) (2 ^ qN s))) oo bo pw ow tr))
                refine Ef.in (md := mX6_cast) (L := [some (.ref 65), some (.int (nI a1k)), some (.int (nI a2k)), none]) rfl (Nat.le_of_ble_eq_true rfl) rfl ?_
                refine E_aload_n rfl rfl ?_
                refine E_iload_n rfl rfl ?_
                refine E_callV (v := some (.int (nI 1))) (As := [.ref 65, .int (nI a1k)]) (r0 := []) (cs2 := (ww im lf s d k ls rf rz ra rn rq lt m1 m2 m3 m4 bd (fc.set 6 ((fc.getD 6 0) + (nI 1))) hd sz el s g fm hm so si sh ce ca td wa kp la bf oo bo pw ow tr)) rfl rfl rfl (Nat.le_of_ble_eq_true rfl) rfl (ab_rvOf w65 rfl) (L2_X6_isOne (by omega) (by omega) (by omega) (by omega)) (by decide) rfl ?_
                refine E_if (t := 14) (b := true) rfl rfl (by decide) ?_
                refine E_aload_n rfl rfl ?_
                refine E_aload_n rfl rfl ?_
                refine E_bipush (x := nI 99) rfl (by decide) ?_
                refine E_callV (v := some (.int (nI (qPs s 99 (qN s))))) (As := [.ref 65, .int (nI 99)]) (r0 := [.ref 65]) (cs2 := (ww im lf s d k ls rf rz ra rn rq lt m1 m2 m3 m4 bd (fc.set 6 ((fc.getD 6 0) + (nI 1))) hd sz el s g fm hm so si sh ce ca td wa kp la bf oo bo pw ow tr)) rfl rfl rfl (Nat.le_of_ble_eq_true rfl) rfl (ab_rvOf w65 rfl) (mo_piecesOf w_m I (by omega)) (by decide) rfl ?_
                refine E_callV (v := none) (As := [.ref 65, .int (nI (qPs s 99 (qN s)))]) (r0 := []) (cs2 := (ww im lf s d k ls rf rz ra rn rq lt m1 m2 m3 m4 bd (fc.set 6 ((fc.getD 6 0) + (nI 1))) hd sz el s g fm hm so si sh ce ca td wa kp la (lsF (bst s (qPs s 99 (qN s)) (qN s) (2 ^ qN s))) oo bo pw ow tr)) rfl rfl rfl (Nat.le_of_ble_eq_true rfl) rfl (ab_rvOf w65 rfl) (w_best (m := qPs s 99 (qN s)) I (by omega) l_bf) (by decide) w_lens ?_
                refine E_aload_n rfl rfl ?_
                refine E_iload_n rfl rfl ?_
                refine E_iconst (x := nI 0) rfl (by decide) ?_
                refine E_bipush (x := nI 99) rfl (by decide) ?_
                refine E_callV (v := some (.int (nI 0))) (As := [.ref 65, .int (nI a2k), .int (nI 0), .int (nI 99)]) (r0 := []) (cs2 := (ww im lf s d k ls rf rz ra rn rq lt m1 m2 m3 m4 bd (fc.set 6 ((fc.getD 6 0) + (nI 1))) hd sz el s g fm hm so si sh ce ca td wa kp la (lsF (bst s (qPs s 99 (qN s)) (qN s) (2 ^ qN s))) oo bo pw ow tr)) rfl rfl rfl (Nat.le_of_ble_eq_true rfl) rfl (ab_rvOf w65 rfl) (L83_X6_isFrom (by omega) (by omega) (by omega)) (by decide) rfl ?_
                refine E_if (t := 44) (b := true) rfl rfl (by decide) ?_
                refine E_iconst (x := (-1)) rfl (by decide) ?_
                refine E_istore_n (L2 := [some (.ref 65), some (.int (nI a1k)), some (.int (nI a2k)), some (.int (-1))]) rfl rfl ?_
                refine E_iload_n rfl rfl ?_
                refine E_iconst (x := (-1)) rfl (by decide) ?_
                refine E_ic (t := 58) (b := false) rfl rfl (by decide) ?_
                refine E_aload_n rfl rfl ?_
                refine E_bipush (x := (-6)) rfl (by decide) ?_
                refine E_callV (v := some (.int (-6))) (As := [.ref 65, .int (-6)]) (r0 := []) (cs2 := (ww im lf s d k ls rf rz ra rn rq lt m1 m2 m3 m4 bd (fc.set 6 ((fc.getD 6 0) + (nI 1))) hd sz el s g (fm.set 6 ((fm.getD 6 0) + (nI 1))) hm so si sh ce ca td wa kp la (lsF (bst s (qPs s 99 (qN s)) (qN s) (2 ^ qN s))) oo bo pw ow tr)) rfl rfl rfl (Nat.le_of_ble_eq_true rfl) rfl (ab_rvOf w65 rfl) (L28_X6_no (by omega)) (by decide) w_lens ?_
                exact E_iret rfl rfl
              · exact ⟨I, rfl, hf, ⟨⟨d0, d1, d2, d3, d4, d5, d6, d7, d8⟩, ⟨k0, k1, k2, k3, k4, k5, k6, k7, k8⟩, ⟨r0, r1, r2, r3, r4, r5, r6, r7, r8⟩⟩, iM, iT, iS, l_el, l_ls, l_lt, l_bd, (by simp only [List.length_set]; exact l_fc), (by simp only [List.length_set]; exact l_fm), l_hm, l_so, l_si, l_sh, l_ce, l_ca, l_td, l_wa, l_kp, l_la, (lsF_len _), l_oo, l_bo, l_pw, l_ow, l_tr⟩
            · have er2 : (qR s).toInt = 1 := by rw [er]; rfl
              have := I2 a1k (by omega)
              have := qPs_in s 99 (i := qN s) (by omega)
              have := qPr_in I a1k (w := ((qW s).getD a1k 0)) (by omega)
              refine ⟨(-6), (im, lf, s, d, k, ls, rf, rz, ra, rn, rq, lt, m1, m2, m3, m4, bd, (fc.set 6 ((fc.getD 6 0) + (nI 1))), hd, sz, el, s, g, fm, hm, so, si, sh, ce, ca, td, wa, kp, la, bf, oo, bo, pw, ow, tr), (im, lf, s, d, k, ls, rf, rz, ra, rn, rq, lt, m1, m2, m3, m4, bd, (fc.set 6 ((fc.getD 6 0) + (nI 1))), hd, sz, el, s, g, (fm.set 6 ((fm.getD 6 0) + (nI 1))), hm, so, si, sh, ce, ca, td, wa, kp, la, (lsF (bst s (qPs s 99 (qN s)) (qN s) (2 ^ qN s))), oo, bo, pw, ow, tr), ?_, ?_, ?_⟩
              · show Ev ab_Z0 6 106 [.ref 0, .int (nI a1k), .int (nI a2k)] (ww im lf s d k ls rf rz ra rn rq lt m1 m2 m3 m4 bd fc hd sz el s g fm hm so si sh ce ca td wa kp la bf oo bo pw ow tr) (some (.int (-6)), (ww im lf s d k ls rf rz ra rn rq lt m1 m2 m3 m4 bd (fc.set 6 ((fc.getD 6 0) + (nI 1))) hd sz el s g fm hm so si sh ce ca td wa kp la bf oo bo pw ow tr))
                refine Ef.in (md := mX5_cast) (L := [some (.ref 0), some (.int (nI a1k)), some (.int (nI a2k)), none]) rfl (Nat.le_of_ble_eq_true rfl) rfl ?_
                refine E_aload_n rfl rfl ?_
                refine E_getfield (v := .ref 1) rfl w0 rfl (by decide) rfl ?_
                refine E_iload_n rfl rfl ?_
                refine E_callV (v := some (.int (nI 1))) (As := [.ref 1, .int (nI a1k)]) (r0 := []) (cs2 := (ww im lf s d k ls rf rz ra rn rq lt m1 m2 m3 m4 bd fc hd sz el s g fm hm so si sh ce ca td wa kp la bf oo bo pw ow tr)) rfl rfl rfl (Nat.le_of_ble_eq_true rfl) rfl (ab_rvOf w1 rfl) (L0_X4_isPerson (by omega) (by omega) (by omega) (by omega)) (by decide) rfl ?_
                refine E_if (t := 17) (b := true) rfl rfl (by decide) ?_
                refine E_aload_n rfl rfl ?_
                refine E_aload_n rfl rfl ?_
                refine E_getfield (v := .ref 1) rfl w0 rfl (by decide) rfl ?_
                refine E_iload_n rfl rfl ?_
                refine E_iload_n rfl rfl ?_
                have e1 : Ev ab_Z0 2 122 [.ref 0, .ref 1, .int (nI a1k), .int (nI a2k)] (ww im lf s d k ls rf rz ra rn rq lt m1 m2 m3 m4 bd fc hd sz el s g fm hm so si sh ce ca td wa kp la bf oo bo pw ow tr) (some (.int (-1)), (ww im lf s d k ls rf rz ra rn rq lt m1 m2 m3 m4 bd fc hd sz el s g fm hm so si sh ce ca td wa kp la bf oo bo pw ow tr)) := by
                  refine Ef.in (md := mX5_throwBy) (L := [some (.ref 0), some (.ref 1), some (.int (nI a1k)), some (.int (nI a2k)), none]) rfl (Nat.le_of_ble_eq_true rfl) rfl ?_
                  refine E_aload_n rfl rfl ?_
                  refine E_iload_n rfl rfl ?_
                  refine E_callV (v := some (.int (nI 1))) (As := [.ref 1, .int (nI a1k)]) (r0 := []) (cs2 := (ww im lf s d k ls rf rz ra rn rq lt m1 m2 m3 m4 bd fc hd sz el s g fm hm so si sh ce ca td wa kp la bf oo bo pw ow tr)) rfl rfl rfl (Nat.le_of_ble_eq_true rfl) rfl (ab_rvOf w1 rfl) (L0_X4_isPerson (by omega) (by omega) (by omega) (by omega)) (by decide) rfl ?_
                  refine E_if (t := 18) (b := false) rfl rfl (by decide) ?_
                  refine E_iload_n rfl rfl ?_
                  refine E_aload_n rfl rfl ?_
                  refine E_getfield (v := .ref 6) rfl w1 rfl (by decide) rfl ?_
                  refine E_iload_n rfl rfl ?_
                  refine E_ialN (l := qU s) (v := (qU s).getD a1k 0) rfl w6 (by omega) (by omega) rfl ?_
                  refine E_ic (t := 20) (b := false) rfl rfl ((cn_le (nI_toInt (by omega)) (nI_toInt (by omega))).trans (decide_eq_false (by omega))) ?_
                  refine E_iconst (x := (-1)) rfl (by decide) ?_
                  exact E_iret rfl rfl
                refine E_callV (v := some (.int (-1))) (As := [.ref 0, .ref 1, .int (nI a1k), .int (nI a2k)]) (r0 := []) (cs2 := (ww im lf s d k ls rf rz ra rn rq lt m1 m2 m3 m4 bd fc hd sz el s g fm hm so si sh ce ca td wa kp la bf oo bo pw ow tr)) rfl rfl rfl (Nat.le_of_ble_eq_true rfl) rfl (ab_rvOf w0 rfl) e1 (by decide) rfl ?_
                refine E_istore_n (L2 := [some (.ref 0), some (.int (nI a1k)), some (.int (nI a2k)), some (.int (-1))]) rfl rfl ?_
                refine E_iload_n rfl rfl ?_
                refine E_iconst (x := (-1)) rfl (by decide) ?_
                refine E_ic (t := 40) (b := false) rfl rfl (by decide) ?_
                refine E_aload_n rfl rfl ?_
                refine E_bipush (x := nI 6) rfl (by decide) ?_
                refine E_callV (v := some (.int (-6))) (As := [.ref 0, .int (nI 6)]) (r0 := []) (cs2 := (ww im lf s d k ls rf rz ra rn rq lt m1 m2 m3 m4 bd (fc.set 6 ((fc.getD 6 0) + (nI 1))) hd sz el s g fm hm so si sh ce ca td wa kp la bf oo bo pw ow tr)) rfl rfl rfl (Nat.le_of_ble_eq_true rfl) rfl (ab_rvOf w0 rfl) (L26_X5_refuse (by omega)) (by decide) w_lens ?_
                exact E_iret rfl rfl
              · show Ev ab_Z0 5 197 [.ref 65, .int (nI a1k), .int (nI a2k)] (ww im lf s d k ls rf rz ra rn rq lt m1 m2 m3 m4 bd (fc.set 6 ((fc.getD 6 0) + (nI 1))) hd sz el s g fm hm so si sh ce ca td wa kp la bf oo bo pw ow tr) (some (.int (-6)), (ww im lf s d k ls rf rz ra rn rq lt m1 m2 m3 m4 bd (fc.set 6 ((fc.getD 6 0) + (nI 1))) hd sz el s g (fm.set 6 ((fm.getD 6 0) + (nI 1))) hm so si sh ce ca td wa kp la (lsF (bst s (qPs s 99 (qN s)) (qN s) (2 ^ qN s))) oo bo pw ow tr))
                refine Ef.in (md := mX6_cast) (L := [some (.ref 65), some (.int (nI a1k)), some (.int (nI a2k)), none]) rfl (Nat.le_of_ble_eq_true rfl) rfl ?_
                refine E_aload_n rfl rfl ?_
                refine E_iload_n rfl rfl ?_
                refine E_callV (v := some (.int (nI 1))) (As := [.ref 65, .int (nI a1k)]) (r0 := []) (cs2 := (ww im lf s d k ls rf rz ra rn rq lt m1 m2 m3 m4 bd (fc.set 6 ((fc.getD 6 0) + (nI 1))) hd sz el s g fm hm so si sh ce ca td wa kp la bf oo bo pw ow tr)) rfl rfl rfl (Nat.le_of_ble_eq_true rfl) rfl (ab_rvOf w65 rfl) (L2_X6_isOne (by omega) (by omega) (by omega) (by omega)) (by decide) rfl ?_
                refine E_if (t := 14) (b := true) rfl rfl (by decide) ?_
                refine E_aload_n rfl rfl ?_
                refine E_aload_n rfl rfl ?_
                refine E_bipush (x := nI 99) rfl (by decide) ?_
                refine E_callV (v := some (.int (nI (qPs s 99 (qN s))))) (As := [.ref 65, .int (nI 99)]) (r0 := [.ref 65]) (cs2 := (ww im lf s d k ls rf rz ra rn rq lt m1 m2 m3 m4 bd (fc.set 6 ((fc.getD 6 0) + (nI 1))) hd sz el s g fm hm so si sh ce ca td wa kp la bf oo bo pw ow tr)) rfl rfl rfl (Nat.le_of_ble_eq_true rfl) rfl (ab_rvOf w65 rfl) (mo_piecesOf w_m I (by omega)) (by decide) rfl ?_
                refine E_callV (v := none) (As := [.ref 65, .int (nI (qPs s 99 (qN s)))]) (r0 := []) (cs2 := (ww im lf s d k ls rf rz ra rn rq lt m1 m2 m3 m4 bd (fc.set 6 ((fc.getD 6 0) + (nI 1))) hd sz el s g fm hm so si sh ce ca td wa kp la (lsF (bst s (qPs s 99 (qN s)) (qN s) (2 ^ qN s))) oo bo pw ow tr)) rfl rfl rfl (Nat.le_of_ble_eq_true rfl) rfl (ab_rvOf w65 rfl) (w_best (m := qPs s 99 (qN s)) I (by omega) l_bf) (by decide) w_lens ?_
                refine E_aload_n rfl rfl ?_
                refine E_iload_n rfl rfl ?_
                refine E_iconst (x := nI 0) rfl (by decide) ?_
                refine E_bipush (x := nI 99) rfl (by decide) ?_
                refine E_callV (v := some (.int (nI 1))) (As := [.ref 65, .int (nI a2k), .int (nI 0), .int (nI 99)]) (r0 := []) (cs2 := (ww im lf s d k ls rf rz ra rn rq lt m1 m2 m3 m4 bd (fc.set 6 ((fc.getD 6 0) + (nI 1))) hd sz el s g fm hm so si sh ce ca td wa kp la (lsF (bst s (qPs s 99 (qN s)) (qN s) (2 ^ qN s))) oo bo pw ow tr)) rfl rfl rfl (Nat.le_of_ble_eq_true rfl) rfl (ab_rvOf w65 rfl) (L85_X6_isFrom (by omega) (by omega) (by omega)) (by decide) rfl ?_
                refine E_if (t := 44) (b := false) rfl rfl (by decide) ?_
                refine E_aload_n rfl rfl ?_
                refine E_iload_n rfl rfl ?_
                refine E_iload_n rfl rfl ?_
                have e2 : Ev ab_Z0 2 176 [.ref 65, .int (nI a1k), .int (nI a2k)] (ww im lf s d k ls rf rz ra rn rq lt m1 m2 m3 m4 bd (fc.set 6 ((fc.getD 6 0) + (nI 1))) hd sz el s g fm hm so si sh ce ca td wa kp la (lsF (bst s (qPs s 99 (qN s)) (qN s) (2 ^ qN s))) oo bo pw ow tr) (some (.int (-1)), (ww im lf s d k ls rf rz ra rn rq lt m1 m2 m3 m4 bd (fc.set 6 ((fc.getD 6 0) + (nI 1))) hd sz el s g fm hm so si sh ce ca td wa kp la (lsF (bst s (qPs s 99 (qN s)) (qN s) (2 ^ qN s))) oo bo pw ow tr)) := by
                  refine Ef.in (md := mX6_thrown) (L := [some (.ref 65), some (.int (nI a1k)), some (.int (nI a2k)), none]) rfl (Nat.le_of_ble_eq_true rfl) rfl ?_
                  refine E_iload_n rfl rfl ?_
                  refine E_aload_n rfl rfl ?_
                  refine E_iload_n rfl rfl ?_
                  refine E_aload_n rfl rfl ?_
                  refine E_getfield (v := .ref 73) rfl w65 rfl (by decide) rfl ?_
                  refine E_iload_n rfl rfl ?_
                  refine E_ialN (l := qW s) (v := (qW s).getD a1k 0) rfl w73 (by omega) (by omega) rfl ?_
                  refine E_callV (v := some (.int (nI (qPr s a1k ((qW s).getD a1k 0))))) (As := [.ref 65, .int (nI a1k), .int (nI ((qW s).getD a1k 0))]) (r0 := [.int (nI a2k)]) (cs2 := (ww im lf s d k ls rf rz ra rn rq lt m1 m2 m3 m4 bd (fc.set 6 ((fc.getD 6 0) + (nI 1))) hd sz el s g fm hm so si sh ce ca td wa kp la (lsF (bst s (qPs s 99 (qN s)) (qN s) (2 ^ qN s))) oo bo pw ow tr)) rfl rfl rfl (Nat.le_of_ble_eq_true rfl) rfl (ab_rvOf w65 rfl) (mo_priceFor w_m I (by omega) (by omega)) (by decide) rfl ?_
                  refine E_isub (z := nI a2k - nI (qPr s a1k ((qW s).getD a1k 0))) rfl rfl ?_
                  refine E_istore_n (L2 := [some (.ref 65), some (.int (nI a1k)), some (.int (nI a2k)), some (.int (nI a2k - nI (qPr s a1k ((qW s).getD a1k 0))))]) rfl rfl ?_
                  refine E_aload_n rfl rfl ?_
                  refine E_iload_n rfl rfl ?_
                  refine E_iconst (x := nI 0) rfl (by decide) ?_
                  refine E_bipush (x := nI 99) rfl (by decide) ?_
                  refine E_callV (v := some (.int (nI 1))) (As := [.ref 65, .int (nI a2k), .int (nI 0), .int (nI 99)]) (r0 := []) (cs2 := (ww im lf s d k ls rf rz ra rn rq lt m1 m2 m3 m4 bd (fc.set 6 ((fc.getD 6 0) + (nI 1))) hd sz el s g fm hm so si sh ce ca td wa kp la (lsF (bst s (qPs s 99 (qN s)) (qN s) (2 ^ qN s))) oo bo pw ow tr)) rfl rfl rfl (Nat.le_of_ble_eq_true rfl) rfl (ab_rvOf w65 rfl) (L85_X6_isFrom (by omega) (by omega) (by omega)) (by decide) rfl ?_
                  refine E_if (t := 39) (b := false) rfl rfl (by decide) ?_
                  refine E_iload_n rfl rfl ?_
                  refine E_aload_n rfl rfl ?_
                  refine E_getfield (v := .ref 71) rfl w65 rfl (by decide) rfl ?_
                  refine E_iload_n rfl rfl ?_
                  refine E_ialN (l := qU s) (v := (qU s).getD a1k 0) rfl w71 (by omega) (by omega) rfl ?_
                  refine E_ic (t := 39) (b := true) rfl rfl ((cn_gt (nI_toInt (by omega)) (nI_toInt (by omega))).trans (decide_eq_true (by omega))) ?_
                  refine E_iconst (x := (-1)) rfl (by decide) ?_
                  refine E_goto (t := 48) rfl rfl ?_
                  exact E_iret rfl rfl
                refine E_callV (v := some (.int (-1))) (As := [.ref 65, .int (nI a1k), .int (nI a2k)]) (r0 := []) (cs2 := (ww im lf s d k ls rf rz ra rn rq lt m1 m2 m3 m4 bd (fc.set 6 ((fc.getD 6 0) + (nI 1))) hd sz el s g fm hm so si sh ce ca td wa kp la (lsF (bst s (qPs s 99 (qN s)) (qN s) (2 ^ qN s))) oo bo pw ow tr)) rfl rfl rfl (Nat.le_of_ble_eq_true rfl) rfl (ab_rvOf w65 rfl) e2 (by decide) rfl ?_
                refine E_goto (t := 45) rfl rfl ?_
                refine E_istore_n (L2 := [some (.ref 65), some (.int (nI a1k)), some (.int (nI a2k)), some (.int (-1))]) rfl rfl ?_
                refine E_iload_n rfl rfl ?_
                refine E_iconst (x := (-1)) rfl (by decide) ?_
                refine E_ic (t := 58) (b := false) rfl rfl (by decide) ?_
                refine E_aload_n rfl rfl ?_
                refine E_bipush (x := (-6)) rfl (by decide) ?_
                refine E_callV (v := some (.int (-6))) (As := [.ref 65, .int (-6)]) (r0 := []) (cs2 := (ww im lf s d k ls rf rz ra rn rq lt m1 m2 m3 m4 bd (fc.set 6 ((fc.getD 6 0) + (nI 1))) hd sz el s g (fm.set 6 ((fm.getD 6 0) + (nI 1))) hm so si sh ce ca td wa kp la (lsF (bst s (qPs s 99 (qN s)) (qN s) (2 ^ qN s))) oo bo pw ow tr)) rfl rfl rfl (Nat.le_of_ble_eq_true rfl) rfl (ab_rvOf w65 rfl) (L28_X6_no (by omega)) (by decide) w_lens ?_
                exact E_iret rfl rfl
              · exact ⟨I, rfl, hf, ⟨⟨d0, d1, d2, d3, d4, d5, d6, d7, d8⟩, ⟨k0, k1, k2, k3, k4, k5, k6, k7, k8⟩, ⟨r0, r1, r2, r3, r4, r5, r6, r7, r8⟩⟩, iM, iT, iS, l_el, l_ls, l_lt, l_bd, (by simp only [List.length_set]; exact l_fc), (by simp only [List.length_set]; exact l_fm), l_hm, l_so, l_si, l_sh, l_ce, l_ca, l_td, l_wa, l_kp, l_la, (lsF_len _), l_oo, l_bo, l_pw, l_ow, l_tr⟩
          · by_cases f5 : a2k < (qPr s a1k ((qW s).getD a1k 0))
            · have er2 : (qR s).toInt = 1 := by rw [er]; rfl
              have := I2 a1k (by omega)
              have := qPr_in I a1k (w := ((qW s).getD a1k 0)) (by omega)
              have := qPs_in s 99 (i := qN s) (by omega)
              refine ⟨(-6), (im, lf, s, d, k, ls, rf, rz, ra, rn, rq, lt, m1, m2, m3, m4, bd, (fc.set 6 ((fc.getD 6 0) + (nI 1))), hd, sz, el, s, g, fm, hm, so, si, sh, ce, ca, td, wa, kp, la, bf, oo, bo, pw, ow, tr), (im, lf, s, d, k, ls, rf, rz, ra, rn, rq, lt, m1, m2, m3, m4, bd, (fc.set 6 ((fc.getD 6 0) + (nI 1))), hd, sz, el, s, g, (fm.set 6 ((fm.getD 6 0) + (nI 1))), hm, so, si, sh, ce, ca, td, wa, kp, la, (lsF (bst s (qPs s 99 (qN s)) (qN s) (2 ^ qN s))), oo, bo, pw, ow, tr), ?_, ?_, ?_⟩
              · show Ev ab_Z0 6 106 [.ref 0, .int (nI a1k), .int (nI a2k)] (ww im lf s d k ls rf rz ra rn rq lt m1 m2 m3 m4 bd fc hd sz el s g fm hm so si sh ce ca td wa kp la bf oo bo pw ow tr) (some (.int (-6)), (ww im lf s d k ls rf rz ra rn rq lt m1 m2 m3 m4 bd (fc.set 6 ((fc.getD 6 0) + (nI 1))) hd sz el s g fm hm so si sh ce ca td wa kp la bf oo bo pw ow tr))
                refine Ef.in (md := mX5_cast) (L := [some (.ref 0), some (.int (nI a1k)), some (.int (nI a2k)), none]) rfl (Nat.le_of_ble_eq_true rfl) rfl ?_
                refine E_aload_n rfl rfl ?_
                refine E_getfield (v := .ref 1) rfl w0 rfl (by decide) rfl ?_
                refine E_iload_n rfl rfl ?_
                refine E_callV (v := some (.int (nI 1))) (As := [.ref 1, .int (nI a1k)]) (r0 := []) (cs2 := (ww im lf s d k ls rf rz ra rn rq lt m1 m2 m3 m4 bd fc hd sz el s g fm hm so si sh ce ca td wa kp la bf oo bo pw ow tr)) rfl rfl rfl (Nat.le_of_ble_eq_true rfl) rfl (ab_rvOf w1 rfl) (L0_X4_isPerson (by omega) (by omega) (by omega) (by omega)) (by decide) rfl ?_
                refine E_if (t := 17) (b := true) rfl rfl (by decide) ?_
                refine E_aload_n rfl rfl ?_
                refine E_aload_n rfl rfl ?_
                refine E_getfield (v := .ref 1) rfl w0 rfl (by decide) rfl ?_
                refine E_iload_n rfl rfl ?_
                refine E_iload_n rfl rfl ?_
                have e1 : Ev ab_Z0 4 122 [.ref 0, .ref 1, .int (nI a1k), .int (nI a2k)] (ww im lf s d k ls rf rz ra rn rq lt m1 m2 m3 m4 bd fc hd sz el s g fm hm so si sh ce ca td wa kp la bf oo bo pw ow tr) (some (.int (-1)), (ww im lf s d k ls rf rz ra rn rq lt m1 m2 m3 m4 bd fc hd sz el s g fm hm so si sh ce ca td wa kp la bf oo bo pw ow tr)) := by
                  refine Ef.in (md := mX5_throwBy) (L := [some (.ref 0), some (.ref 1), some (.int (nI a1k)), some (.int (nI a2k)), none]) rfl (Nat.le_of_ble_eq_true rfl) rfl ?_
                  refine E_aload_n rfl rfl ?_
                  refine E_iload_n rfl rfl ?_
                  refine E_callV (v := some (.int (nI 1))) (As := [.ref 1, .int (nI a1k)]) (r0 := []) (cs2 := (ww im lf s d k ls rf rz ra rn rq lt m1 m2 m3 m4 bd fc hd sz el s g fm hm so si sh ce ca td wa kp la bf oo bo pw ow tr)) rfl rfl rfl (Nat.le_of_ble_eq_true rfl) rfl (ab_rvOf w1 rfl) (L0_X4_isPerson (by omega) (by omega) (by omega) (by omega)) (by decide) rfl ?_
                  refine E_if (t := 18) (b := false) rfl rfl (by decide) ?_
                  refine E_iload_n rfl rfl ?_
                  refine E_aload_n rfl rfl ?_
                  refine E_getfield (v := .ref 6) rfl w1 rfl (by decide) rfl ?_
                  refine E_iload_n rfl rfl ?_
                  refine E_ialN (l := qU s) (v := (qU s).getD a1k 0) rfl w6 (by omega) (by omega) rfl ?_
                  refine E_ic (t := 20) (b := true) rfl rfl ((cn_le (nI_toInt (by omega)) (nI_toInt (by omega))).trans (decide_eq_true (by omega))) ?_
                  refine E_aload_n rfl rfl ?_
                  refine E_iload_n rfl rfl ?_
                  refine E_aload_n rfl rfl ?_
                  refine E_getfield (v := .ref 8) rfl w1 rfl (by decide) rfl ?_
                  refine E_iload_n rfl rfl ?_
                  refine E_ialN (l := qW s) (v := (qW s).getD a1k 0) rfl w8 (by omega) (by omega) rfl ?_
                  refine E_callV (v := some (.int (nI (qPr s a1k ((qW s).getD a1k 0))))) (As := [.ref 1, .int (nI a1k), .int (nI ((qW s).getD a1k 0))]) (r0 := []) (cs2 := (ww im lf s d k ls rf rz ra rn rq lt m1 m2 m3 m4 bd fc hd sz el s g fm hm so si sh ce ca td wa kp la bf oo bo pw ow tr)) rfl rfl rfl (Nat.le_of_ble_eq_true rfl) rfl (ab_rvOf w1 rfl) (sq_priceFor w_q1 I (by omega) (by omega)) (by decide) rfl ?_
                  refine E_istore (L2 := [some (.ref 0), some (.ref 1), some (.int (nI a1k)), some (.int (nI a2k)), some (.int (nI (qPr s a1k ((qW s).getD a1k 0))))]) rfl rfl ?_
                  refine E_iload_n rfl rfl ?_
                  refine E_iload rfl rfl ?_
                  refine E_ic (t := 43) (b := false) rfl rfl ((cn_ge (nI_toInt (by omega)) (nI_toInt (by omega))).trans (decide_eq_false (by omega))) ?_
                  refine E_iconst (x := (-1)) rfl (by decide) ?_
                  refine E_goto (t := 59) rfl rfl ?_
                  exact E_iret rfl rfl
                refine E_callV (v := some (.int (-1))) (As := [.ref 0, .ref 1, .int (nI a1k), .int (nI a2k)]) (r0 := []) (cs2 := (ww im lf s d k ls rf rz ra rn rq lt m1 m2 m3 m4 bd fc hd sz el s g fm hm so si sh ce ca td wa kp la bf oo bo pw ow tr)) rfl rfl rfl (Nat.le_of_ble_eq_true rfl) rfl (ab_rvOf w0 rfl) e1 (by decide) rfl ?_
                refine E_istore_n (L2 := [some (.ref 0), some (.int (nI a1k)), some (.int (nI a2k)), some (.int (-1))]) rfl rfl ?_
                refine E_iload_n rfl rfl ?_
                refine E_iconst (x := (-1)) rfl (by decide) ?_
                refine E_ic (t := 40) (b := false) rfl rfl (by decide) ?_
                refine E_aload_n rfl rfl ?_
                refine E_bipush (x := nI 6) rfl (by decide) ?_
                refine E_callV (v := some (.int (-6))) (As := [.ref 0, .int (nI 6)]) (r0 := []) (cs2 := (ww im lf s d k ls rf rz ra rn rq lt m1 m2 m3 m4 bd (fc.set 6 ((fc.getD 6 0) + (nI 1))) hd sz el s g fm hm so si sh ce ca td wa kp la bf oo bo pw ow tr)) rfl rfl rfl (Nat.le_of_ble_eq_true rfl) rfl (ab_rvOf w0 rfl) (L26_X5_refuse (by omega)) (by decide) w_lens ?_
                exact E_iret rfl rfl
              · show Ev ab_Z0 5 197 [.ref 65, .int (nI a1k), .int (nI a2k)] (ww im lf s d k ls rf rz ra rn rq lt m1 m2 m3 m4 bd (fc.set 6 ((fc.getD 6 0) + (nI 1))) hd sz el s g fm hm so si sh ce ca td wa kp la bf oo bo pw ow tr) (some (.int (-6)), (ww im lf s d k ls rf rz ra rn rq lt m1 m2 m3 m4 bd (fc.set 6 ((fc.getD 6 0) + (nI 1))) hd sz el s g (fm.set 6 ((fm.getD 6 0) + (nI 1))) hm so si sh ce ca td wa kp la (lsF (bst s (qPs s 99 (qN s)) (qN s) (2 ^ qN s))) oo bo pw ow tr))
                refine Ef.in (md := mX6_cast) (L := [some (.ref 65), some (.int (nI a1k)), some (.int (nI a2k)), none]) rfl (Nat.le_of_ble_eq_true rfl) rfl ?_
                refine E_aload_n rfl rfl ?_
                refine E_iload_n rfl rfl ?_
                refine E_callV (v := some (.int (nI 1))) (As := [.ref 65, .int (nI a1k)]) (r0 := []) (cs2 := (ww im lf s d k ls rf rz ra rn rq lt m1 m2 m3 m4 bd (fc.set 6 ((fc.getD 6 0) + (nI 1))) hd sz el s g fm hm so si sh ce ca td wa kp la bf oo bo pw ow tr)) rfl rfl rfl (Nat.le_of_ble_eq_true rfl) rfl (ab_rvOf w65 rfl) (L2_X6_isOne (by omega) (by omega) (by omega) (by omega)) (by decide) rfl ?_
                refine E_if (t := 14) (b := true) rfl rfl (by decide) ?_
                refine E_aload_n rfl rfl ?_
                refine E_aload_n rfl rfl ?_
                refine E_bipush (x := nI 99) rfl (by decide) ?_
                refine E_callV (v := some (.int (nI (qPs s 99 (qN s))))) (As := [.ref 65, .int (nI 99)]) (r0 := [.ref 65]) (cs2 := (ww im lf s d k ls rf rz ra rn rq lt m1 m2 m3 m4 bd (fc.set 6 ((fc.getD 6 0) + (nI 1))) hd sz el s g fm hm so si sh ce ca td wa kp la bf oo bo pw ow tr)) rfl rfl rfl (Nat.le_of_ble_eq_true rfl) rfl (ab_rvOf w65 rfl) (mo_piecesOf w_m I (by omega)) (by decide) rfl ?_
                refine E_callV (v := none) (As := [.ref 65, .int (nI (qPs s 99 (qN s)))]) (r0 := []) (cs2 := (ww im lf s d k ls rf rz ra rn rq lt m1 m2 m3 m4 bd (fc.set 6 ((fc.getD 6 0) + (nI 1))) hd sz el s g fm hm so si sh ce ca td wa kp la (lsF (bst s (qPs s 99 (qN s)) (qN s) (2 ^ qN s))) oo bo pw ow tr)) rfl rfl rfl (Nat.le_of_ble_eq_true rfl) rfl (ab_rvOf w65 rfl) (w_best (m := qPs s 99 (qN s)) I (by omega) l_bf) (by decide) w_lens ?_
                refine E_aload_n rfl rfl ?_
                refine E_iload_n rfl rfl ?_
                refine E_iconst (x := nI 0) rfl (by decide) ?_
                refine E_bipush (x := nI 99) rfl (by decide) ?_
                refine E_callV (v := some (.int (nI 1))) (As := [.ref 65, .int (nI a2k), .int (nI 0), .int (nI 99)]) (r0 := []) (cs2 := (ww im lf s d k ls rf rz ra rn rq lt m1 m2 m3 m4 bd (fc.set 6 ((fc.getD 6 0) + (nI 1))) hd sz el s g fm hm so si sh ce ca td wa kp la (lsF (bst s (qPs s 99 (qN s)) (qN s) (2 ^ qN s))) oo bo pw ow tr)) rfl rfl rfl (Nat.le_of_ble_eq_true rfl) rfl (ab_rvOf w65 rfl) (L85_X6_isFrom (by omega) (by omega) (by omega)) (by decide) rfl ?_
                refine E_if (t := 44) (b := false) rfl rfl (by decide) ?_
                refine E_aload_n rfl rfl ?_
                refine E_iload_n rfl rfl ?_
                refine E_iload_n rfl rfl ?_
                have e2 : Ev ab_Z0 2 176 [.ref 65, .int (nI a1k), .int (nI a2k)] (ww im lf s d k ls rf rz ra rn rq lt m1 m2 m3 m4 bd (fc.set 6 ((fc.getD 6 0) + (nI 1))) hd sz el s g fm hm so si sh ce ca td wa kp la (lsF (bst s (qPs s 99 (qN s)) (qN s) (2 ^ qN s))) oo bo pw ow tr) (some (.int (-1)), (ww im lf s d k ls rf rz ra rn rq lt m1 m2 m3 m4 bd (fc.set 6 ((fc.getD 6 0) + (nI 1))) hd sz el s g fm hm so si sh ce ca td wa kp la (lsF (bst s (qPs s 99 (qN s)) (qN s) (2 ^ qN s))) oo bo pw ow tr)) := by
                  refine Ef.in (md := mX6_thrown) (L := [some (.ref 65), some (.int (nI a1k)), some (.int (nI a2k)), none]) rfl (Nat.le_of_ble_eq_true rfl) rfl ?_
                  refine E_iload_n rfl rfl ?_
                  refine E_aload_n rfl rfl ?_
                  refine E_iload_n rfl rfl ?_
                  refine E_aload_n rfl rfl ?_
                  refine E_getfield (v := .ref 73) rfl w65 rfl (by decide) rfl ?_
                  refine E_iload_n rfl rfl ?_
                  refine E_ialN (l := qW s) (v := (qW s).getD a1k 0) rfl w73 (by omega) (by omega) rfl ?_
                  refine E_callV (v := some (.int (nI (qPr s a1k ((qW s).getD a1k 0))))) (As := [.ref 65, .int (nI a1k), .int (nI ((qW s).getD a1k 0))]) (r0 := [.int (nI a2k)]) (cs2 := (ww im lf s d k ls rf rz ra rn rq lt m1 m2 m3 m4 bd (fc.set 6 ((fc.getD 6 0) + (nI 1))) hd sz el s g fm hm so si sh ce ca td wa kp la (lsF (bst s (qPs s 99 (qN s)) (qN s) (2 ^ qN s))) oo bo pw ow tr)) rfl rfl rfl (Nat.le_of_ble_eq_true rfl) rfl (ab_rvOf w65 rfl) (mo_priceFor w_m I (by omega) (by omega)) (by decide) rfl ?_
                  refine E_isub (z := nI a2k - nI (qPr s a1k ((qW s).getD a1k 0))) rfl rfl ?_
                  refine E_istore_n (L2 := [some (.ref 65), some (.int (nI a1k)), some (.int (nI a2k)), some (.int (nI a2k - nI (qPr s a1k ((qW s).getD a1k 0))))]) rfl rfl ?_
                  refine E_aload_n rfl rfl ?_
                  refine E_iload_n rfl rfl ?_
                  refine E_iconst (x := nI 0) rfl (by decide) ?_
                  refine E_bipush (x := nI 99) rfl (by decide) ?_
                  refine E_callV (v := some (.int (nI 1))) (As := [.ref 65, .int (nI a2k), .int (nI 0), .int (nI 99)]) (r0 := []) (cs2 := (ww im lf s d k ls rf rz ra rn rq lt m1 m2 m3 m4 bd (fc.set 6 ((fc.getD 6 0) + (nI 1))) hd sz el s g fm hm so si sh ce ca td wa kp la (lsF (bst s (qPs s 99 (qN s)) (qN s) (2 ^ qN s))) oo bo pw ow tr)) rfl rfl rfl (Nat.le_of_ble_eq_true rfl) rfl (ab_rvOf w65 rfl) (L85_X6_isFrom (by omega) (by omega) (by omega)) (by decide) rfl ?_
                  refine E_if (t := 39) (b := false) rfl rfl (by decide) ?_
                  refine E_iload_n rfl rfl ?_
                  refine E_aload_n rfl rfl ?_
                  refine E_getfield (v := .ref 71) rfl w65 rfl (by decide) rfl ?_
                  refine E_iload_n rfl rfl ?_
                  refine E_ialN (l := qU s) (v := (qU s).getD a1k 0) rfl w71 (by omega) (by omega) rfl ?_
                  refine E_ic (t := 39) (b := false) rfl rfl ((cn_gt (nI_toInt (by omega)) (nI_toInt (by omega))).trans (decide_eq_false (by omega))) ?_
                  refine E_iload_n rfl rfl ?_
                  refine E_if (t := 43) (b := false) rfl rfl ((cn_ge (ab_subI (by omega) (by omega)) (by decide : (0 : Int32).toInt = 0)).trans (decide_eq_false (by omega))) ?_
                  refine E_iconst (x := (-1)) rfl (by decide) ?_
                  refine E_goto (t := 48) rfl rfl ?_
                  exact E_iret rfl rfl
                refine E_callV (v := some (.int (-1))) (As := [.ref 65, .int (nI a1k), .int (nI a2k)]) (r0 := []) (cs2 := (ww im lf s d k ls rf rz ra rn rq lt m1 m2 m3 m4 bd (fc.set 6 ((fc.getD 6 0) + (nI 1))) hd sz el s g fm hm so si sh ce ca td wa kp la (lsF (bst s (qPs s 99 (qN s)) (qN s) (2 ^ qN s))) oo bo pw ow tr)) rfl rfl rfl (Nat.le_of_ble_eq_true rfl) rfl (ab_rvOf w65 rfl) e2 (by decide) rfl ?_
                refine E_goto (t := 45) rfl rfl ?_
                refine E_istore_n (L2 := [some (.ref 65), some (.int (nI a1k)), some (.int (nI a2k)), some (.int (-1))]) rfl rfl ?_
                refine E_iload_n rfl rfl ?_
                refine E_iconst (x := (-1)) rfl (by decide) ?_
                refine E_ic (t := 58) (b := false) rfl rfl (by decide) ?_
                refine E_aload_n rfl rfl ?_
                refine E_bipush (x := (-6)) rfl (by decide) ?_
                refine E_callV (v := some (.int (-6))) (As := [.ref 65, .int (-6)]) (r0 := []) (cs2 := (ww im lf s d k ls rf rz ra rn rq lt m1 m2 m3 m4 bd (fc.set 6 ((fc.getD 6 0) + (nI 1))) hd sz el s g (fm.set 6 ((fm.getD 6 0) + (nI 1))) hm so si sh ce ca td wa kp la (lsF (bst s (qPs s 99 (qN s)) (qN s) (2 ^ qN s))) oo bo pw ow tr)) rfl rfl rfl (Nat.le_of_ble_eq_true rfl) rfl (ab_rvOf w65 rfl) (L28_X6_no (by omega)) (by decide) w_lens ?_
                exact E_iret rfl rfl
              · exact ⟨I, rfl, hf, ⟨⟨d0, d1, d2, d3, d4, d5, d6, d7, d8⟩, ⟨k0, k1, k2, k3, k4, k5, k6, k7, k8⟩, ⟨r0, r1, r2, r3, r4, r5, r6, r7, r8⟩⟩, iM, iT, iS, l_el, l_ls, l_lt, l_bd, (by simp only [List.length_set]; exact l_fc), (by simp only [List.length_set]; exact l_fm), l_hm, l_so, l_si, l_sh, l_ce, l_ca, l_td, l_wa, l_kp, l_la, (lsF_len _), l_oo, l_bo, l_pw, l_ow, l_tr⟩
            · rcases hg0 : qGreedy s (a2k - (qPr s a1k ((qW s).getD a1k 0))) with _ | gj0
              · have er2 : (qR s).toInt = 1 := by rw [er]; rfl
                have := I2 a1k (by omega)
                have := qPr_in I a1k (w := ((qW s).getD a1k 0)) (by omega)
                have := qPs_in s 99 (i := qN s) (by omega)
                refine ⟨(-6), (im, lf, s, d, k, ls, rf, rz, ra, rn, rq, lt, m1, m2, m3, m4, bd, (fc.set 6 ((fc.getD 6 0) + (nI 1))), hd, sz, el, s, g, fm, hm, so, si, sh, ce, ca, td, wa, kp, la, bf, oo, bo, pw, ow, tr), (im, lf, s, d, k, ls, rf, rz, ra, rn, rq, lt, m1, m2, m3, m4, bd, (fc.set 6 ((fc.getD 6 0) + (nI 1))), hd, sz, el, s, g, (fm.set 6 ((fm.getD 6 0) + (nI 1))), hm, so, si, sh, ce, ca, td, wa, kp, la, (lsF (bst s (qPs s 99 (qN s)) (qN s) (2 ^ qN s))), oo, bo, pw, ow, tr), ?_, ?_, ?_⟩
                · show Ev ab_Z0 6 106 [.ref 0, .int (nI a1k), .int (nI a2k)] (ww im lf s d k ls rf rz ra rn rq lt m1 m2 m3 m4 bd fc hd sz el s g fm hm so si sh ce ca td wa kp la bf oo bo pw ow tr) (some (.int (-6)), (ww im lf s d k ls rf rz ra rn rq lt m1 m2 m3 m4 bd (fc.set 6 ((fc.getD 6 0) + (nI 1))) hd sz el s g fm hm so si sh ce ca td wa kp la bf oo bo pw ow tr))
                  refine Ef.in (md := mX5_cast) (L := [some (.ref 0), some (.int (nI a1k)), some (.int (nI a2k)), none]) rfl (Nat.le_of_ble_eq_true rfl) rfl ?_
                  refine E_aload_n rfl rfl ?_
                  refine E_getfield (v := .ref 1) rfl w0 rfl (by decide) rfl ?_
                  refine E_iload_n rfl rfl ?_
                  refine E_callV (v := some (.int (nI 1))) (As := [.ref 1, .int (nI a1k)]) (r0 := []) (cs2 := (ww im lf s d k ls rf rz ra rn rq lt m1 m2 m3 m4 bd fc hd sz el s g fm hm so si sh ce ca td wa kp la bf oo bo pw ow tr)) rfl rfl rfl (Nat.le_of_ble_eq_true rfl) rfl (ab_rvOf w1 rfl) (L0_X4_isPerson (by omega) (by omega) (by omega) (by omega)) (by decide) rfl ?_
                  refine E_if (t := 17) (b := true) rfl rfl (by decide) ?_
                  refine E_aload_n rfl rfl ?_
                  refine E_aload_n rfl rfl ?_
                  refine E_getfield (v := .ref 1) rfl w0 rfl (by decide) rfl ?_
                  refine E_iload_n rfl rfl ?_
                  refine E_iload_n rfl rfl ?_
                  have e2 : Ev ab_Z0 5 122 [.ref 0, .ref 1, .int (nI a1k), .int (nI a2k)] (ww im lf s d k ls rf rz ra rn rq lt m1 m2 m3 m4 bd fc hd sz el s g fm hm so si sh ce ca td wa kp la bf oo bo pw ow tr) (some (.int (-1)), (ww im lf s d k ls rf rz ra rn rq lt m1 m2 m3 m4 bd fc hd sz el s g fm hm so si sh ce ca td wa kp la bf oo bo pw ow tr)) := by
                    refine Ef.in (md := mX5_throwBy) (L := [some (.ref 0), some (.ref 1), some (.int (nI a1k)), some (.int (nI a2k)), none]) rfl (Nat.le_of_ble_eq_true rfl) rfl ?_
                    refine E_aload_n rfl rfl ?_
                    refine E_iload_n rfl rfl ?_
                    refine E_callV (v := some (.int (nI 1))) (As := [.ref 1, .int (nI a1k)]) (r0 := []) (cs2 := (ww im lf s d k ls rf rz ra rn rq lt m1 m2 m3 m4 bd fc hd sz el s g fm hm so si sh ce ca td wa kp la bf oo bo pw ow tr)) rfl rfl rfl (Nat.le_of_ble_eq_true rfl) rfl (ab_rvOf w1 rfl) (L0_X4_isPerson (by omega) (by omega) (by omega) (by omega)) (by decide) rfl ?_
                    refine E_if (t := 18) (b := false) rfl rfl (by decide) ?_
                    refine E_iload_n rfl rfl ?_
                    refine E_aload_n rfl rfl ?_
                    refine E_getfield (v := .ref 6) rfl w1 rfl (by decide) rfl ?_
                    refine E_iload_n rfl rfl ?_
                    refine E_ialN (l := qU s) (v := (qU s).getD a1k 0) rfl w6 (by omega) (by omega) rfl ?_
                    refine E_ic (t := 20) (b := true) rfl rfl ((cn_le (nI_toInt (by omega)) (nI_toInt (by omega))).trans (decide_eq_true (by omega))) ?_
                    refine E_aload_n rfl rfl ?_
                    refine E_iload_n rfl rfl ?_
                    refine E_aload_n rfl rfl ?_
                    refine E_getfield (v := .ref 8) rfl w1 rfl (by decide) rfl ?_
                    refine E_iload_n rfl rfl ?_
                    refine E_ialN (l := qW s) (v := (qW s).getD a1k 0) rfl w8 (by omega) (by omega) rfl ?_
                    refine E_callV (v := some (.int (nI (qPr s a1k ((qW s).getD a1k 0))))) (As := [.ref 1, .int (nI a1k), .int (nI ((qW s).getD a1k 0))]) (r0 := []) (cs2 := (ww im lf s d k ls rf rz ra rn rq lt m1 m2 m3 m4 bd fc hd sz el s g fm hm so si sh ce ca td wa kp la bf oo bo pw ow tr)) rfl rfl rfl (Nat.le_of_ble_eq_true rfl) rfl (ab_rvOf w1 rfl) (sq_priceFor w_q1 I (by omega) (by omega)) (by decide) rfl ?_
                    refine E_istore (L2 := [some (.ref 0), some (.ref 1), some (.int (nI a1k)), some (.int (nI a2k)), some (.int (nI (qPr s a1k ((qW s).getD a1k 0))))]) rfl rfl ?_
                    refine E_iload_n rfl rfl ?_
                    refine E_iload rfl rfl ?_
                    refine E_ic (t := 43) (b := true) rfl rfl ((cn_ge (nI_toInt (by omega)) (nI_toInt (by omega))).trans (decide_eq_true (by omega))) ?_
                    refine E_aload_n rfl rfl ?_
                    refine E_getfield (v := .ref 32) rfl w0 rfl (by decide) rfl ?_
                    refine E_aload_n rfl rfl ?_
                    refine E_aload_n rfl rfl ?_
                    refine E_getfield (v := .int (qR s)) rfl w1 rfl (by decide) rfl ?_
                    refine E_iload_n rfl rfl ?_
                    refine E_iload rfl rfl ?_
                    refine E_isub (z := nI (a2k - (qPr s a1k ((qW s).getD a1k 0)))) rfl (pk_sub (by omega)) ?_
                    have e1 : Ev ab_Z0 4 1 [.ref 32, .ref 1, .int (qR s), .int (nI (a2k - (qPr s a1k ((qW s).getD a1k 0))))] (ww im lf s d k ls rf rz ra rn rq lt m1 m2 m3 m4 bd fc hd sz el s g fm hm so si sh ce ca td wa kp la bf oo bo pw ow tr) (some (.int (-1)), (ww im lf s d k ls rf rz ra rn rq lt m1 m2 m3 m4 bd fc hd sz el s g fm hm so si sh ce ca td wa kp la bf oo bo pw ow tr)) := by
                      refine Ef.in (md := mX0_bitsBy) (L := [some (.ref 32), some (.ref 1), some (.int (qR s)), some (.int (nI (a2k - (qPr s a1k ((qW s).getD a1k 0)))))]) rfl (Nat.le_of_ble_eq_true rfl) rfl ?_
                      refine E_iload_n rfl rfl ?_
                      refine E_iconst (x := nI 1) rfl (by decide) ?_
                      refine E_ic (t := 11) (b := false) rfl rfl ((cn_ne rfl (nI_toInt (by omega))).trans (decide_eq_false (by omega))) ?_
                      refine E_aload_n rfl rfl ?_
                      refine E_iload_n rfl rfl ?_
                      refine E_callV (v := some (.int (-1))) (As := [.ref 1, .int (nI (a2k - (qPr s a1k ((qW s).getD a1k 0))))]) (r0 := []) (cs2 := (ww im lf s d k ls rf rz ra rn rq lt m1 m2 m3 m4 bd fc hd sz el s g fm hm so si sh ce ca td wa kp la bf oo bo pw ow tr)) rfl rfl rfl (Nat.le_of_ble_eq_true rfl) rfl (ab_rvOf w1 rfl) (Ev.g0 hg0 (sq_greedyFor w_q1 I (by omega))) (by decide) rfl ?_
                      exact E_iret rfl rfl
                    refine E_callV (v := some (.int (-1))) (As := [.ref 32, .ref 1, .int (qR s), .int (nI (a2k - (qPr s a1k ((qW s).getD a1k 0))))]) (r0 := []) (cs2 := (ww im lf s d k ls rf rz ra rn rq lt m1 m2 m3 m4 bd fc hd sz el s g fm hm so si sh ce ca td wa kp la bf oo bo pw ow tr)) rfl rfl rfl (Nat.le_of_ble_eq_true rfl) rfl (ab_rvOf w32 rfl) e1 (by decide) rfl ?_
                    exact E_iret rfl rfl
                  refine E_callV (v := some (.int (-1))) (As := [.ref 0, .ref 1, .int (nI a1k), .int (nI a2k)]) (r0 := []) (cs2 := (ww im lf s d k ls rf rz ra rn rq lt m1 m2 m3 m4 bd fc hd sz el s g fm hm so si sh ce ca td wa kp la bf oo bo pw ow tr)) rfl rfl rfl (Nat.le_of_ble_eq_true rfl) rfl (ab_rvOf w0 rfl) e2 (by decide) rfl ?_
                  refine E_istore_n (L2 := [some (.ref 0), some (.int (nI a1k)), some (.int (nI a2k)), some (.int (-1))]) rfl rfl ?_
                  refine E_iload_n rfl rfl ?_
                  refine E_iconst (x := (-1)) rfl (by decide) ?_
                  refine E_ic (t := 40) (b := false) rfl rfl (by decide) ?_
                  refine E_aload_n rfl rfl ?_
                  refine E_bipush (x := nI 6) rfl (by decide) ?_
                  refine E_callV (v := some (.int (-6))) (As := [.ref 0, .int (nI 6)]) (r0 := []) (cs2 := (ww im lf s d k ls rf rz ra rn rq lt m1 m2 m3 m4 bd (fc.set 6 ((fc.getD 6 0) + (nI 1))) hd sz el s g fm hm so si sh ce ca td wa kp la bf oo bo pw ow tr)) rfl rfl rfl (Nat.le_of_ble_eq_true rfl) rfl (ab_rvOf w0 rfl) (L26_X5_refuse (by omega)) (by decide) w_lens ?_
                  exact E_iret rfl rfl
                · show Ev ab_Z0 5 197 [.ref 65, .int (nI a1k), .int (nI a2k)] (ww im lf s d k ls rf rz ra rn rq lt m1 m2 m3 m4 bd (fc.set 6 ((fc.getD 6 0) + (nI 1))) hd sz el s g fm hm so si sh ce ca td wa kp la bf oo bo pw ow tr) (some (.int (-6)), (ww im lf s d k ls rf rz ra rn rq lt m1 m2 m3 m4 bd (fc.set 6 ((fc.getD 6 0) + (nI 1))) hd sz el s g (fm.set 6 ((fm.getD 6 0) + (nI 1))) hm so si sh ce ca td wa kp la (lsF (bst s (qPs s 99 (qN s)) (qN s) (2 ^ qN s))) oo bo pw ow tr))
                  refine Ef.in (md := mX6_cast) (L := [some (.ref 65), some (.int (nI a1k)), some (.int (nI a2k)), none]) rfl (Nat.le_of_ble_eq_true rfl) rfl ?_
                  refine E_aload_n rfl rfl ?_
                  refine E_iload_n rfl rfl ?_
                  refine E_callV (v := some (.int (nI 1))) (As := [.ref 65, .int (nI a1k)]) (r0 := []) (cs2 := (ww im lf s d k ls rf rz ra rn rq lt m1 m2 m3 m4 bd (fc.set 6 ((fc.getD 6 0) + (nI 1))) hd sz el s g fm hm so si sh ce ca td wa kp la bf oo bo pw ow tr)) rfl rfl rfl (Nat.le_of_ble_eq_true rfl) rfl (ab_rvOf w65 rfl) (L2_X6_isOne (by omega) (by omega) (by omega) (by omega)) (by decide) rfl ?_
                  refine E_if (t := 14) (b := true) rfl rfl (by decide) ?_
                  refine E_aload_n rfl rfl ?_
                  refine E_aload_n rfl rfl ?_
                  refine E_bipush (x := nI 99) rfl (by decide) ?_
                  refine E_callV (v := some (.int (nI (qPs s 99 (qN s))))) (As := [.ref 65, .int (nI 99)]) (r0 := [.ref 65]) (cs2 := (ww im lf s d k ls rf rz ra rn rq lt m1 m2 m3 m4 bd (fc.set 6 ((fc.getD 6 0) + (nI 1))) hd sz el s g fm hm so si sh ce ca td wa kp la bf oo bo pw ow tr)) rfl rfl rfl (Nat.le_of_ble_eq_true rfl) rfl (ab_rvOf w65 rfl) (mo_piecesOf w_m I (by omega)) (by decide) rfl ?_
                  refine E_callV (v := none) (As := [.ref 65, .int (nI (qPs s 99 (qN s)))]) (r0 := []) (cs2 := (ww im lf s d k ls rf rz ra rn rq lt m1 m2 m3 m4 bd (fc.set 6 ((fc.getD 6 0) + (nI 1))) hd sz el s g fm hm so si sh ce ca td wa kp la (lsF (bst s (qPs s 99 (qN s)) (qN s) (2 ^ qN s))) oo bo pw ow tr)) rfl rfl rfl (Nat.le_of_ble_eq_true rfl) rfl (ab_rvOf w65 rfl) (w_best (m := qPs s 99 (qN s)) I (by omega) l_bf) (by decide) w_lens ?_
                  refine E_aload_n rfl rfl ?_
                  refine E_iload_n rfl rfl ?_
                  refine E_iconst (x := nI 0) rfl (by decide) ?_
                  refine E_bipush (x := nI 99) rfl (by decide) ?_
                  refine E_callV (v := some (.int (nI 1))) (As := [.ref 65, .int (nI a2k), .int (nI 0), .int (nI 99)]) (r0 := []) (cs2 := (ww im lf s d k ls rf rz ra rn rq lt m1 m2 m3 m4 bd (fc.set 6 ((fc.getD 6 0) + (nI 1))) hd sz el s g fm hm so si sh ce ca td wa kp la (lsF (bst s (qPs s 99 (qN s)) (qN s) (2 ^ qN s))) oo bo pw ow tr)) rfl rfl rfl (Nat.le_of_ble_eq_true rfl) rfl (ab_rvOf w65 rfl) (L85_X6_isFrom (by omega) (by omega) (by omega)) (by decide) rfl ?_
                  refine E_if (t := 44) (b := false) rfl rfl (by decide) ?_
                  refine E_aload_n rfl rfl ?_
                  refine E_iload_n rfl rfl ?_
                  refine E_iload_n rfl rfl ?_
                  have e4 : Ev ab_Z0 4 176 [.ref 65, .int (nI a1k), .int (nI a2k)] (ww im lf s d k ls rf rz ra rn rq lt m1 m2 m3 m4 bd (fc.set 6 ((fc.getD 6 0) + (nI 1))) hd sz el s g fm hm so si sh ce ca td wa kp la (lsF (bst s (qPs s 99 (qN s)) (qN s) (2 ^ qN s))) oo bo pw ow tr) (some (.int (-1)), (ww im lf s d k ls rf rz ra rn rq lt m1 m2 m3 m4 bd (fc.set 6 ((fc.getD 6 0) + (nI 1))) hd sz el s g fm hm so si sh ce ca td wa kp la (lsF (bst s (qPs s 99 (qN s)) (qN s) (2 ^ qN s))) oo bo pw ow tr)) := by
                    refine Ef.in (md := mX6_thrown) (L := [some (.ref 65), some (.int (nI a1k)), some (.int (nI a2k)), none]) rfl (Nat.le_of_ble_eq_true rfl) rfl ?_
                    refine E_iload_n rfl rfl ?_
                    refine E_aload_n rfl rfl ?_
                    refine E_iload_n rfl rfl ?_
                    refine E_aload_n rfl rfl ?_
                    refine E_getfield (v := .ref 73) rfl w65 rfl (by decide) rfl ?_
                    refine E_iload_n rfl rfl ?_
                    refine E_ialN (l := qW s) (v := (qW s).getD a1k 0) rfl w73 (by omega) (by omega) rfl ?_
                    refine E_callV (v := some (.int (nI (qPr s a1k ((qW s).getD a1k 0))))) (As := [.ref 65, .int (nI a1k), .int (nI ((qW s).getD a1k 0))]) (r0 := [.int (nI a2k)]) (cs2 := (ww im lf s d k ls rf rz ra rn rq lt m1 m2 m3 m4 bd (fc.set 6 ((fc.getD 6 0) + (nI 1))) hd sz el s g fm hm so si sh ce ca td wa kp la (lsF (bst s (qPs s 99 (qN s)) (qN s) (2 ^ qN s))) oo bo pw ow tr)) rfl rfl rfl (Nat.le_of_ble_eq_true rfl) rfl (ab_rvOf w65 rfl) (mo_priceFor w_m I (by omega) (by omega)) (by decide) rfl ?_
                    refine E_isub (z := nI (a2k - (qPr s a1k ((qW s).getD a1k 0)))) rfl (pk_sub (by omega)) ?_
                    refine E_istore_n (L2 := [some (.ref 65), some (.int (nI a1k)), some (.int (nI a2k)), some (.int (nI (a2k - (qPr s a1k ((qW s).getD a1k 0)))))]) rfl rfl ?_
                    refine E_aload_n rfl rfl ?_
                    refine E_iload_n rfl rfl ?_
                    refine E_iconst (x := nI 0) rfl (by decide) ?_
                    refine E_bipush (x := nI 99) rfl (by decide) ?_
                    refine E_callV (v := some (.int (nI 1))) (As := [.ref 65, .int (nI a2k), .int (nI 0), .int (nI 99)]) (r0 := []) (cs2 := (ww im lf s d k ls rf rz ra rn rq lt m1 m2 m3 m4 bd (fc.set 6 ((fc.getD 6 0) + (nI 1))) hd sz el s g fm hm so si sh ce ca td wa kp la (lsF (bst s (qPs s 99 (qN s)) (qN s) (2 ^ qN s))) oo bo pw ow tr)) rfl rfl rfl (Nat.le_of_ble_eq_true rfl) rfl (ab_rvOf w65 rfl) (L85_X6_isFrom (by omega) (by omega) (by omega)) (by decide) rfl ?_
                    refine E_if (t := 39) (b := false) rfl rfl (by decide) ?_
                    refine E_iload_n rfl rfl ?_
                    refine E_aload_n rfl rfl ?_
                    refine E_getfield (v := .ref 71) rfl w65 rfl (by decide) rfl ?_
                    refine E_iload_n rfl rfl ?_
                    refine E_ialN (l := qU s) (v := (qU s).getD a1k 0) rfl w71 (by omega) (by omega) rfl ?_
                    refine E_ic (t := 39) (b := false) rfl rfl ((cn_gt (nI_toInt (by omega)) (nI_toInt (by omega))).trans (decide_eq_false (by omega))) ?_
                    refine E_iload_n rfl rfl ?_
                    refine E_if (t := 43) (b := true) rfl rfl ((cn_ge (nI_toInt (by omega)) (by decide : (0 : Int32).toInt = 0)).trans (decide_eq_true (by omega))) ?_
                    refine E_aload_n rfl rfl ?_
                    refine E_iload_n rfl rfl ?_
                    have e3 : Ev ab_Z0 3 172 [.ref 65, .int (nI (a2k - (qPr s a1k ((qW s).getD a1k 0))))] (ww im lf s d k ls rf rz ra rn rq lt m1 m2 m3 m4 bd (fc.set 6 ((fc.getD 6 0) + (nI 1))) hd sz el s g fm hm so si sh ce ca td wa kp la (lsF (bst s (qPs s 99 (qN s)) (qN s) (2 ^ qN s))) oo bo pw ow tr) (some (.int (-1)), (ww im lf s d k ls rf rz ra rn rq lt m1 m2 m3 m4 bd (fc.set 6 ((fc.getD 6 0) + (nI 1))) hd sz el s g fm hm so si sh ce ca td wa kp la (lsF (bst s (qPs s 99 (qN s)) (qN s) (2 ^ qN s))) oo bo pw ow tr)) := by
                      refine Ef.in (md := mX6_changeFor) (L := [some (.ref 65), some (.int (nI (a2k - (qPr s a1k ((qW s).getD a1k 0)))))]) rfl (Nat.le_of_ble_eq_true rfl) rfl ?_
                      refine E_aload_n rfl rfl ?_
                      refine E_getfield (v := .int (qR s)) rfl w65 rfl (by decide) rfl ?_
                      refine E_if (t := 16) (b := true) rfl rfl ((cn_ne rfl (by decide : (0 : Int32).toInt = 0)).trans (decide_eq_true (by omega))) ?_
                      refine E_aload_n rfl rfl ?_
                      refine E_iload_n rfl rfl ?_
                      refine E_callV (v := some (.int (-1))) (As := [.ref 65, .int (nI (a2k - (qPr s a1k ((qW s).getD a1k 0))))]) (r0 := []) (cs2 := (ww im lf s d k ls rf rz ra rn rq lt m1 m2 m3 m4 bd (fc.set 6 ((fc.getD 6 0) + (nI 1))) hd sz el s g fm hm so si sh ce ca td wa kp la (lsF (bst s (qPs s 99 (qN s)) (qN s) (2 ^ qN s))) oo bo pw ow tr)) rfl rfl rfl (Nat.le_of_ble_eq_true rfl) rfl (ab_rvOf w65 rfl) (Ev.g0 hg0 (mo_greedyFor w_m I (by omega))) (by decide) rfl ?_
                      exact E_iret rfl rfl
                    refine E_callV (v := some (.int (-1))) (As := [.ref 65, .int (nI (a2k - (qPr s a1k ((qW s).getD a1k 0))))]) (r0 := []) (cs2 := (ww im lf s d k ls rf rz ra rn rq lt m1 m2 m3 m4 bd (fc.set 6 ((fc.getD 6 0) + (nI 1))) hd sz el s g fm hm so si sh ce ca td wa kp la (lsF (bst s (qPs s 99 (qN s)) (qN s) (2 ^ qN s))) oo bo pw ow tr)) rfl rfl rfl (Nat.le_of_ble_eq_true rfl) rfl (ab_rvOf w65 rfl) e3 (by decide) rfl ?_
                    exact E_iret rfl rfl
                  refine E_callV (v := some (.int (-1))) (As := [.ref 65, .int (nI a1k), .int (nI a2k)]) (r0 := []) (cs2 := (ww im lf s d k ls rf rz ra rn rq lt m1 m2 m3 m4 bd (fc.set 6 ((fc.getD 6 0) + (nI 1))) hd sz el s g fm hm so si sh ce ca td wa kp la (lsF (bst s (qPs s 99 (qN s)) (qN s) (2 ^ qN s))) oo bo pw ow tr)) rfl rfl rfl (Nat.le_of_ble_eq_true rfl) rfl (ab_rvOf w65 rfl) e4 (by decide) rfl ?_
                  refine E_goto (t := 45) rfl rfl ?_
                  refine E_istore_n (L2 := [some (.ref 65), some (.int (nI a1k)), some (.int (nI a2k)), some (.int (-1))]) rfl rfl ?_
                  refine E_iload_n rfl rfl ?_
                  refine E_iconst (x := (-1)) rfl (by decide) ?_
                  refine E_ic (t := 58) (b := false) rfl rfl (by decide) ?_
                  refine E_aload_n rfl rfl ?_
                  refine E_bipush (x := (-6)) rfl (by decide) ?_
                  refine E_callV (v := some (.int (-6))) (As := [.ref 65, .int (-6)]) (r0 := []) (cs2 := (ww im lf s d k ls rf rz ra rn rq lt m1 m2 m3 m4 bd (fc.set 6 ((fc.getD 6 0) + (nI 1))) hd sz el s g (fm.set 6 ((fm.getD 6 0) + (nI 1))) hm so si sh ce ca td wa kp la (lsF (bst s (qPs s 99 (qN s)) (qN s) (2 ^ qN s))) oo bo pw ow tr)) rfl rfl rfl (Nat.le_of_ble_eq_true rfl) rfl (ab_rvOf w65 rfl) (L28_X6_no (by omega)) (by decide) w_lens ?_
                  exact E_iret rfl rfl
                · exact ⟨I, rfl, hf, ⟨⟨d0, d1, d2, d3, d4, d5, d6, d7, d8⟩, ⟨k0, k1, k2, k3, k4, k5, k6, k7, k8⟩, ⟨r0, r1, r2, r3, r4, r5, r6, r7, r8⟩⟩, iM, iT, iS, l_el, l_ls, l_lt, l_bd, (by simp only [List.length_set]; exact l_fc), (by simp only [List.length_set]; exact l_fm), l_hm, l_so, l_si, l_sh, l_ce, l_ca, l_td, l_wa, l_kp, l_la, (lsF_len _), l_oo, l_bo, l_pw, l_ow, l_tr⟩
              · have er2 : (qR s).toInt = 1 := by rw [er]; rfl
                have := I2 a1k (by omega)
                have := qPr_in I a1k (w := ((qW s).getD a1k 0)) (by omega)
                have hh0 : gj0 + 1 ≤ 512 := hg0 ▸ qGr_512 I (a2k - (qPr s a1k ((qW s).getD a1k 0)))
                have := qPs_in s 99 (i := qN s) (by omega)
                refine ⟨(nI gj0), (im, lf, (qs_P (qs_Y (qs_G (qs_U s ((qU s).set a1k (((qU s).getD a1k 0) - a2k))) ((qG s).set a1k (((qG s).getD a1k 0) + (nI 1)))) ((qY s) + (nI a2k))) (qGP (qP s) a1k gj0 (qN s))), d, k, ls, rf, rz, ra, rn, rq, lt, m1, m2, m3, m4, bd, fc, hd, sz, el, s, g, fm, hm, so, si, sh, ce, ca, td, wa, kp, la, bf, oo, bo, pw, ow, tr), (im, lf, (qs_P (qs_Y (qs_G (qs_U s ((qU s).set a1k (((qU s).getD a1k 0) - a2k))) ((qG s).set a1k (((qG s).getD a1k 0) + (nI 1)))) ((qY s) + (nI a2k))) (qGP (qP s) a1k gj0 (qN s))), d, k, ls, rf, rz, ra, rn, rq, lt, m1, m2, m3, m4, bd, fc, hd, sz, el, (qs_P (qs_Y (qs_G (qs_U s ((qU s).set a1k (((qU s).getD a1k 0) - a2k))) ((qG s).set a1k (((qG s).getD a1k 0) + (nI 1)))) ((qY s) + (nI a2k))) (qGP (qP s) a1k gj0 (qN s))), g, fm, hm, so, si, sh, ce, ca, td, wa, kp, la, (lsF (bst s (qPs s 99 (qN s)) (qN s) (2 ^ qN s))), oo, bo, pw, ow, tr), ?_, ?_, ?_⟩
                · show Ev ab_Z0 6 106 [.ref 0, .int (nI a1k), .int (nI a2k)] (ww im lf s d k ls rf rz ra rn rq lt m1 m2 m3 m4 bd fc hd sz el s g fm hm so si sh ce ca td wa kp la bf oo bo pw ow tr) (some (.int (nI gj0)), (ww im lf (qs_P (qs_Y (qs_G (qs_U s ((qU s).set a1k (((qU s).getD a1k 0) - a2k))) ((qG s).set a1k (((qG s).getD a1k 0) + (nI 1)))) ((qY s) + (nI a2k))) (qGP (qP s) a1k gj0 (qN s))) d k ls rf rz ra rn rq lt m1 m2 m3 m4 bd fc hd sz el s g fm hm so si sh ce ca td wa kp la bf oo bo pw ow tr))
                  refine Ef.in (md := mX5_cast) (L := [some (.ref 0), some (.int (nI a1k)), some (.int (nI a2k)), none]) rfl (Nat.le_of_ble_eq_true rfl) rfl ?_
                  refine E_aload_n rfl rfl ?_
                  refine E_getfield (v := .ref 1) rfl w0 rfl (by decide) rfl ?_
                  refine E_iload_n rfl rfl ?_
                  refine E_callV (v := some (.int (nI 1))) (As := [.ref 1, .int (nI a1k)]) (r0 := []) (cs2 := (ww im lf s d k ls rf rz ra rn rq lt m1 m2 m3 m4 bd fc hd sz el s g fm hm so si sh ce ca td wa kp la bf oo bo pw ow tr)) rfl rfl rfl (Nat.le_of_ble_eq_true rfl) rfl (ab_rvOf w1 rfl) (L0_X4_isPerson (by omega) (by omega) (by omega) (by omega)) (by decide) rfl ?_
                  refine E_if (t := 17) (b := true) rfl rfl (by decide) ?_
                  refine E_aload_n rfl rfl ?_
                  refine E_aload_n rfl rfl ?_
                  refine E_getfield (v := .ref 1) rfl w0 rfl (by decide) rfl ?_
                  refine E_iload_n rfl rfl ?_
                  refine E_iload_n rfl rfl ?_
                  have e2 : Ev ab_Z0 5 122 [.ref 0, .ref 1, .int (nI a1k), .int (nI a2k)] (ww im lf s d k ls rf rz ra rn rq lt m1 m2 m3 m4 bd fc hd sz el s g fm hm so si sh ce ca td wa kp la bf oo bo pw ow tr) (some (.int (nI gj0)), (ww im lf s d k ls rf rz ra rn rq lt m1 m2 m3 m4 bd fc hd sz el s g fm hm so si sh ce ca td wa kp la bf oo bo pw ow tr)) := by
                    refine Ef.in (md := mX5_throwBy) (L := [some (.ref 0), some (.ref 1), some (.int (nI a1k)), some (.int (nI a2k)), none]) rfl (Nat.le_of_ble_eq_true rfl) rfl ?_
                    refine E_aload_n rfl rfl ?_
                    refine E_iload_n rfl rfl ?_
                    refine E_callV (v := some (.int (nI 1))) (As := [.ref 1, .int (nI a1k)]) (r0 := []) (cs2 := (ww im lf s d k ls rf rz ra rn rq lt m1 m2 m3 m4 bd fc hd sz el s g fm hm so si sh ce ca td wa kp la bf oo bo pw ow tr)) rfl rfl rfl (Nat.le_of_ble_eq_true rfl) rfl (ab_rvOf w1 rfl) (L0_X4_isPerson (by omega) (by omega) (by omega) (by omega)) (by decide) rfl ?_
                    refine E_if (t := 18) (b := false) rfl rfl (by decide) ?_
                    refine E_iload_n rfl rfl ?_
                    refine E_aload_n rfl rfl ?_
                    refine E_getfield (v := .ref 6) rfl w1 rfl (by decide) rfl ?_
                    refine E_iload_n rfl rfl ?_
                    refine E_ialN (l := qU s) (v := (qU s).getD a1k 0) rfl w6 (by omega) (by omega) rfl ?_
                    refine E_ic (t := 20) (b := true) rfl rfl ((cn_le (nI_toInt (by omega)) (nI_toInt (by omega))).trans (decide_eq_true (by omega))) ?_
                    refine E_aload_n rfl rfl ?_
                    refine E_iload_n rfl rfl ?_
                    refine E_aload_n rfl rfl ?_
                    refine E_getfield (v := .ref 8) rfl w1 rfl (by decide) rfl ?_
                    refine E_iload_n rfl rfl ?_
                    refine E_ialN (l := qW s) (v := (qW s).getD a1k 0) rfl w8 (by omega) (by omega) rfl ?_
                    refine E_callV (v := some (.int (nI (qPr s a1k ((qW s).getD a1k 0))))) (As := [.ref 1, .int (nI a1k), .int (nI ((qW s).getD a1k 0))]) (r0 := []) (cs2 := (ww im lf s d k ls rf rz ra rn rq lt m1 m2 m3 m4 bd fc hd sz el s g fm hm so si sh ce ca td wa kp la bf oo bo pw ow tr)) rfl rfl rfl (Nat.le_of_ble_eq_true rfl) rfl (ab_rvOf w1 rfl) (sq_priceFor w_q1 I (by omega) (by omega)) (by decide) rfl ?_
                    refine E_istore (L2 := [some (.ref 0), some (.ref 1), some (.int (nI a1k)), some (.int (nI a2k)), some (.int (nI (qPr s a1k ((qW s).getD a1k 0))))]) rfl rfl ?_
                    refine E_iload_n rfl rfl ?_
                    refine E_iload rfl rfl ?_
                    refine E_ic (t := 43) (b := true) rfl rfl ((cn_ge (nI_toInt (by omega)) (nI_toInt (by omega))).trans (decide_eq_true (by omega))) ?_
                    refine E_aload_n rfl rfl ?_
                    refine E_getfield (v := .ref 32) rfl w0 rfl (by decide) rfl ?_
                    refine E_aload_n rfl rfl ?_
                    refine E_aload_n rfl rfl ?_
                    refine E_getfield (v := .int (qR s)) rfl w1 rfl (by decide) rfl ?_
                    refine E_iload_n rfl rfl ?_
                    refine E_iload rfl rfl ?_
                    refine E_isub (z := nI (a2k - (qPr s a1k ((qW s).getD a1k 0)))) rfl (pk_sub (by omega)) ?_
                    have e1 : Ev ab_Z0 4 1 [.ref 32, .ref 1, .int (qR s), .int (nI (a2k - (qPr s a1k ((qW s).getD a1k 0))))] (ww im lf s d k ls rf rz ra rn rq lt m1 m2 m3 m4 bd fc hd sz el s g fm hm so si sh ce ca td wa kp la bf oo bo pw ow tr) (some (.int (nI gj0)), (ww im lf s d k ls rf rz ra rn rq lt m1 m2 m3 m4 bd fc hd sz el s g fm hm so si sh ce ca td wa kp la bf oo bo pw ow tr)) := by
                      refine Ef.in (md := mX0_bitsBy) (L := [some (.ref 32), some (.ref 1), some (.int (qR s)), some (.int (nI (a2k - (qPr s a1k ((qW s).getD a1k 0)))))]) rfl (Nat.le_of_ble_eq_true rfl) rfl ?_
                      refine E_iload_n rfl rfl ?_
                      refine E_iconst (x := nI 1) rfl (by decide) ?_
                      refine E_ic (t := 11) (b := false) rfl rfl ((cn_ne rfl (nI_toInt (by omega))).trans (decide_eq_false (by omega))) ?_
                      refine E_aload_n rfl rfl ?_
                      refine E_iload_n rfl rfl ?_
                      refine E_callV (v := some (.int (nI gj0))) (As := [.ref 1, .int (nI (a2k - (qPr s a1k ((qW s).getD a1k 0))))]) (r0 := []) (cs2 := (ww im lf s d k ls rf rz ra rn rq lt m1 m2 m3 m4 bd fc hd sz el s g fm hm so si sh ce ca td wa kp la bf oo bo pw ow tr)) rfl rfl rfl (Nat.le_of_ble_eq_true rfl) rfl (ab_rvOf w1 rfl) (Ev.g1 hg0 (sq_greedyFor w_q1 I (by omega))) (by decide) rfl ?_
                      exact E_iret rfl rfl
                    refine E_callV (v := some (.int (nI gj0))) (As := [.ref 32, .ref 1, .int (qR s), .int (nI (a2k - (qPr s a1k ((qW s).getD a1k 0))))]) (r0 := []) (cs2 := (ww im lf s d k ls rf rz ra rn rq lt m1 m2 m3 m4 bd fc hd sz el s g fm hm so si sh ce ca td wa kp la bf oo bo pw ow tr)) rfl rfl rfl (Nat.le_of_ble_eq_true rfl) rfl (ab_rvOf w32 rfl) e1 (by decide) rfl ?_
                    exact E_iret rfl rfl
                  refine E_callV (v := some (.int (nI gj0))) (As := [.ref 0, .ref 1, .int (nI a1k), .int (nI a2k)]) (r0 := []) (cs2 := (ww im lf s d k ls rf rz ra rn rq lt m1 m2 m3 m4 bd fc hd sz el s g fm hm so si sh ce ca td wa kp la bf oo bo pw ow tr)) rfl rfl rfl (Nat.le_of_ble_eq_true rfl) rfl (ab_rvOf w0 rfl) e2 (by decide) rfl ?_
                  refine E_istore_n (L2 := [some (.ref 0), some (.int (nI a1k)), some (.int (nI a2k)), some (.int (nI gj0))]) rfl rfl ?_
                  refine E_iload_n rfl rfl ?_
                  refine E_iconst (x := (-1)) rfl (by decide) ?_
                  refine E_ic (t := 40) (b := true) rfl rfl ((cn_ne (nI_toInt (by omega)) (by decide : (-1 : Int32).toInt = -1)).trans (decide_eq_true (by omega))) ?_
                  refine E_aload_n rfl rfl ?_
                  refine E_getfield (v := .ref 1) rfl w0 rfl (by decide) rfl ?_
                  refine E_iload_n rfl rfl ?_
                  refine E_iload_n rfl rfl ?_
                  refine E_iload_n rfl rfl ?_
                  have e3 : Ev ab_Z0 2 71 [.ref 1, .int (nI a1k), .int (nI a2k), .int (nI gj0)] (ww im lf s d k ls rf rz ra rn rq lt m1 m2 m3 m4 bd fc hd sz el s g fm hm so si sh ce ca td wa kp la bf oo bo pw ow tr) (none, (ww im lf (qs_P (qs_Y (qs_G (qs_U s ((qU s).set a1k (((qU s).getD a1k 0) - a2k))) ((qG s).set a1k (((qG s).getD a1k 0) + (nI 1)))) ((qY s) + (nI a2k))) (qGP (qP s) a1k gj0 (qN s))) d k ls rf rz ra rn rq lt m1 m2 m3 m4 bd fc hd sz el s g fm hm so si sh ce ca td wa kp la bf oo bo pw ow tr)) := by
                    refine Ef.in (md := mX4_grant) (L := [some (.ref 1), some (.int (nI a1k)), some (.int (nI a2k)), some (.int (nI gj0)), none]) rfl (Nat.le_of_ble_eq_true rfl) rfl ?_
                    refine E_aload_n rfl rfl ?_
                    refine E_getfield (v := .ref 6) rfl w1 rfl (by decide) rfl ?_
                    refine E_iload_n rfl rfl ?_
                    refine E_dup2 rfl ⟨rfl, rfl⟩ ?_
                    refine E_ialN (l := qU s) (v := (qU s).getD a1k 0) rfl w6 (by omega) (by omega) rfl ?_
                    refine E_iload_n rfl rfl ?_
                    refine E_isub (z := nI (((qU s).getD a1k 0) - a2k)) rfl (pk_sub (by omega)) ?_
                    refine E_iasN (l := qU s) (cs2 := (ww im lf (qs_U s ((qU s).set a1k (((qU s).getD a1k 0) - a2k))) d k ls rf rz ra rn rq lt m1 m2 m3 m4 bd fc hd sz el s g fm hm so si sh ce ca td wa kp la bf oo bo pw ow tr)) rfl w6 (by omega) (by omega) w_pt1_U ?_
                    refine E_aload_n rfl rfl ?_
                    refine E_getfield (v := .ref 9) rfl w1 rfl (by decide) rfl ?_
                    refine E_iload_n rfl rfl ?_
                    refine E_dup2 rfl ⟨rfl, rfl⟩ ?_
                    refine E_ialI (l := qG s) (v := (qG s).getD a1k 0) rfl (w9v qg_GU) (by omega) (by omega) rfl ?_
                    refine E_iconst (x := nI 1) rfl (by decide) ?_
                    refine E_iadd (z := ((qG s).getD a1k 0) + (nI 1)) rfl rfl ?_
                    refine E_iasI (l := qG s) (cs2 := (ww im lf (qs_G (qs_U s ((qU s).set a1k (((qU s).getD a1k 0) - a2k))) ((qG s).set a1k (((qG s).getD a1k 0) + (nI 1)))) d k ls rf rz ra rn rq lt m1 m2 m3 m4 bd fc hd sz el s g fm hm so si sh ce ca td wa kp la bf oo bo pw ow tr)) rfl (w9v qg_GU) (by omega) (by omega) w_pt1_G ?_
                    refine E_aload_n rfl rfl ?_
                    refine E_dup rfl rfl ?_
                    refine E_getfield (v := .int (qY s)) rfl w1 rfl (by decide) (congrArg (fun z => some (Value.int z)) (qg_YG.trans qg_YU)) ?_
                    refine E_iload_n rfl rfl ?_
                    refine E_iadd (z := (qY s) + (nI a2k)) rfl rfl ?_
                    refine E_putfield (cs2 := (ww im lf (qs_Y (qs_G (qs_U s ((qU s).set a1k (((qU s).getD a1k 0) - a2k))) ((qG s).set a1k (((qG s).getD a1k 0) + (nI 1)))) ((qY s) + (nI a2k))) d k ls rf rz ra rn rq lt m1 m2 m3 m4 bd fc hd sz el s g fm hm so si sh ce ca td wa kp la bf oo bo pw ow tr)) rfl w1 rfl (by decide) (Nat.le_of_ble_eq_true rfl) rfl rfl rfl w_pt1_Y ?_
                    refine E_iconst (x := nI 0) rfl (by decide) ?_
                    refine E_istore (L2 := [some (.ref 1), some (.int (nI a1k)), some (.int (nI a2k)), some (.int (nI gj0)), some (.int (nI 0))]) rfl rfl ?_
                    exact grant_s1 (s := (qs_Y (qs_G (qs_U s ((qU s).set a1k (((qU s).getD a1k 0) - a2k))) ((qG s).set a1k (((qG s).getD a1k 0) + (nI 1)))) ((qY s) + (nI a2k)))) (p := a1k) (n := a2k) (m := gj0) (l := qP s) (n1 := qN s) ((congrArg (qs_P _) (Eq.symm (qg_PY.trans (qg_PG.trans qg_PU)))).trans qs_Pself) (qg_NY.trans (qg_NG.trans qg_NU)) (by omega) (I).1.2.2.2 (by omega) (by omega)
                  refine E_callV (v := none) (As := [.ref 1, .int (nI a1k), .int (nI a2k), .int (nI gj0)]) (r0 := []) (cs2 := (ww im lf (qs_P (qs_Y (qs_G (qs_U s ((qU s).set a1k (((qU s).getD a1k 0) - a2k))) ((qG s).set a1k (((qG s).getD a1k 0) + (nI 1)))) ((qY s) + (nI a2k))) (qGP (qP s) a1k gj0 (qN s))) d k ls rf rz ra rn rq lt m1 m2 m3 m4 bd fc hd sz el s g fm hm so si sh ce ca td wa kp la bf oo bo pw ow tr)) rfl rfl rfl (Nat.le_of_ble_eq_true rfl) rfl (ab_rvOf w1 rfl) e3 (by decide) w_lens ?_
                  refine E_iload_n rfl rfl ?_
                  exact E_iret rfl rfl
                · show Ev ab_Z0 5 197 [.ref 65, .int (nI a1k), .int (nI a2k)] (ww im lf (qs_P (qs_Y (qs_G (qs_U s ((qU s).set a1k (((qU s).getD a1k 0) - a2k))) ((qG s).set a1k (((qG s).getD a1k 0) + (nI 1)))) ((qY s) + (nI a2k))) (qGP (qP s) a1k gj0 (qN s))) d k ls rf rz ra rn rq lt m1 m2 m3 m4 bd fc hd sz el s g fm hm so si sh ce ca td wa kp la bf oo bo pw ow tr) (some (.int (nI gj0)), (ww im lf (qs_P (qs_Y (qs_G (qs_U s ((qU s).set a1k (((qU s).getD a1k 0) - a2k))) ((qG s).set a1k (((qG s).getD a1k 0) + (nI 1)))) ((qY s) + (nI a2k))) (qGP (qP s) a1k gj0 (qN s))) d k ls rf rz ra rn rq lt m1 m2 m3 m4 bd fc hd sz el (qs_P (qs_Y (qs_G (qs_U s ((qU s).set a1k (((qU s).getD a1k 0) - a2k))) ((qG s).set a1k (((qG s).getD a1k 0) + (nI 1)))) ((qY s) + (nI a2k))) (qGP (qP s) a1k gj0 (qN s))) g fm hm so si sh ce ca td wa kp la (lsF (bst s (qPs s 99 (qN s)) (qN s) (2 ^ qN s))) oo bo pw ow tr))
                  refine Ef.in (md := mX6_cast) (L := [some (.ref 65), some (.int (nI a1k)), some (.int (nI a2k)), none]) rfl (Nat.le_of_ble_eq_true rfl) rfl ?_
                  refine E_aload_n rfl rfl ?_
                  refine E_iload_n rfl rfl ?_
                  refine E_callV (v := some (.int (nI 1))) (As := [.ref 65, .int (nI a1k)]) (r0 := []) (cs2 := (ww im lf (qs_P (qs_Y (qs_G (qs_U s ((qU s).set a1k (((qU s).getD a1k 0) - a2k))) ((qG s).set a1k (((qG s).getD a1k 0) + (nI 1)))) ((qY s) + (nI a2k))) (qGP (qP s) a1k gj0 (qN s))) d k ls rf rz ra rn rq lt m1 m2 m3 m4 bd fc hd sz el s g fm hm so si sh ce ca td wa kp la bf oo bo pw ow tr)) rfl rfl rfl (Nat.le_of_ble_eq_true rfl) rfl (ab_rvOf w65 rfl) (L2_X6_isOne (by omega) (by omega) (by omega) (by omega)) (by decide) rfl ?_
                  refine E_if (t := 14) (b := true) rfl rfl (by decide) ?_
                  refine E_aload_n rfl rfl ?_
                  refine E_aload_n rfl rfl ?_
                  refine E_bipush (x := nI 99) rfl (by decide) ?_
                  refine E_callV (v := some (.int (nI (qPs s 99 (qN s))))) (As := [.ref 65, .int (nI 99)]) (r0 := [.ref 65]) (cs2 := (ww im lf (qs_P (qs_Y (qs_G (qs_U s ((qU s).set a1k (((qU s).getD a1k 0) - a2k))) ((qG s).set a1k (((qG s).getD a1k 0) + (nI 1)))) ((qY s) + (nI a2k))) (qGP (qP s) a1k gj0 (qN s))) d k ls rf rz ra rn rq lt m1 m2 m3 m4 bd fc hd sz el s g fm hm so si sh ce ca td wa kp la bf oo bo pw ow tr)) rfl rfl rfl (Nat.le_of_ble_eq_true rfl) rfl (ab_rvOf w65 rfl) (mo_piecesOf w_m I (by omega)) (by decide) rfl ?_
                  refine E_callV (v := none) (As := [.ref 65, .int (nI (qPs s 99 (qN s)))]) (r0 := []) (cs2 := (ww im lf (qs_P (qs_Y (qs_G (qs_U s ((qU s).set a1k (((qU s).getD a1k 0) - a2k))) ((qG s).set a1k (((qG s).getD a1k 0) + (nI 1)))) ((qY s) + (nI a2k))) (qGP (qP s) a1k gj0 (qN s))) d k ls rf rz ra rn rq lt m1 m2 m3 m4 bd fc hd sz el s g fm hm so si sh ce ca td wa kp la (lsF (bst s (qPs s 99 (qN s)) (qN s) (2 ^ qN s))) oo bo pw ow tr)) rfl rfl rfl (Nat.le_of_ble_eq_true rfl) rfl (ab_rvOf w65 rfl) (w_best (m := qPs s 99 (qN s)) I (by omega) l_bf) (by decide) w_lens ?_
                  refine E_aload_n rfl rfl ?_
                  refine E_iload_n rfl rfl ?_
                  refine E_iconst (x := nI 0) rfl (by decide) ?_
                  refine E_bipush (x := nI 99) rfl (by decide) ?_
                  refine E_callV (v := some (.int (nI 1))) (As := [.ref 65, .int (nI a2k), .int (nI 0), .int (nI 99)]) (r0 := []) (cs2 := (ww im lf (qs_P (qs_Y (qs_G (qs_U s ((qU s).set a1k (((qU s).getD a1k 0) - a2k))) ((qG s).set a1k (((qG s).getD a1k 0) + (nI 1)))) ((qY s) + (nI a2k))) (qGP (qP s) a1k gj0 (qN s))) d k ls rf rz ra rn rq lt m1 m2 m3 m4 bd fc hd sz el s g fm hm so si sh ce ca td wa kp la (lsF (bst s (qPs s 99 (qN s)) (qN s) (2 ^ qN s))) oo bo pw ow tr)) rfl rfl rfl (Nat.le_of_ble_eq_true rfl) rfl (ab_rvOf w65 rfl) (L85_X6_isFrom (by omega) (by omega) (by omega)) (by decide) rfl ?_
                  refine E_if (t := 44) (b := false) rfl rfl (by decide) ?_
                  refine E_aload_n rfl rfl ?_
                  refine E_iload_n rfl rfl ?_
                  refine E_iload_n rfl rfl ?_
                  have e5 : Ev ab_Z0 4 176 [.ref 65, .int (nI a1k), .int (nI a2k)] (ww im lf (qs_P (qs_Y (qs_G (qs_U s ((qU s).set a1k (((qU s).getD a1k 0) - a2k))) ((qG s).set a1k (((qG s).getD a1k 0) + (nI 1)))) ((qY s) + (nI a2k))) (qGP (qP s) a1k gj0 (qN s))) d k ls rf rz ra rn rq lt m1 m2 m3 m4 bd fc hd sz el s g fm hm so si sh ce ca td wa kp la (lsF (bst s (qPs s 99 (qN s)) (qN s) (2 ^ qN s))) oo bo pw ow tr) (some (.int (nI gj0)), (ww im lf (qs_P (qs_Y (qs_G (qs_U s ((qU s).set a1k (((qU s).getD a1k 0) - a2k))) ((qG s).set a1k (((qG s).getD a1k 0) + (nI 1)))) ((qY s) + (nI a2k))) (qGP (qP s) a1k gj0 (qN s))) d k ls rf rz ra rn rq lt m1 m2 m3 m4 bd fc hd sz el s g fm hm so si sh ce ca td wa kp la (lsF (bst s (qPs s 99 (qN s)) (qN s) (2 ^ qN s))) oo bo pw ow tr)) := by
                    refine Ef.in (md := mX6_thrown) (L := [some (.ref 65), some (.int (nI a1k)), some (.int (nI a2k)), none]) rfl (Nat.le_of_ble_eq_true rfl) rfl ?_
                    refine E_iload_n rfl rfl ?_
                    refine E_aload_n rfl rfl ?_
                    refine E_iload_n rfl rfl ?_
                    refine E_aload_n rfl rfl ?_
                    refine E_getfield (v := .ref 73) rfl w65 rfl (by decide) rfl ?_
                    refine E_iload_n rfl rfl ?_
                    refine E_ialN (l := qW s) (v := (qW s).getD a1k 0) rfl w73 (by omega) (by omega) rfl ?_
                    refine E_callV (v := some (.int (nI (qPr s a1k ((qW s).getD a1k 0))))) (As := [.ref 65, .int (nI a1k), .int (nI ((qW s).getD a1k 0))]) (r0 := [.int (nI a2k)]) (cs2 := (ww im lf (qs_P (qs_Y (qs_G (qs_U s ((qU s).set a1k (((qU s).getD a1k 0) - a2k))) ((qG s).set a1k (((qG s).getD a1k 0) + (nI 1)))) ((qY s) + (nI a2k))) (qGP (qP s) a1k gj0 (qN s))) d k ls rf rz ra rn rq lt m1 m2 m3 m4 bd fc hd sz el s g fm hm so si sh ce ca td wa kp la (lsF (bst s (qPs s 99 (qN s)) (qN s) (2 ^ qN s))) oo bo pw ow tr)) rfl rfl rfl (Nat.le_of_ble_eq_true rfl) rfl (ab_rvOf w65 rfl) (mo_priceFor w_m I (by omega) (by omega)) (by decide) rfl ?_
                    refine E_isub (z := nI (a2k - (qPr s a1k ((qW s).getD a1k 0)))) rfl (pk_sub (by omega)) ?_
                    refine E_istore_n (L2 := [some (.ref 65), some (.int (nI a1k)), some (.int (nI a2k)), some (.int (nI (a2k - (qPr s a1k ((qW s).getD a1k 0)))))]) rfl rfl ?_
                    refine E_aload_n rfl rfl ?_
                    refine E_iload_n rfl rfl ?_
                    refine E_iconst (x := nI 0) rfl (by decide) ?_
                    refine E_bipush (x := nI 99) rfl (by decide) ?_
                    refine E_callV (v := some (.int (nI 1))) (As := [.ref 65, .int (nI a2k), .int (nI 0), .int (nI 99)]) (r0 := []) (cs2 := (ww im lf (qs_P (qs_Y (qs_G (qs_U s ((qU s).set a1k (((qU s).getD a1k 0) - a2k))) ((qG s).set a1k (((qG s).getD a1k 0) + (nI 1)))) ((qY s) + (nI a2k))) (qGP (qP s) a1k gj0 (qN s))) d k ls rf rz ra rn rq lt m1 m2 m3 m4 bd fc hd sz el s g fm hm so si sh ce ca td wa kp la (lsF (bst s (qPs s 99 (qN s)) (qN s) (2 ^ qN s))) oo bo pw ow tr)) rfl rfl rfl (Nat.le_of_ble_eq_true rfl) rfl (ab_rvOf w65 rfl) (L85_X6_isFrom (by omega) (by omega) (by omega)) (by decide) rfl ?_
                    refine E_if (t := 39) (b := false) rfl rfl (by decide) ?_
                    refine E_iload_n rfl rfl ?_
                    refine E_aload_n rfl rfl ?_
                    refine E_getfield (v := .ref 71) rfl w65 rfl (by decide) rfl ?_
                    refine E_iload_n rfl rfl ?_
                    refine E_ialN (l := qU s) (v := (qU s).getD a1k 0) rfl w71 (by omega) (by omega) rfl ?_
                    refine E_ic (t := 39) (b := false) rfl rfl ((cn_gt (nI_toInt (by omega)) (nI_toInt (by omega))).trans (decide_eq_false (by omega))) ?_
                    refine E_iload_n rfl rfl ?_
                    refine E_if (t := 43) (b := true) rfl rfl ((cn_ge (nI_toInt (by omega)) (by decide : (0 : Int32).toInt = 0)).trans (decide_eq_true (by omega))) ?_
                    refine E_aload_n rfl rfl ?_
                    refine E_iload_n rfl rfl ?_
                    have e4 : Ev ab_Z0 3 172 [.ref 65, .int (nI (a2k - (qPr s a1k ((qW s).getD a1k 0))))] (ww im lf (qs_P (qs_Y (qs_G (qs_U s ((qU s).set a1k (((qU s).getD a1k 0) - a2k))) ((qG s).set a1k (((qG s).getD a1k 0) + (nI 1)))) ((qY s) + (nI a2k))) (qGP (qP s) a1k gj0 (qN s))) d k ls rf rz ra rn rq lt m1 m2 m3 m4 bd fc hd sz el s g fm hm so si sh ce ca td wa kp la (lsF (bst s (qPs s 99 (qN s)) (qN s) (2 ^ qN s))) oo bo pw ow tr) (some (.int (nI gj0)), (ww im lf (qs_P (qs_Y (qs_G (qs_U s ((qU s).set a1k (((qU s).getD a1k 0) - a2k))) ((qG s).set a1k (((qG s).getD a1k 0) + (nI 1)))) ((qY s) + (nI a2k))) (qGP (qP s) a1k gj0 (qN s))) d k ls rf rz ra rn rq lt m1 m2 m3 m4 bd fc hd sz el s g fm hm so si sh ce ca td wa kp la (lsF (bst s (qPs s 99 (qN s)) (qN s) (2 ^ qN s))) oo bo pw ow tr)) := by
                      refine Ef.in (md := mX6_changeFor) (L := [some (.ref 65), some (.int (nI (a2k - (qPr s a1k ((qW s).getD a1k 0)))))]) rfl (Nat.le_of_ble_eq_true rfl) rfl ?_
                      refine E_aload_n rfl rfl ?_
                      refine E_getfield (v := .int (qR s)) rfl w65 rfl (by decide) rfl ?_
                      refine E_if (t := 16) (b := true) rfl rfl ((cn_ne rfl (by decide : (0 : Int32).toInt = 0)).trans (decide_eq_true (by omega))) ?_
                      refine E_aload_n rfl rfl ?_
                      refine E_iload_n rfl rfl ?_
                      refine E_callV (v := some (.int (nI gj0))) (As := [.ref 65, .int (nI (a2k - (qPr s a1k ((qW s).getD a1k 0))))]) (r0 := []) (cs2 := (ww im lf (qs_P (qs_Y (qs_G (qs_U s ((qU s).set a1k (((qU s).getD a1k 0) - a2k))) ((qG s).set a1k (((qG s).getD a1k 0) + (nI 1)))) ((qY s) + (nI a2k))) (qGP (qP s) a1k gj0 (qN s))) d k ls rf rz ra rn rq lt m1 m2 m3 m4 bd fc hd sz el s g fm hm so si sh ce ca td wa kp la (lsF (bst s (qPs s 99 (qN s)) (qN s) (2 ^ qN s))) oo bo pw ow tr)) rfl rfl rfl (Nat.le_of_ble_eq_true rfl) rfl (ab_rvOf w65 rfl) (Ev.g1 hg0 (mo_greedyFor w_m I (by omega))) (by decide) rfl ?_
                      exact E_iret rfl rfl
                    refine E_callV (v := some (.int (nI gj0))) (As := [.ref 65, .int (nI (a2k - (qPr s a1k ((qW s).getD a1k 0))))]) (r0 := []) (cs2 := (ww im lf (qs_P (qs_Y (qs_G (qs_U s ((qU s).set a1k (((qU s).getD a1k 0) - a2k))) ((qG s).set a1k (((qG s).getD a1k 0) + (nI 1)))) ((qY s) + (nI a2k))) (qGP (qP s) a1k gj0 (qN s))) d k ls rf rz ra rn rq lt m1 m2 m3 m4 bd fc hd sz el s g fm hm so si sh ce ca td wa kp la (lsF (bst s (qPs s 99 (qN s)) (qN s) (2 ^ qN s))) oo bo pw ow tr)) rfl rfl rfl (Nat.le_of_ble_eq_true rfl) rfl (ab_rvOf w65 rfl) e4 (by decide) rfl ?_
                    exact E_iret rfl rfl
                  refine E_callV (v := some (.int (nI gj0))) (As := [.ref 65, .int (nI a1k), .int (nI a2k)]) (r0 := []) (cs2 := (ww im lf (qs_P (qs_Y (qs_G (qs_U s ((qU s).set a1k (((qU s).getD a1k 0) - a2k))) ((qG s).set a1k (((qG s).getD a1k 0) + (nI 1)))) ((qY s) + (nI a2k))) (qGP (qP s) a1k gj0 (qN s))) d k ls rf rz ra rn rq lt m1 m2 m3 m4 bd fc hd sz el s g fm hm so si sh ce ca td wa kp la (lsF (bst s (qPs s 99 (qN s)) (qN s) (2 ^ qN s))) oo bo pw ow tr)) rfl rfl rfl (Nat.le_of_ble_eq_true rfl) rfl (ab_rvOf w65 rfl) e5 (by decide) rfl ?_
                  refine E_goto (t := 45) rfl rfl ?_
                  refine E_istore_n (L2 := [some (.ref 65), some (.int (nI a1k)), some (.int (nI a2k)), some (.int (nI gj0))]) rfl rfl ?_
                  refine E_iload_n rfl rfl ?_
                  refine E_iconst (x := (-1)) rfl (by decide) ?_
                  refine E_ic (t := 58) (b := true) rfl rfl ((cn_ne (nI_toInt (by omega)) (by decide : (-1 : Int32).toInt = -1)).trans (decide_eq_true (by omega))) ?_
                  refine E_aload_n rfl rfl ?_
                  refine E_iload_n rfl rfl ?_
                  refine E_iload_n rfl rfl ?_
                  refine E_iload_n rfl rfl ?_
                  have e6 : Ev ab_Z0 1 183 [.ref 65, .int (nI a1k), .int (nI a2k), .int (nI gj0)] (ww im lf (qs_P (qs_Y (qs_G (qs_U s ((qU s).set a1k (((qU s).getD a1k 0) - a2k))) ((qG s).set a1k (((qG s).getD a1k 0) + (nI 1)))) ((qY s) + (nI a2k))) (qGP (qP s) a1k gj0 (qN s))) d k ls rf rz ra rn rq lt m1 m2 m3 m4 bd fc hd sz el s g fm hm so si sh ce ca td wa kp la (lsF (bst s (qPs s 99 (qN s)) (qN s) (2 ^ qN s))) oo bo pw ow tr) (none, (ww im lf (qs_P (qs_Y (qs_G (qs_U s ((qU s).set a1k (((qU s).getD a1k 0) - a2k))) ((qG s).set a1k (((qG s).getD a1k 0) + (nI 1)))) ((qY s) + (nI a2k))) (qGP (qP s) a1k gj0 (qN s))) d k ls rf rz ra rn rq lt m1 m2 m3 m4 bd fc hd sz el (qs_P (qs_Y (qs_G (qs_U s ((qU s).set a1k (((qU s).getD a1k 0) - a2k))) ((qG s).set a1k (((qG s).getD a1k 0) + (nI 1)))) ((qY s) + (nI a2k))) (qGP (qP s) a1k gj0 (qN s))) g fm hm so si sh ce ca td wa kp la (lsF (bst s (qPs s 99 (qN s)) (qN s) (2 ^ qN s))) oo bo pw ow tr)) := by
                    refine Ef.in (md := mX6_throwsIn) (L := [some (.ref 65), some (.int (nI a1k)), some (.int (nI a2k)), some (.int (nI gj0)), none]) rfl (Nat.le_of_ble_eq_true rfl) rfl ?_
                    refine E_aload_n rfl rfl ?_
                    refine E_getfield (v := .ref 71) rfl w65 rfl (by decide) rfl ?_
                    refine E_iload_n rfl rfl ?_
                    refine E_dup2 rfl ⟨rfl, rfl⟩ ?_
                    refine E_ialN (l := qU s) (v := (qU s).getD a1k 0) rfl w71 (by omega) (by omega) rfl ?_
                    refine E_iload_n rfl rfl ?_
                    refine E_isub (z := nI (((qU s).getD a1k 0) - a2k)) rfl (pk_sub (by omega)) ?_
                    refine E_iasN (l := qU s) (cs2 := (ww im lf (qs_P (qs_Y (qs_G (qs_U s ((qU s).set a1k (((qU s).getD a1k 0) - a2k))) ((qG s).set a1k (((qG s).getD a1k 0) + (nI 1)))) ((qY s) + (nI a2k))) (qGP (qP s) a1k gj0 (qN s))) d k ls rf rz ra rn rq lt m1 m2 m3 m4 bd fc hd sz el (qs_U s ((qU s).set a1k (((qU s).getD a1k 0) - a2k))) g fm hm so si sh ce ca td wa kp la (lsF (bst s (qPs s 99 (qN s)) (qN s) (2 ^ qN s))) oo bo pw ow tr)) rfl w71 (by omega) (by omega) w_pt65_U ?_
                    refine E_aload_n rfl rfl ?_
                    refine E_getfield (v := .ref 74) rfl w65 rfl (by decide) rfl ?_
                    refine E_iload_n rfl rfl ?_
                    refine E_dup2 rfl ⟨rfl, rfl⟩ ?_
                    refine E_ialI (l := qG s) (v := (qG s).getD a1k 0) rfl (w74v qg_GU) (by omega) (by omega) rfl ?_
                    refine E_iconst (x := nI 1) rfl (by decide) ?_
                    refine E_iadd (z := ((qG s).getD a1k 0) + (nI 1)) rfl rfl ?_
                    refine E_iasI (l := qG s) (cs2 := (ww im lf (qs_P (qs_Y (qs_G (qs_U s ((qU s).set a1k (((qU s).getD a1k 0) - a2k))) ((qG s).set a1k (((qG s).getD a1k 0) + (nI 1)))) ((qY s) + (nI a2k))) (qGP (qP s) a1k gj0 (qN s))) d k ls rf rz ra rn rq lt m1 m2 m3 m4 bd fc hd sz el (qs_G (qs_U s ((qU s).set a1k (((qU s).getD a1k 0) - a2k))) ((qG s).set a1k (((qG s).getD a1k 0) + (nI 1)))) g fm hm so si sh ce ca td wa kp la (lsF (bst s (qPs s 99 (qN s)) (qN s) (2 ^ qN s))) oo bo pw ow tr)) rfl (w74v qg_GU) (by omega) (by omega) w_pt65_G ?_
                    refine E_aload_n rfl rfl ?_
                    refine E_dup rfl rfl ?_
                    refine E_getfield (v := .int (qY s)) rfl w65 rfl (by decide) (congrArg (fun z => some (Value.int z)) (qg_YG.trans qg_YU)) ?_
                    refine E_iload_n rfl rfl ?_
                    refine E_iadd (z := (qY s) + (nI a2k)) rfl rfl ?_
                    refine E_putfield (cs2 := (ww im lf (qs_P (qs_Y (qs_G (qs_U s ((qU s).set a1k (((qU s).getD a1k 0) - a2k))) ((qG s).set a1k (((qG s).getD a1k 0) + (nI 1)))) ((qY s) + (nI a2k))) (qGP (qP s) a1k gj0 (qN s))) d k ls rf rz ra rn rq lt m1 m2 m3 m4 bd fc hd sz el (qs_Y (qs_G (qs_U s ((qU s).set a1k (((qU s).getD a1k 0) - a2k))) ((qG s).set a1k (((qG s).getD a1k 0) + (nI 1)))) ((qY s) + (nI a2k))) g fm hm so si sh ce ca td wa kp la (lsF (bst s (qPs s 99 (qN s)) (qN s) (2 ^ qN s))) oo bo pw ow tr)) rfl w65 rfl (by decide) (Nat.le_of_ble_eq_true rfl) rfl rfl rfl w_pt65_Y ?_
                    refine E_iconst (x := nI 0) rfl (by decide) ?_
                    refine E_istore (L2 := [some (.ref 65), some (.int (nI a1k)), some (.int (nI a2k)), some (.int (nI gj0)), some (.int (nI 0))]) rfl rfl ?_
                    exact grant_s65 (t := (qs_Y (qs_G (qs_U s ((qU s).set a1k (((qU s).getD a1k 0) - a2k))) ((qG s).set a1k (((qG s).getD a1k 0) + (nI 1)))) ((qY s) + (nI a2k)))) (p := a1k) (n := a2k) (m := gj0) (l := qP s) (n1 := qN s) ((congrArg (qs_P _) (Eq.symm (qg_PY.trans (qg_PG.trans qg_PU)))).trans qs_Pself) (qg_NY.trans (qg_NG.trans qg_NU)) (by omega) (I).1.2.2.2 (by omega) (by omega)
                  refine E_callV (v := none) (As := [.ref 65, .int (nI a1k), .int (nI a2k), .int (nI gj0)]) (r0 := []) (cs2 := (ww im lf (qs_P (qs_Y (qs_G (qs_U s ((qU s).set a1k (((qU s).getD a1k 0) - a2k))) ((qG s).set a1k (((qG s).getD a1k 0) + (nI 1)))) ((qY s) + (nI a2k))) (qGP (qP s) a1k gj0 (qN s))) d k ls rf rz ra rn rq lt m1 m2 m3 m4 bd fc hd sz el (qs_P (qs_Y (qs_G (qs_U s ((qU s).set a1k (((qU s).getD a1k 0) - a2k))) ((qG s).set a1k (((qG s).getD a1k 0) + (nI 1)))) ((qY s) + (nI a2k))) (qGP (qP s) a1k gj0 (qN s))) g fm hm so si sh ce ca td wa kp la (lsF (bst s (qPs s 99 (qN s)) (qN s) (2 ^ qN s))) oo bo pw ow tr)) rfl rfl rfl (Nat.le_of_ble_eq_true rfl) rfl (ab_rvOf w65 rfl) e6 (by decide) w_lens ?_
                  refine E_iload_n rfl rfl ?_
                  exact E_iret rfl rfl
                · exact ⟨(qI_P (qI_Y (qI_G (kU I (by omega)) (by simp only [List.length_set]; exact I.2.1.2.2.2.1))) ((qGP_len _ _ _ _).trans I.1.2.2.2) (qGP_pl (k := qM s) (by omega) (fun x hx => (I.2.2.2.1 x hx).2.2.2.2) _)), rfl, hf, ⟨⟨d0, d1, d2, d3, d4, d5, d6, d7, d8⟩, ⟨k0, k1, k2, k3, k4, k5, k6, k7, k8⟩, ⟨r0, r1, r2, r3, r4, r5, r6, r7, r8⟩⟩, iM, iT, (iS.n (s2 := (qs_P (qs_Y (qs_G (qs_U s ((qU s).set a1k (((qU s).getD a1k 0) - a2k))) ((qG s).set a1k (((qG s).getD a1k 0) + (nI 1)))) ((qY s) + (nI a2k))) (qGP (qP s) a1k gj0 (qN s)))) (Nat.le_refl _)), l_el, l_ls, l_lt, l_bd, l_fc, l_fm, l_hm, l_so, l_si, l_sh, l_ce, l_ca, l_td, l_wa, l_kp, l_la, (lsF_len _), l_oo, l_bo, l_pw, l_ow, l_tr⟩
        · have er2 : (qR s).toInt = 1 := by rw [er]; rfl
          have := I2 a1k (by omega)
          have := qPr_in I a1k (w := ((qW s).getD a1k 0)) (by omega)
          have := qPs_in s 99 (i := qN s) (by omega)
          refine ⟨(-6), (im, lf, s, d, k, ls, rf, rz, ra, rn, rq, lt, m1, m2, m3, m4, bd, (fc.set 6 ((fc.getD 6 0) + (nI 1))), hd, sz, el, s, g, fm, hm, so, si, sh, ce, ca, td, wa, kp, la, bf, oo, bo, pw, ow, tr), (im, lf, s, d, k, ls, rf, rz, ra, rn, rq, lt, m1, m2, m3, m4, bd, (fc.set 6 ((fc.getD 6 0) + (nI 1))), hd, sz, el, s, g, (fm.set 6 ((fm.getD 6 0) + (nI 1))), hm, so, si, sh, ce, ca, td, wa, kp, la, (lsF (bst s (qPs s 99 (qN s)) (qN s) (2 ^ qN s))), oo, bo, pw, ow, tr), ?_, ?_, ?_⟩
          · show Ev ab_Z0 6 106 [.ref 0, .int (nI a1k), .int a2] (ww im lf s d k ls rf rz ra rn rq lt m1 m2 m3 m4 bd fc hd sz el s g fm hm so si sh ce ca td wa kp la bf oo bo pw ow tr) (some (.int (-6)), (ww im lf s d k ls rf rz ra rn rq lt m1 m2 m3 m4 bd (fc.set 6 ((fc.getD 6 0) + (nI 1))) hd sz el s g fm hm so si sh ce ca td wa kp la bf oo bo pw ow tr))
            refine Ef.in (md := mX5_cast) (L := [some (.ref 0), some (.int (nI a1k)), some (.int a2), none]) rfl (Nat.le_of_ble_eq_true rfl) rfl ?_
            refine E_aload_n rfl rfl ?_
            refine E_getfield (v := .ref 1) rfl w0 rfl (by decide) rfl ?_
            refine E_iload_n rfl rfl ?_
            refine E_callV (v := some (.int (nI 1))) (As := [.ref 1, .int (nI a1k)]) (r0 := []) (cs2 := (ww im lf s d k ls rf rz ra rn rq lt m1 m2 m3 m4 bd fc hd sz el s g fm hm so si sh ce ca td wa kp la bf oo bo pw ow tr)) rfl rfl rfl (Nat.le_of_ble_eq_true rfl) rfl (ab_rvOf w1 rfl) (L0_X4_isPerson (by omega) (by omega) (by omega) (by omega)) (by decide) rfl ?_
            refine E_if (t := 17) (b := true) rfl rfl (by decide) ?_
            refine E_aload_n rfl rfl ?_
            refine E_aload_n rfl rfl ?_
            refine E_getfield (v := .ref 1) rfl w0 rfl (by decide) rfl ?_
            refine E_iload_n rfl rfl ?_
            refine E_iload_n rfl rfl ?_
            have e1 : Ev ab_Z0 4 122 [.ref 0, .ref 1, .int (nI a1k), .int a2] (ww im lf s d k ls rf rz ra rn rq lt m1 m2 m3 m4 bd fc hd sz el s g fm hm so si sh ce ca td wa kp la bf oo bo pw ow tr) (some (.int (-1)), (ww im lf s d k ls rf rz ra rn rq lt m1 m2 m3 m4 bd fc hd sz el s g fm hm so si sh ce ca td wa kp la bf oo bo pw ow tr)) := by
              refine Ef.in (md := mX5_throwBy) (L := [some (.ref 0), some (.ref 1), some (.int (nI a1k)), some (.int a2), none]) rfl (Nat.le_of_ble_eq_true rfl) rfl ?_
              refine E_aload_n rfl rfl ?_
              refine E_iload_n rfl rfl ?_
              refine E_callV (v := some (.int (nI 1))) (As := [.ref 1, .int (nI a1k)]) (r0 := []) (cs2 := (ww im lf s d k ls rf rz ra rn rq lt m1 m2 m3 m4 bd fc hd sz el s g fm hm so si sh ce ca td wa kp la bf oo bo pw ow tr)) rfl rfl rfl (Nat.le_of_ble_eq_true rfl) rfl (ab_rvOf w1 rfl) (L0_X4_isPerson (by omega) (by omega) (by omega) (by omega)) (by decide) rfl ?_
              refine E_if (t := 18) (b := false) rfl rfl (by decide) ?_
              refine E_iload_n rfl rfl ?_
              refine E_aload_n rfl rfl ?_
              refine E_getfield (v := .ref 6) rfl w1 rfl (by decide) rfl ?_
              refine E_iload_n rfl rfl ?_
              refine E_ialN (l := qU s) (v := (qU s).getD a1k 0) rfl w6 (by omega) (by omega) rfl ?_
              refine E_ic (t := 20) (b := true) rfl rfl ((cn_le rfl (nI_toInt (by omega))).trans (decide_eq_true (by omega))) ?_
              refine E_aload_n rfl rfl ?_
              refine E_iload_n rfl rfl ?_
              refine E_aload_n rfl rfl ?_
              refine E_getfield (v := .ref 8) rfl w1 rfl (by decide) rfl ?_
              refine E_iload_n rfl rfl ?_
              refine E_ialN (l := qW s) (v := (qW s).getD a1k 0) rfl w8 (by omega) (by omega) rfl ?_
              refine E_callV (v := some (.int (nI (qPr s a1k ((qW s).getD a1k 0))))) (As := [.ref 1, .int (nI a1k), .int (nI ((qW s).getD a1k 0))]) (r0 := []) (cs2 := (ww im lf s d k ls rf rz ra rn rq lt m1 m2 m3 m4 bd fc hd sz el s g fm hm so si sh ce ca td wa kp la bf oo bo pw ow tr)) rfl rfl rfl (Nat.le_of_ble_eq_true rfl) rfl (ab_rvOf w1 rfl) (sq_priceFor w_q1 I (by omega) (by omega)) (by decide) rfl ?_
              refine E_istore (L2 := [some (.ref 0), some (.ref 1), some (.int (nI a1k)), some (.int a2), some (.int (nI (qPr s a1k ((qW s).getD a1k 0))))]) rfl rfl ?_
              refine E_iload_n rfl rfl ?_
              refine E_iload rfl rfl ?_
              refine E_ic (t := 43) (b := false) rfl rfl ((cn_ge rfl (nI_toInt (by omega))).trans (decide_eq_false (by omega))) ?_
              refine E_iconst (x := (-1)) rfl (by decide) ?_
              refine E_goto (t := 59) rfl rfl ?_
              exact E_iret rfl rfl
            refine E_callV (v := some (.int (-1))) (As := [.ref 0, .ref 1, .int (nI a1k), .int a2]) (r0 := []) (cs2 := (ww im lf s d k ls rf rz ra rn rq lt m1 m2 m3 m4 bd fc hd sz el s g fm hm so si sh ce ca td wa kp la bf oo bo pw ow tr)) rfl rfl rfl (Nat.le_of_ble_eq_true rfl) rfl (ab_rvOf w0 rfl) e1 (by decide) rfl ?_
            refine E_istore_n (L2 := [some (.ref 0), some (.int (nI a1k)), some (.int a2), some (.int (-1))]) rfl rfl ?_
            refine E_iload_n rfl rfl ?_
            refine E_iconst (x := (-1)) rfl (by decide) ?_
            refine E_ic (t := 40) (b := false) rfl rfl (by decide) ?_
            refine E_aload_n rfl rfl ?_
            refine E_bipush (x := nI 6) rfl (by decide) ?_
            refine E_callV (v := some (.int (-6))) (As := [.ref 0, .int (nI 6)]) (r0 := []) (cs2 := (ww im lf s d k ls rf rz ra rn rq lt m1 m2 m3 m4 bd (fc.set 6 ((fc.getD 6 0) + (nI 1))) hd sz el s g fm hm so si sh ce ca td wa kp la bf oo bo pw ow tr)) rfl rfl rfl (Nat.le_of_ble_eq_true rfl) rfl (ab_rvOf w0 rfl) (L26_X5_refuse (by omega)) (by decide) w_lens ?_
            exact E_iret rfl rfl
          · show Ev ab_Z0 5 197 [.ref 65, .int (nI a1k), .int a2] (ww im lf s d k ls rf rz ra rn rq lt m1 m2 m3 m4 bd (fc.set 6 ((fc.getD 6 0) + (nI 1))) hd sz el s g fm hm so si sh ce ca td wa kp la bf oo bo pw ow tr) (some (.int (-6)), (ww im lf s d k ls rf rz ra rn rq lt m1 m2 m3 m4 bd (fc.set 6 ((fc.getD 6 0) + (nI 1))) hd sz el s g (fm.set 6 ((fm.getD 6 0) + (nI 1))) hm so si sh ce ca td wa kp la (lsF (bst s (qPs s 99 (qN s)) (qN s) (2 ^ qN s))) oo bo pw ow tr))
            refine Ef.in (md := mX6_cast) (L := [some (.ref 65), some (.int (nI a1k)), some (.int a2), none]) rfl (Nat.le_of_ble_eq_true rfl) rfl ?_
            refine E_aload_n rfl rfl ?_
            refine E_iload_n rfl rfl ?_
            refine E_callV (v := some (.int (nI 1))) (As := [.ref 65, .int (nI a1k)]) (r0 := []) (cs2 := (ww im lf s d k ls rf rz ra rn rq lt m1 m2 m3 m4 bd (fc.set 6 ((fc.getD 6 0) + (nI 1))) hd sz el s g fm hm so si sh ce ca td wa kp la bf oo bo pw ow tr)) rfl rfl rfl (Nat.le_of_ble_eq_true rfl) rfl (ab_rvOf w65 rfl) (L2_X6_isOne (by omega) (by omega) (by omega) (by omega)) (by decide) rfl ?_
            refine E_if (t := 14) (b := true) rfl rfl (by decide) ?_
            refine E_aload_n rfl rfl ?_
            refine E_aload_n rfl rfl ?_
            refine E_bipush (x := nI 99) rfl (by decide) ?_
            refine E_callV (v := some (.int (nI (qPs s 99 (qN s))))) (As := [.ref 65, .int (nI 99)]) (r0 := [.ref 65]) (cs2 := (ww im lf s d k ls rf rz ra rn rq lt m1 m2 m3 m4 bd (fc.set 6 ((fc.getD 6 0) + (nI 1))) hd sz el s g fm hm so si sh ce ca td wa kp la bf oo bo pw ow tr)) rfl rfl rfl (Nat.le_of_ble_eq_true rfl) rfl (ab_rvOf w65 rfl) (mo_piecesOf w_m I (by omega)) (by decide) rfl ?_
            refine E_callV (v := none) (As := [.ref 65, .int (nI (qPs s 99 (qN s)))]) (r0 := []) (cs2 := (ww im lf s d k ls rf rz ra rn rq lt m1 m2 m3 m4 bd (fc.set 6 ((fc.getD 6 0) + (nI 1))) hd sz el s g fm hm so si sh ce ca td wa kp la (lsF (bst s (qPs s 99 (qN s)) (qN s) (2 ^ qN s))) oo bo pw ow tr)) rfl rfl rfl (Nat.le_of_ble_eq_true rfl) rfl (ab_rvOf w65 rfl) (w_best (m := qPs s 99 (qN s)) I (by omega) l_bf) (by decide) w_lens ?_
            refine E_aload_n rfl rfl ?_
            refine E_iload_n rfl rfl ?_
            refine E_iconst (x := nI 0) rfl (by decide) ?_
            refine E_bipush (x := nI 99) rfl (by decide) ?_
            refine E_callV (v := some (.int (nI 0))) (As := [.ref 65, .int a2, .int (nI 0), .int (nI 99)]) (r0 := []) (cs2 := (ww im lf s d k ls rf rz ra rn rq lt m1 m2 m3 m4 bd (fc.set 6 ((fc.getD 6 0) + (nI 1))) hd sz el s g fm hm so si sh ce ca td wa kp la (lsF (bst s (qPs s 99 (qN s)) (qN s) (2 ^ qN s))) oo bo pw ow tr)) rfl rfl rfl (Nat.le_of_ble_eq_true rfl) rfl (ab_rvOf w65 rfl) (L89_X6_isFrom (by omega) (by omega)) (by decide) rfl ?_
            refine E_if (t := 44) (b := true) rfl rfl (by decide) ?_
            refine E_iconst (x := (-1)) rfl (by decide) ?_
            refine E_istore_n (L2 := [some (.ref 65), some (.int (nI a1k)), some (.int a2), some (.int (-1))]) rfl rfl ?_
            refine E_iload_n rfl rfl ?_
            refine E_iconst (x := (-1)) rfl (by decide) ?_
            refine E_ic (t := 58) (b := false) rfl rfl (by decide) ?_
            refine E_aload_n rfl rfl ?_
            refine E_bipush (x := (-6)) rfl (by decide) ?_
            refine E_callV (v := some (.int (-6))) (As := [.ref 65, .int (-6)]) (r0 := []) (cs2 := (ww im lf s d k ls rf rz ra rn rq lt m1 m2 m3 m4 bd (fc.set 6 ((fc.getD 6 0) + (nI 1))) hd sz el s g (fm.set 6 ((fm.getD 6 0) + (nI 1))) hm so si sh ce ca td wa kp la (lsF (bst s (qPs s 99 (qN s)) (qN s) (2 ^ qN s))) oo bo pw ow tr)) rfl rfl rfl (Nat.le_of_ble_eq_true rfl) rfl (ab_rvOf w65 rfl) (L28_X6_no (by omega)) (by decide) w_lens ?_
            exact E_iret rfl rfl
          · exact ⟨I, rfl, hf, ⟨⟨d0, d1, d2, d3, d4, d5, d6, d7, d8⟩, ⟨k0, k1, k2, k3, k4, k5, k6, k7, k8⟩, ⟨r0, r1, r2, r3, r4, r5, r6, r7, r8⟩⟩, iM, iT, iS, l_el, l_ls, l_lt, l_bd, (by simp only [List.length_set]; exact l_fc), (by simp only [List.length_set]; exact l_fm), l_hm, l_so, l_si, l_sh, l_ce, l_ca, l_td, l_wa, l_kp, l_la, (lsF_len _), l_oo, l_bo, l_pw, l_ow, l_tr⟩
      · have er2 : (qR s).toInt = 1 := by rw [er]; rfl
        refine ⟨(-1), (im, lf, s, d, k, ls, rf, rz, ra, rn, rq, lt, m1, m2, m3, m4, bd, (fc.set 1 ((fc.getD 1 0) + (nI 1))), hd, sz, el, s, g, fm, hm, so, si, sh, ce, ca, td, wa, kp, la, bf, oo, bo, pw, ow, tr), (im, lf, s, d, k, ls, rf, rz, ra, rn, rq, lt, m1, m2, m3, m4, bd, (fc.set 1 ((fc.getD 1 0) + (nI 1))), hd, sz, el, s, g, (fm.set 1 ((fm.getD 1 0) + (nI 1))), hm, so, si, sh, ce, ca, td, wa, kp, la, bf, oo, bo, pw, ow, tr), ?_, ?_, ?_⟩
        · show Ev ab_Z0 6 106 [.ref 0, .int (nI a1k), .int a2] (ww im lf s d k ls rf rz ra rn rq lt m1 m2 m3 m4 bd fc hd sz el s g fm hm so si sh ce ca td wa kp la bf oo bo pw ow tr) (some (.int (-1)), (ww im lf s d k ls rf rz ra rn rq lt m1 m2 m3 m4 bd (fc.set 1 ((fc.getD 1 0) + (nI 1))) hd sz el s g fm hm so si sh ce ca td wa kp la bf oo bo pw ow tr))
          refine Ef.in (md := mX5_cast) (L := [some (.ref 0), some (.int (nI a1k)), some (.int a2), none]) rfl (Nat.le_of_ble_eq_true rfl) rfl ?_
          refine E_aload_n rfl rfl ?_
          refine E_getfield (v := .ref 1) rfl w0 rfl (by decide) rfl ?_
          refine E_iload_n rfl rfl ?_
          refine E_callV (v := some (.int (nI 0))) (As := [.ref 1, .int (nI a1k)]) (r0 := []) (cs2 := (ww im lf s d k ls rf rz ra rn rq lt m1 m2 m3 m4 bd fc hd sz el s g fm hm so si sh ce ca td wa kp la bf oo bo pw ow tr)) rfl rfl rfl (Nat.le_of_ble_eq_true rfl) rfl (ab_rvOf w1 rfl) (L11_X4_isPerson (by omega) (by omega) (by omega) (by omega)) (by decide) rfl ?_
          refine E_if (t := 17) (b := false) rfl rfl (by decide) ?_
          refine E_aload_n rfl rfl ?_
          refine E_iconst (x := nI 1) rfl (by decide) ?_
          refine E_callV (v := some (.int (-1))) (As := [.ref 0, .int (nI 1)]) (r0 := []) (cs2 := (ww im lf s d k ls rf rz ra rn rq lt m1 m2 m3 m4 bd (fc.set 1 ((fc.getD 1 0) + (nI 1))) hd sz el s g fm hm so si sh ce ca td wa kp la bf oo bo pw ow tr)) rfl rfl rfl (Nat.le_of_ble_eq_true rfl) rfl (ab_rvOf w0 rfl) (L6_X5_refuse (by omega)) (by decide) w_lens ?_
          exact E_iret rfl rfl
        · show Ev ab_Z0 5 197 [.ref 65, .int (nI a1k), .int a2] (ww im lf s d k ls rf rz ra rn rq lt m1 m2 m3 m4 bd (fc.set 1 ((fc.getD 1 0) + (nI 1))) hd sz el s g fm hm so si sh ce ca td wa kp la bf oo bo pw ow tr) (some (.int (-1)), (ww im lf s d k ls rf rz ra rn rq lt m1 m2 m3 m4 bd (fc.set 1 ((fc.getD 1 0) + (nI 1))) hd sz el s g (fm.set 1 ((fm.getD 1 0) + (nI 1))) hm so si sh ce ca td wa kp la bf oo bo pw ow tr))
          refine Ef.in (md := mX6_cast) (L := [some (.ref 65), some (.int (nI a1k)), some (.int a2), none]) rfl (Nat.le_of_ble_eq_true rfl) rfl ?_
          refine E_aload_n rfl rfl ?_
          refine E_iload_n rfl rfl ?_
          refine E_callV (v := some (.int (nI 0))) (As := [.ref 65, .int (nI a1k)]) (r0 := []) (cs2 := (ww im lf s d k ls rf rz ra rn rq lt m1 m2 m3 m4 bd (fc.set 1 ((fc.getD 1 0) + (nI 1))) hd sz el s g fm hm so si sh ce ca td wa kp la bf oo bo pw ow tr)) rfl rfl rfl (Nat.le_of_ble_eq_true rfl) rfl (ab_rvOf w65 rfl) (L12_X6_isOne (by omega) (by omega) (by omega) (by omega)) (by decide) rfl ?_
          refine E_if (t := 14) (b := false) rfl rfl (by decide) ?_
          refine E_aload_n rfl rfl ?_
          refine E_iconst (x := (-1)) rfl (by decide) ?_
          refine E_callV (v := some (.int (-1))) (As := [.ref 65, .int (-1)]) (r0 := []) (cs2 := (ww im lf s d k ls rf rz ra rn rq lt m1 m2 m3 m4 bd (fc.set 1 ((fc.getD 1 0) + (nI 1))) hd sz el s g (fm.set 1 ((fm.getD 1 0) + (nI 1))) hm so si sh ce ca td wa kp la bf oo bo pw ow tr)) rfl rfl rfl (Nat.le_of_ble_eq_true rfl) rfl (ab_rvOf w65 rfl) (L8_X6_no (by omega)) (by decide) w_lens ?_
          exact E_iret rfl rfl
        · exact ⟨I, rfl, hf, ⟨⟨d0, d1, d2, d3, d4, d5, d6, d7, d8⟩, ⟨k0, k1, k2, k3, k4, k5, k6, k7, k8⟩, ⟨r0, r1, r2, r3, r4, r5, r6, r7, r8⟩⟩, iM, iT, iS, l_el, l_ls, l_lt, l_bd, (by simp only [List.length_set]; exact l_fc), (by simp only [List.length_set]; exact l_fm), l_hm, l_so, l_si, l_sh, l_ce, l_ca, l_td, l_wa, l_kp, l_la, l_bf, l_oo, l_bo, l_pw, l_ow, l_tr⟩
    · have er2 : (qR s).toInt = 1 := by rw [er]; rfl
      refine ⟨(-1), (im, lf, s, d, k, ls, rf, rz, ra, rn, rq, lt, m1, m2, m3, m4, bd, (fc.set 1 ((fc.getD 1 0) + (nI 1))), hd, sz, el, s, g, fm, hm, so, si, sh, ce, ca, td, wa, kp, la, bf, oo, bo, pw, ow, tr), (im, lf, s, d, k, ls, rf, rz, ra, rn, rq, lt, m1, m2, m3, m4, bd, (fc.set 1 ((fc.getD 1 0) + (nI 1))), hd, sz, el, s, g, (fm.set 1 ((fm.getD 1 0) + (nI 1))), hm, so, si, sh, ce, ca, td, wa, kp, la, bf, oo, bo, pw, ow, tr), ?_, ?_, ?_⟩
      · show Ev ab_Z0 6 106 [.ref 0, .int a1, .int a2] (ww im lf s d k ls rf rz ra rn rq lt m1 m2 m3 m4 bd fc hd sz el s g fm hm so si sh ce ca td wa kp la bf oo bo pw ow tr) (some (.int (-1)), (ww im lf s d k ls rf rz ra rn rq lt m1 m2 m3 m4 bd (fc.set 1 ((fc.getD 1 0) + (nI 1))) hd sz el s g fm hm so si sh ce ca td wa kp la bf oo bo pw ow tr))
        refine Ef.in (md := mX5_cast) (L := [some (.ref 0), some (.int a1), some (.int a2), none]) rfl (Nat.le_of_ble_eq_true rfl) rfl ?_
        refine E_aload_n rfl rfl ?_
        refine E_getfield (v := .ref 1) rfl w0 rfl (by decide) rfl ?_
        refine E_iload_n rfl rfl ?_
        refine E_callV (v := some (.int (nI 0))) (As := [.ref 1, .int a1]) (r0 := []) (cs2 := (ww im lf s d k ls rf rz ra rn rq lt m1 m2 m3 m4 bd fc hd sz el s g fm hm so si sh ce ca td wa kp la bf oo bo pw ow tr)) rfl rfl rfl (Nat.le_of_ble_eq_true rfl) rfl (ab_rvOf w1 rfl) (L13_X4_isPerson (by omega) (by omega)) (by decide) rfl ?_
        refine E_if (t := 17) (b := false) rfl rfl (by decide) ?_
        refine E_aload_n rfl rfl ?_
        refine E_iconst (x := nI 1) rfl (by decide) ?_
        refine E_callV (v := some (.int (-1))) (As := [.ref 0, .int (nI 1)]) (r0 := []) (cs2 := (ww im lf s d k ls rf rz ra rn rq lt m1 m2 m3 m4 bd (fc.set 1 ((fc.getD 1 0) + (nI 1))) hd sz el s g fm hm so si sh ce ca td wa kp la bf oo bo pw ow tr)) rfl rfl rfl (Nat.le_of_ble_eq_true rfl) rfl (ab_rvOf w0 rfl) (L6_X5_refuse (by omega)) (by decide) w_lens ?_
        exact E_iret rfl rfl
      · show Ev ab_Z0 5 197 [.ref 65, .int a1, .int a2] (ww im lf s d k ls rf rz ra rn rq lt m1 m2 m3 m4 bd (fc.set 1 ((fc.getD 1 0) + (nI 1))) hd sz el s g fm hm so si sh ce ca td wa kp la bf oo bo pw ow tr) (some (.int (-1)), (ww im lf s d k ls rf rz ra rn rq lt m1 m2 m3 m4 bd (fc.set 1 ((fc.getD 1 0) + (nI 1))) hd sz el s g (fm.set 1 ((fm.getD 1 0) + (nI 1))) hm so si sh ce ca td wa kp la bf oo bo pw ow tr))
        refine Ef.in (md := mX6_cast) (L := [some (.ref 65), some (.int a1), some (.int a2), none]) rfl (Nat.le_of_ble_eq_true rfl) rfl ?_
        refine E_aload_n rfl rfl ?_
        refine E_iload_n rfl rfl ?_
        refine E_callV (v := some (.int (nI 0))) (As := [.ref 65, .int a1]) (r0 := []) (cs2 := (ww im lf s d k ls rf rz ra rn rq lt m1 m2 m3 m4 bd (fc.set 1 ((fc.getD 1 0) + (nI 1))) hd sz el s g fm hm so si sh ce ca td wa kp la bf oo bo pw ow tr)) rfl rfl rfl (Nat.le_of_ble_eq_true rfl) rfl (ab_rvOf w65 rfl) (L14_X6_isOne (by omega) (by omega)) (by decide) rfl ?_
        refine E_if (t := 14) (b := false) rfl rfl (by decide) ?_
        refine E_aload_n rfl rfl ?_
        refine E_iconst (x := (-1)) rfl (by decide) ?_
        refine E_callV (v := some (.int (-1))) (As := [.ref 65, .int (-1)]) (r0 := []) (cs2 := (ww im lf s d k ls rf rz ra rn rq lt m1 m2 m3 m4 bd (fc.set 1 ((fc.getD 1 0) + (nI 1))) hd sz el s g (fm.set 1 ((fm.getD 1 0) + (nI 1))) hm so si sh ce ca td wa kp la bf oo bo pw ow tr)) rfl rfl rfl (Nat.le_of_ble_eq_true rfl) rfl (ab_rvOf w65 rfl) (L8_X6_no (by omega)) (by decide) w_lens ?_
        exact E_iret rfl rfl
      · exact ⟨I, rfl, hf, ⟨⟨d0, d1, d2, d3, d4, d5, d6, d7, d8⟩, ⟨k0, k1, k2, k3, k4, k5, k6, k7, k8⟩, ⟨r0, r1, r2, r3, r4, r5, r6, r7, r8⟩⟩, iM, iT, iS, l_el, l_ls, l_lt, l_bd, (by simp only [List.length_set]; exact l_fc), (by simp only [List.length_set]; exact l_fm), l_hm, l_so, l_si, l_sh, l_ce, l_ca, l_td, l_wa, l_kp, l_la, l_bf, l_oo, l_bo, l_pw, l_ow, l_tr⟩
