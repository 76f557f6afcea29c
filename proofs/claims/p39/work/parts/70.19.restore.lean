/-! restore; by program (wip/tools/op.py) -/
set_option maxHeartbeats 1000000 in
theorem op_restore (x : St) (hx : wI x) : ∃ (r : Int32) (x1 x2 : St), Ev ab_Z0 3 113 [.ref 0] (wt x) (some (.int r), wt x1) ∧ Ev ab_Z0 3 211 [.ref 65] (wt x1) (some (.int r), wt x2) ∧ wI x2 := by
  obtain ⟨im, lf, s, d, k, ls, rf, rz, ra, rn, rq, lt, m1, m2, m3, m4, bd, fc, hd, sz, el, t, g, fm, hm, so, si, sh, ce, ca, td, wa, kp, la, bf, oo, bo, pw, ow, tr⟩ := x
  obtain ⟨I, ts, hf, iQ, iM, iT, iS, l_el, lr⟩ := hx
  replace lr : Hd _ := lr
  have l_fc := lr.2.2.2.1
  have l_fm := lr.2.2.2.2.1
  subst ts
  obtain ⟨⟨i0, i1, i2, i3⟩, ⟨i4, i5, i6, i7, i8⟩, ⟨i9, i10⟩, I1, I2, I3, I4⟩ := id I
  rcases iM with ⟨rfl, h48⟩ | ⟨rfl, h48, Ik, ee, le, e2⟩
  · have : (g 48).toInt = 0 := by rw [h48]; decide
    refine ⟨(-6), ((nI 0), lf, s, d, k, ls, rf, rz, ra, rn, rq, lt, m1, m2, m3, m4, bd, (fc.set 6 ((fc.getD 6 0) + (nI 1))), hd, sz, el, s, g, fm, hm, so, si, sh, ce, ca, td, wa, kp, la, bf, oo, bo, pw, ow, tr), ((nI 0), lf, s, d, k, ls, rf, rz, ra, rn, rq, lt, m1, m2, m3, m4, bd, (fc.set 6 ((fc.getD 6 0) + (nI 1))), hd, sz, el, s, g, (fm.set 6 ((fm.getD 6 0) + (nI 1))), hm, so, si, sh, ce, ca, td, wa, kp, la, bf, oo, bo, pw, ow, tr), ?_, ?_, ?_⟩
    · show Ev ab_Z0 3 113 [.ref 0] (ww (nI 0) lf s d k ls rf rz ra rn rq lt m1 m2 m3 m4 bd fc hd sz el s g fm hm so si sh ce ca td wa kp la bf oo bo pw ow tr) (some (.int (-6)), (ww (nI 0) lf s d k ls rf rz ra rn rq lt m1 m2 m3 m4 bd (fc.set 6 ((fc.getD 6 0) + (nI 1))) hd sz el s g fm hm so si sh ce ca td wa kp la bf oo bo pw ow tr))
      refine Ef.in (md := mX5_restore) (L := [some (.ref 0), none, none]) rfl (Nat.le_of_ble_eq_true rfl) rfl ?_
      refine E_aload_n rfl rfl ?_
      refine E_getfield (v := .int (nI 0)) rfl w0 rfl (by decide) rfl ?_
      refine E_if (t := 14) (b := false) rfl rfl (by decide) ?_
      refine E_aload_n rfl rfl ?_
      refine E_bipush (x := nI 6) rfl (by decide) ?_
      refine E_callV (v := some (.int (-6))) (As := [.ref 0, .int (nI 6)]) (r0 := []) (cs2 := (ww (nI 0) lf s d k ls rf rz ra rn rq lt m1 m2 m3 m4 bd (fc.set 6 ((fc.getD 6 0) + (nI 1))) hd sz el s g fm hm so si sh ce ca td wa kp la bf oo bo pw ow tr)) rfl rfl rfl (Nat.le_of_ble_eq_true rfl) rfl (ab_rvOf w0 rfl) (L26_X5_refuse (by omega)) (by decide) w_lens ?_
      exact E_iret rfl rfl
    · show Ev ab_Z0 3 211 [.ref 65] (ww (nI 0) lf s d k ls rf rz ra rn rq lt m1 m2 m3 m4 bd (fc.set 6 ((fc.getD 6 0) + (nI 1))) hd sz el s g fm hm so si sh ce ca td wa kp la bf oo bo pw ow tr) (some (.int (-6)), (ww (nI 0) lf s d k ls rf rz ra rn rq lt m1 m2 m3 m4 bd (fc.set 6 ((fc.getD 6 0) + (nI 1))) hd sz el s g (fm.set 6 ((fm.getD 6 0) + (nI 1))) hm so si sh ce ca td wa kp la bf oo bo pw ow tr))
      refine Ef.in (md := mX6_restore) (L := [some (.ref 65), none]) rfl (Nat.le_of_ble_eq_true rfl) rfl ?_
      refine E_aload_n rfl rfl ?_
      refine E_getfield (v := .int (g 48)) rfl w65 rfl (by decide) rfl ?_
      refine E_if (t := 14) (b := false) rfl rfl ((cn_ne rfl (by decide : (0 : Int32).toInt = 0)).trans (decide_eq_false (by omega))) ?_
      refine E_aload_n rfl rfl ?_
      refine E_bipush (x := (-6)) rfl (by decide) ?_
      refine E_callV (v := some (.int (-6))) (As := [.ref 65, .int (-6)]) (r0 := []) (cs2 := (ww (nI 0) lf s d k ls rf rz ra rn rq lt m1 m2 m3 m4 bd (fc.set 6 ((fc.getD 6 0) + (nI 1))) hd sz el s g (fm.set 6 ((fm.getD 6 0) + (nI 1))) hm so si sh ce ca td wa kp la bf oo bo pw ow tr)) rfl rfl rfl (Nat.le_of_ble_eq_true rfl) rfl (ab_rvOf w65 rfl) (L28_X6_no (by omega)) (by decide) w_lens ?_
      exact E_iret rfl rfl
    · exact ⟨I, rfl, hf, iQ, (Or.inl ⟨rfl, h48⟩), iT, iS, l_el, (lr.1), (lr.2.1), (lr.2.2.1), (by simp only [List.length_set]; exact (lr.2.2.2.1)), (by simp only [List.length_set]; exact (lr.2.2.2.2.1)), (lr.2.2.2.2.2.1), (lr.2.2.2.2.2.2.1), (lr.2.2.2.2.2.2.2.1), (lr.2.2.2.2.2.2.2.2.1), (lr.2.2.2.2.2.2.2.2.2.1), (lr.2.2.2.2.2.2.2.2.2.2.1), (lr.2.2.2.2.2.2.2.2.2.2.2.1), (lr.2.2.2.2.2.2.2.2.2.2.2.2.1), (lr.2.2.2.2.2.2.2.2.2.2.2.2.2.1), (lr.2.2.2.2.2.2.2.2.2.2.2.2.2.2.1), (lr.2.2.2.2.2.2.2.2.2.2.2.2.2.2.2.1), (lr.2.2.2.2.2.2.2.2.2.2.2.2.2.2.2.2.1), (lr.2.2.2.2.2.2.2.2.2.2.2.2.2.2.2.2.2.1), (lr.2.2.2.2.2.2.2.2.2.2.2.2.2.2.2.2.2.2.1), (lr.2.2.2.2.2.2.2.2.2.2.2.2.2.2.2.2.2.2.2.1), (lr.2.2.2.2.2.2.2.2.2.2.2.2.2.2.2.2.2.2.2.2)⟩
  · have : (g 48).toInt = 1 := by rw [h48]; decide
    have hk9 := Ik.2.2.1.1
    refine ⟨(nI (qN k)), ((nI 1), lf, k, d, k, ls, rf, rz, ra, rn, rq, lt, m1, m2, m3, m4, bd, fc, (rsF (qN k) hd hd (-1) 8), (rsF (qN k) hd sz (nI 0) 8), el, s, g, fm, hm, so, si, sh, ce, ca, td, wa, kp, la, bf, oo, bo, pw, ow, tr), ((nI 1), lf, k, d, k, ls, rf, rz, ra, rn, rq, lt, m1, m2, m3, m4, bd, fc, (rsF (qN k) hd hd (-1) 8), (rsF (qN k) hd sz (nI 0) 8), el, k, g, fm, (rsM hm sh (qN k) 8), so, si, sh, ce, ca, td, wa, kp, la, bf, oo, bo, pw, ow, tr), ?_, ?_, ?_⟩
    · show Ev ab_Z0 3 113 [.ref 0] (ww (nI 1) lf s d k ls rf rz ra rn rq lt m1 m2 m3 m4 bd fc hd sz el s g fm hm so si sh ce ca td wa kp la bf oo bo pw ow tr) (some (.int (nI (qN k))), (ww (nI 1) lf k d k ls rf rz ra rn rq lt m1 m2 m3 m4 bd fc (rsF (qN k) hd hd (-1) 8) (rsF (qN k) hd sz (nI 0) 8) el s g fm hm so si sh ce ca td wa kp la bf oo bo pw ow tr))
      refine Ef.in (md := mX5_restore) (L := [some (.ref 0), none, none]) rfl (Nat.le_of_ble_eq_true rfl) rfl ?_
      refine E_aload_n rfl rfl ?_
      refine E_getfield (v := .int (nI 1)) rfl w0 rfl (by decide) rfl ?_
      refine E_if (t := 14) (b := true) rfl rfl (by decide) ?_
      refine E_aload_n rfl rfl ?_
      refine E_getfield (v := .ref 1) rfl w0 rfl (by decide) rfl ?_
      refine E_aload_n rfl rfl ?_
      refine E_getfield (v := .ref 21) rfl w0 rfl (by decide) rfl ?_
      refine E_callV (v := none) (As := [.ref 1, .ref 21]) (r0 := []) (cs2 := (ww (nI 1) lf k d k ls rf rz ra rn rq lt m1 m2 m3 m4 bd fc hd sz el s g fm hm so si sh ce ca td wa kp la bf oo bo pw ow tr)) rfl rfl rfl (Nat.le_of_ble_eq_true rfl) rfl (ab_rvOf w1 rfl) (tk_1_21 I.ln Ik.ln) (by decide) w_lens ?_
      refine E_iconst (x := nI 0) rfl (by decide) ?_
      refine E_istore_n (L2 := [some (.ref 0), some (.int (nI 0)), none]) rfl rfl ?_
      refine crs (by omega) (fun x2 => ?_) _
      refine E_aload_n rfl rfl ?_
      refine E_getfield (v := .ref 1) rfl w0 rfl (by decide) rfl ?_
      refine E_getfield (v := .int (nI (qN k))) rfl w1 rfl (by decide) rfl ?_
      exact E_iret rfl rfl
    · show Ev ab_Z0 3 211 [.ref 65] (ww (nI 1) lf k d k ls rf rz ra rn rq lt m1 m2 m3 m4 bd fc (rsF (qN k) hd hd (-1) 8) (rsF (qN k) hd sz (nI 0) 8) el s g fm hm so si sh ce ca td wa kp la bf oo bo pw ow tr) (some (.int (nI (qN k))), (ww (nI 1) lf k d k ls rf rz ra rn rq lt m1 m2 m3 m4 bd fc (rsF (qN k) hd hd (-1) 8) (rsF (qN k) hd sz (nI 0) 8) el k g fm (rsM hm sh (qN k) 8) so si sh ce ca td wa kp la bf oo bo pw ow tr))
      refine Ef.in (md := mX6_restore) (L := [some (.ref 65), none]) rfl (Nat.le_of_ble_eq_true rfl) rfl ?_
      refine E_aload_n rfl rfl ?_
      refine E_getfield (v := .int (g 48)) rfl w65 rfl (by decide) rfl ?_
      refine E_if (t := 14) (b := true) rfl rfl ((cn_ne rfl (by decide : (0 : Int32).toInt = 0)).trans (decide_eq_true (by omega))) ?_
      refine E_aload_n rfl rfl ?_
      refine E_aload_n rfl rfl ?_
      refine E_getfield (v := .ref 87) rfl w65 rfl (by decide) rfl ?_
      refine E_iconst (x := nI 1) rfl (by decide) ?_
      refine E_callV (v := none) (As := [.ref 65, .ref 87, .int (nI 1)]) (r0 := []) (cs2 := (ww (nI 1) lf k d k ls rf rz ra rn rq lt m1 m2 m3 m4 bd fc (rsF (qN k) hd hd (-1) 8) (rsF (qN k) hd sz (nI 0) 8) el k g fm hm so si sh ce ca td wa kp la bf oo bo pw ow tr)) rfl rfl rfl (Nat.le_of_ble_eq_true rfl) rfl (ab_rvOf w65 rfl) (m_allB_87 I.ln Ik.ln le e2) (by decide) w_lens ?_
      refine E_iconst (x := nI 0) rfl (by decide) ?_
      refine E_istore_n (L2 := [some (.ref 65), some (.int (nI 0))]) rfl rfl ?_
      refine mrs_l (by omega) (lr.2.2.2.2.2.1) (lr.2.2.2.2.2.2.2.2.1) (iS_m iS) ?_ 8 0 (Nat.zero_add _)
      refine E_aload_n rfl rfl ?_
      refine E_getfield (v := .int (nI (qN k))) rfl w65 rfl (by decide) rfl ?_
      exact E_iret rfl rfl
    · exact ⟨Ik, rfl, hf, iQ, (Or.inr ⟨rfl, h48, Ik, ee, le, e2⟩), iT, (iS_restore iS (by omega) (lr.2.2.2.2.2.1)), l_el, (lr.1), (lr.2.1), (lr.2.2.1), (lr.2.2.2.1), (lr.2.2.2.2.1), ((rsM_len _ _ _ _).trans (lr.2.2.2.2.2.1)), (lr.2.2.2.2.2.2.1), (lr.2.2.2.2.2.2.2.1), (lr.2.2.2.2.2.2.2.2.1), (lr.2.2.2.2.2.2.2.2.2.1), (lr.2.2.2.2.2.2.2.2.2.2.1), (lr.2.2.2.2.2.2.2.2.2.2.2.1), (lr.2.2.2.2.2.2.2.2.2.2.2.2.1), (lr.2.2.2.2.2.2.2.2.2.2.2.2.2.1), (lr.2.2.2.2.2.2.2.2.2.2.2.2.2.2.1), (lr.2.2.2.2.2.2.2.2.2.2.2.2.2.2.2.1), (lr.2.2.2.2.2.2.2.2.2.2.2.2.2.2.2.2.1), (lr.2.2.2.2.2.2.2.2.2.2.2.2.2.2.2.2.2.1), (lr.2.2.2.2.2.2.2.2.2.2.2.2.2.2.2.2.2.2.1), (lr.2.2.2.2.2.2.2.2.2.2.2.2.2.2.2.2.2.2.2.1), (lr.2.2.2.2.2.2.2.2.2.2.2.2.2.2.2.2.2.2.2.2)⟩
