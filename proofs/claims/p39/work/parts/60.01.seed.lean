/-! seed; by program (wip/tools/op.py) -/
set_option maxHeartbeats 4000000 in
theorem op_seed (x : St) (hx : wI x) (a1 : Int32) : ∃ (r : Int32) (x1 x2 : St), Ev ab_Z0 1 109 [.ref 0, .int a1] (wt x) (some (.int r), wt x1) ∧ Ev ab_Z0 1 203 [.ref 65, .int a1] (wt x1) (some (.int r), wt x2) ∧ wI x2 := by
  obtain ⟨im, lf, s, d, k, ls, rf, rz, ra, rn, rq, lt, m1, m2, m3, m4, bd, fc, hd, sz, el, t, g, fm, hm, so, si, sh, ce, ca, td, wa, kp, la, bf, oo, bo, pw, ow, tr⟩ := x
  obtain ⟨I, ts, hf, iQ, iM, iT, iS, l_el, lr⟩ := hx
  replace lr : Hd _ := lr
  have l_fc := lr.2.2.2.1
  have l_fm := lr.2.2.2.2.1
  subst ts
  obtain ⟨⟨i0, i1, i2, i3⟩, ⟨i4, i5, i6, i7, i8⟩, ⟨i9, i10⟩, I1, I2, I3, I4⟩ := id I
  refine ⟨(qS s), (im, lf, (qs_S s a1), d, k, ls, rf, rz, ra, rn, rq, lt, m1, m2, m3, m4, bd, fc, hd, sz, el, s, g, fm, hm, so, si, sh, ce, ca, td, wa, kp, la, bf, oo, bo, pw, ow, tr), (im, lf, (qs_S s a1), d, k, ls, rf, rz, ra, rn, rq, lt, m1, m2, m3, m4, bd, fc, hd, sz, el, (qs_S s a1), g, fm, hm, so, si, sh, ce, ca, td, wa, kp, la, bf, oo, bo, pw, ow, tr), ?_, ?_, ?_⟩
  · show Ev ab_Z0 1 109 [.ref 0, .int a1] (ww im lf s d k ls rf rz ra rn rq lt m1 m2 m3 m4 bd fc hd sz el s g fm hm so si sh ce ca td wa kp la bf oo bo pw ow tr) (some (.int (qS s)), (ww im lf (qs_S s a1) d k ls rf rz ra rn rq lt m1 m2 m3 m4 bd fc hd sz el s g fm hm so si sh ce ca td wa kp la bf oo bo pw ow tr))
    refine Ef.in (md := mX5_seed) (L := [some (.ref 0), some (.int a1), none]) rfl (Nat.le_of_ble_eq_true rfl) rfl ?_
    refine E_aload_n rfl rfl ?_
    refine E_getfield (v := .ref 1) rfl w0 rfl (by decide) rfl ?_
    refine E_getfield (v := .int (qS s)) rfl w1 rfl (by decide) rfl ?_
    refine E_istore_n (L2 := [some (.ref 0), some (.int a1), some (.int (qS s))]) rfl rfl ?_
    refine E_aload_n rfl rfl ?_
    refine E_getfield (v := .ref 1) rfl w0 rfl (by decide) rfl ?_
    refine E_iload_n rfl rfl ?_
    refine E_putfield (cs2 := (ww im lf (qs_S s a1) d k ls rf rz ra rn rq lt m1 m2 m3 m4 bd fc hd sz el s g fm hm so si sh ce ca td wa kp la bf oo bo pw ow tr)) rfl w1 rfl (by decide) (Nat.le_of_ble_eq_true rfl) rfl rfl rfl w_pt1_S ?_
    refine E_iload_n rfl rfl ?_
    exact E_iret rfl rfl
  · show Ev ab_Z0 1 203 [.ref 65, .int a1] (ww im lf (qs_S s a1) d k ls rf rz ra rn rq lt m1 m2 m3 m4 bd fc hd sz el s g fm hm so si sh ce ca td wa kp la bf oo bo pw ow tr) (some (.int (qS s)), (ww im lf (qs_S s a1) d k ls rf rz ra rn rq lt m1 m2 m3 m4 bd fc hd sz el (qs_S s a1) g fm hm so si sh ce ca td wa kp la bf oo bo pw ow tr))
    refine Ef.in (md := mX6_seed) (L := [some (.ref 65), some (.int a1), none]) rfl (Nat.le_of_ble_eq_true rfl) rfl ?_
    refine E_aload_n rfl rfl ?_
    refine E_getfield (v := .int (qS s)) rfl w65 rfl (by decide) rfl ?_
    refine E_istore_n (L2 := [some (.ref 65), some (.int a1), some (.int (qS s))]) rfl rfl ?_
    refine E_aload_n rfl rfl ?_
    refine E_iload_n rfl rfl ?_
    refine E_putfield (cs2 := (ww im lf (qs_S s a1) d k ls rf rz ra rn rq lt m1 m2 m3 m4 bd fc hd sz el (qs_S s a1) g fm hm so si sh ce ca td wa kp la bf oo bo pw ow tr)) rfl w65 rfl (by decide) (Nat.le_of_ble_eq_true rfl) rfl rfl rfl w_pt65_S ?_
    refine E_iload_n rfl rfl ?_
    exact E_iret rfl rfl
  · exact ⟨(qI_S I), rfl, hf, iQ, iM, iT, iS, l_el, (lr.1), (lr.2.1), (lr.2.2.1), (lr.2.2.2.1), (lr.2.2.2.2.1), (lr.2.2.2.2.2.1), (lr.2.2.2.2.2.2.1), (lr.2.2.2.2.2.2.2.1), (lr.2.2.2.2.2.2.2.2.1), (lr.2.2.2.2.2.2.2.2.2.1), (lr.2.2.2.2.2.2.2.2.2.2.1), (lr.2.2.2.2.2.2.2.2.2.2.2.1), (lr.2.2.2.2.2.2.2.2.2.2.2.2.1), (lr.2.2.2.2.2.2.2.2.2.2.2.2.2.1), (lr.2.2.2.2.2.2.2.2.2.2.2.2.2.2.1), (lr.2.2.2.2.2.2.2.2.2.2.2.2.2.2.2.1), (lr.2.2.2.2.2.2.2.2.2.2.2.2.2.2.2.2.1), (lr.2.2.2.2.2.2.2.2.2.2.2.2.2.2.2.2.2.1), (lr.2.2.2.2.2.2.2.2.2.2.2.2.2.2.2.2.2.2.1), (lr.2.2.2.2.2.2.2.2.2.2.2.2.2.2.2.2.2.2.2.1), (lr.2.2.2.2.2.2.2.2.2.2.2.2.2.2.2.2.2.2.2.2)⟩
