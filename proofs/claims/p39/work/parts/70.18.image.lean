/-! image; by program (wip/tools/op.py) -/
set_option maxHeartbeats 1000000 in
theorem op_image (x : St) (hx : wI x) : ∃ (r : Int32) (x1 x2 : St), Ev ab_Z0 2 112 [.ref 0] (wt x) (some (.int r), wt x1) ∧ Ev ab_Z0 3 210 [.ref 65] (wt x1) (some (.int r), wt x2) ∧ wI x2 := by
  obtain ⟨im, lf, s, d, k, ls, rf, rz, ra, rn, rq, lt, m1, m2, m3, m4, bd, fc, hd, sz, el, t, g, fm, hm, so, si, sh, ce, ca, td, wa, kp, la, bf, oo, bo, pw, ow, tr⟩ := x
  obtain ⟨I, ts, hf, iQ, iM, iT, iS, l_el, lr⟩ := hx
  replace lr : Hd _ := lr
  have l_fc := lr.2.2.2.1
  have l_fm := lr.2.2.2.2.1
  subst ts
  obtain ⟨⟨i0, i1, i2, i3⟩, ⟨i4, i5, i6, i7, i8⟩, ⟨i9, i10⟩, I1, I2, I3, I4⟩ := id I
  obtain ⟨⟨d0, d1, d2, d3, d4, d5, d6, d7, d8⟩, ⟨k0, k1, k2, k3, k4, k5, k6, k7, k8⟩, ⟨r0, r1, r2, r3, r4, r5, r6, r7, r8⟩⟩ := iQ
  refine ⟨(nI (qN s)), ((nI 1), lf, s, d, s, ls, rf, rz, ra, rn, rq, lt, m1, m2, m3, m4, bd, fc, hd, sz, el, s, g, fm, hm, so, si, sh, ce, ca, td, wa, kp, la, bf, oo, bo, pw, ow, tr), ((nI 1), lf, s, d, s, ls, rf, rz, ra, rn, rq, lt, m1, m2, m3, m4, bd, fc, hd, sz, el, s, (fUp g 48 (nI 1)), fm, hm, so, si, sh, ce, ca, td, wa, (qFn s kp), la, bf, oo, bo, pw, ow, tr), ?_, ?_, ?_⟩
  · show Ev ab_Z0 2 112 [.ref 0] (ww im lf s d k ls rf rz ra rn rq lt m1 m2 m3 m4 bd fc hd sz el s g fm hm so si sh ce ca td wa kp la bf oo bo pw ow tr) (some (.int (nI (qN s))), (ww (nI 1) lf s d s ls rf rz ra rn rq lt m1 m2 m3 m4 bd fc hd sz el s g fm hm so si sh ce ca td wa kp la bf oo bo pw ow tr))
    refine Ef.in (md := mX5_image) (L := [some (.ref 0)]) rfl (Nat.le_of_ble_eq_true rfl) rfl ?_
    refine E_aload_n rfl rfl ?_
    refine E_getfield (v := .ref 21) rfl w0 rfl (by decide) rfl ?_
    refine E_aload_n rfl rfl ?_
    refine E_getfield (v := .ref 1) rfl w0 rfl (by decide) rfl ?_
    refine E_callV (v := none) (As := [.ref 21, .ref 1]) (r0 := []) (cs2 := (ww im lf s d s ls rf rz ra rn rq lt m1 m2 m3 m4 bd fc hd sz el s g fm hm so si sh ce ca td wa kp la bf oo bo pw ow tr)) rfl rfl rfl (Nat.le_of_ble_eq_true rfl) rfl (ab_rvOf w21 rfl) (tk_21_1 ⟨k0, k1, k2, k3, k4, k5, k6, k7, k8⟩ I.ln) (by decide) w_lens ?_
    refine E_aload_n rfl rfl ?_
    refine E_iconst (x := nI 1) rfl (by decide) ?_
    refine E_putfield (cs2 := (ww (nI 1) lf s d s ls rf rz ra rn rq lt m1 m2 m3 m4 bd fc hd sz el s g fm hm so si sh ce ca td wa kp la bf oo bo pw ow tr)) rfl w0 rfl (by decide) (Nat.le_of_ble_eq_true rfl) rfl rfl rfl rfl ?_
    refine E_aload_n rfl rfl ?_
    refine E_getfield (v := .ref 21) rfl w0 rfl (by decide) rfl ?_
    refine E_getfield (v := .int (nI (qN s))) rfl w21 rfl (by decide) rfl ?_
    exact E_iret rfl rfl
  · show Ev ab_Z0 3 210 [.ref 65] (ww (nI 1) lf s d s ls rf rz ra rn rq lt m1 m2 m3 m4 bd fc hd sz el s g fm hm so si sh ce ca td wa kp la bf oo bo pw ow tr) (some (.int (nI (qN s))), (ww (nI 1) lf s d s ls rf rz ra rn rq lt m1 m2 m3 m4 bd fc hd sz el s (fUp g 48 (nI 1)) fm hm so si sh ce ca td wa (qFn s kp) la bf oo bo pw ow tr))
    refine Ef.in (md := mX6_image) (L := [some (.ref 65)]) rfl (Nat.le_of_ble_eq_true rfl) rfl ?_
    refine E_aload_n rfl rfl ?_
    refine E_iconst (x := nI 1) rfl (by decide) ?_
    refine E_putfield (cs2 := (ww (nI 1) lf s d s ls rf rz ra rn rq lt m1 m2 m3 m4 bd fc hd sz el s (fUp g 48 (nI 1)) fm hm so si sh ce ca td wa kp la bf oo bo pw ow tr)) rfl w65 rfl (by decide) (Nat.le_of_ble_eq_true rfl) rfl rfl rfl w_pt65_48 ?_
    refine E_aload_n rfl rfl ?_
    refine E_aload_n rfl rfl ?_
    refine E_getfield (v := .ref 87) rfl w65 rfl (by decide) rfl ?_
    refine E_iconst (x := nI 0) rfl (by decide) ?_
    refine E_callV (v := none) (As := [.ref 65, .ref 87, .int (nI 0)]) (r0 := []) (cs2 := (ww (nI 1) lf s d s ls rf rz ra rn rq lt m1 m2 m3 m4 bd fc hd sz el s (fUp g 48 (nI 1)) fm hm so si sh ce ca td wa (qFn s kp) la bf oo bo pw ow tr)) rfl rfl rfl (Nat.le_of_ble_eq_true rfl) rfl (ab_rvOf w65 rfl) (m_allO_87 I.ln (lr.2.2.2.2.2.2.2.2.2.2.2.2.2.1)) (by decide) w_lens ?_
    refine E_aload_n rfl rfl ?_
    refine E_getfield (v := .int (nI (qN s))) rfl w65 rfl (by decide) rfl ?_
    exact E_iret rfl rfl
  · exact ⟨I, rfl, hf, ⟨⟨d0, d1, d2, d3, d4, d5, d6, d7, d8⟩, I.ln, ⟨r0, r1, r2, r3, r4, r5, r6, r7, r8⟩⟩, (Or.inr ⟨rfl, rfl, I, kp, (lr.2.2.2.2.2.2.2.2.2.2.2.2.2.1), rfl⟩), iT, iS, l_el, (lr.1), (lr.2.1), (lr.2.2.1), (lr.2.2.2.1), (lr.2.2.2.2.1), (lr.2.2.2.2.2.1), (lr.2.2.2.2.2.2.1), (lr.2.2.2.2.2.2.2.1), (lr.2.2.2.2.2.2.2.2.1), (lr.2.2.2.2.2.2.2.2.2.1), (lr.2.2.2.2.2.2.2.2.2.2.1), (lr.2.2.2.2.2.2.2.2.2.2.2.1), (lr.2.2.2.2.2.2.2.2.2.2.2.2.1), (qFn_len I.ln (lr.2.2.2.2.2.2.2.2.2.2.2.2.2.1)), (lr.2.2.2.2.2.2.2.2.2.2.2.2.2.2.1), (lr.2.2.2.2.2.2.2.2.2.2.2.2.2.2.2.1), (lr.2.2.2.2.2.2.2.2.2.2.2.2.2.2.2.2.1), (lr.2.2.2.2.2.2.2.2.2.2.2.2.2.2.2.2.2.1), (lr.2.2.2.2.2.2.2.2.2.2.2.2.2.2.2.2.2.2.1), (lr.2.2.2.2.2.2.2.2.2.2.2.2.2.2.2.2.2.2.2.1), (lr.2.2.2.2.2.2.2.2.2.2.2.2.2.2.2.2.2.2.2.2)⟩
