/-! dear; by program (wip/tools/op.py) -/
set_option maxHeartbeats 4000000 in
theorem op_dear (x : St) (hx : wI x) (a1 : Int32) : ∃ (r : Int32) (x1 x2 : St), Ev ab_Z0 5 101 [.ref 0, .int a1] (wt x) (some (.int r), wt x1) ∧ Ev ab_Z0 5 191 [.ref 65, .int a1] (wt x1) (some (.int r), wt x2) ∧ wI x2 := by
  obtain ⟨im, lf, s, d, k, ls, rf, rz, ra, rn, rq, lt, m1, m2, m3, m4, bd, fc, hd, sz, el, t, g, fm, hm, so, si, sh, ce, ca, td, wa, kp, la, bf, oo, bo, pw, ow, tr⟩ := x
  obtain ⟨I, ts, hf, iQ, iM, iT, iS, l_el, lr⟩ := hx
  replace lr : Hd _ := lr
  have l_fc := lr.2.2.2.1
  have l_fm := lr.2.2.2.2.1
  subst ts
  obtain ⟨⟨i0, i1, i2, i3⟩, ⟨i4, i5, i6, i7, i8⟩, ⟨i9, i10⟩, I1, I2, I3, I4⟩ := id I
  rcases ab_int a1 with ⟨a1k, f0, rfl⟩ | f0
  · by_cases f1 : a1k = 0
    · subst f1
      have := qPs_in s 99 (i := qN s) (by omega)
      refine ⟨(qE (deC s (qPs s 99 (qN s)) (qN s))), (im, lf, s, d, k, (deL s (qPs s 99 (qN s)) ls (qN s)), rf, rz, ra, rn, rq, lt, m1, m2, m3, m4, bd, fc, hd, sz, el, s, g, fm, hm, so, si, sh, ce, ca, td, wa, kp, la, bf, oo, bo, pw, ow, tr), (im, lf, s, d, k, (deL s (qPs s 99 (qN s)) ls (qN s)), rf, rz, ra, rn, rq, lt, m1, m2, m3, m4, bd, fc, hd, sz, el, s, g, fm, hm, so, si, sh, ce, ca, td, wa, kp, la, (deB s (qPs s 99 (qN s)) bf (qN s)), oo, bo, pw, ow, tr), ?_, ?_, ?_⟩
      · show Ev ab_Z0 5 101 [.ref 0, .int (nI 0)] (ww im lf s d k ls rf rz ra rn rq lt m1 m2 m3 m4 bd fc hd sz el s g fm hm so si sh ce ca td wa kp la bf oo bo pw ow tr) (some (.int (qE (deC s (qPs s 99 (qN s)) (qN s)))), (ww im lf s d k (deL s (qPs s 99 (qN s)) ls (qN s)) rf rz ra rn rq lt m1 m2 m3 m4 bd fc hd sz el s g fm hm so si sh ce ca td wa kp la bf oo bo pw ow tr))
        refine Ef.in (md := mX5_dear) (L := [some (.ref 0), some (.int (nI 0))]) rfl (Nat.le_of_ble_eq_true rfl) rfl ?_
        refine E_iload_n at_X5_dear_0 rfl ?_
        refine E_ls (off := 27) (t := 28) at_X5_dear_1 (by decide) (by decide) rfl ?_
        refine E_aload_n rfl rfl ?_
        have e1 : Ev ab_Z0 4 126 [.ref 0] (ww im lf s d k ls rf rz ra rn rq lt m1 m2 m3 m4 bd fc hd sz el s g fm hm so si sh ce ca td wa kp la bf oo bo pw ow tr) (some (.int (qE (deC s (qPs s 99 (qN s)) (qN s)))), (ww im lf s d k (deL s (qPs s 99 (qN s)) ls (qN s)) rf rz ra rn rq lt m1 m2 m3 m4 bd fc hd sz el s g fm hm so si sh ce ca td wa kp la bf oo bo pw ow tr)) := by
          refine Ef.in (md := mX5_dearest) (L := [some (.ref 0), none, none, none, none, none]) rfl (Nat.le_of_ble_eq_true rfl) rfl ?_
          refine E_iconst (x := (-1)) rfl (by decide) ?_
          refine E_istore_n (L2 := [some (.ref 0), some (.int (-1)), none, none, none, none]) rfl rfl ?_
          refine E_bipush (x := nI 100) rfl (by decide) ?_
          refine E_istore_n (L2 := [some (.ref 0), some (.int (-1)), some (.int (nI 100)), none, none, none]) rfl rfl ?_
          refine E_aload_n rfl rfl ?_
          refine E_getfield (v := .ref 1) rfl w0 rfl (by decide) rfl ?_
          refine E_callV (v := some (.int (nI (qPs s 99 (qN s))))) (As := [.ref 1]) (r0 := []) (cs2 := (ww im lf s d k ls rf rz ra rn rq lt m1 m2 m3 m4 bd fc hd sz el s g fm hm so si sh ce ca td wa kp la bf oo bo pw ow tr)) rfl rfl rfl (Nat.le_of_ble_eq_true rfl) rfl (ab_rvOf w1 rfl) (sq_basin w_q1 I) (by decide) rfl ?_
          refine E_istore_n (L2 := [some (.ref 0), some (.int (-1)), some (.int (nI 100)), some (.int (nI (qPs s 99 (qN s)))), none, none]) rfl rfl ?_
          refine E_iconst (x := nI 0) rfl (by decide) ?_
          refine E_istore (L2 := [some (.ref 0), some (.int (-1)), some (.int (nI 100)), some (.int (nI (qPs s 99 (qN s)))), some (.int (nI 0)), none]) rfl rfl ?_
          exact de_c I (by omega) (lr.1) (qN s) 0 none (Nat.zero_add _)
        refine E_callV (v := some (.int (qE (deC s (qPs s 99 (qN s)) (qN s))))) (As := [.ref 0]) (r0 := []) (cs2 := (ww im lf s d k (deL s (qPs s 99 (qN s)) ls (qN s)) rf rz ra rn rq lt m1 m2 m3 m4 bd fc hd sz el s g fm hm so si sh ce ca td wa kp la bf oo bo pw ow tr)) rfl rfl rfl (Nat.le_of_ble_eq_true rfl) rfl (ab_rvOf w0 rfl) e1 (by decide) w_lens ?_
        exact E_iret rfl rfl
      · show Ev ab_Z0 5 191 [.ref 65, .int (nI 0)] (ww im lf s d k (deL s (qPs s 99 (qN s)) ls (qN s)) rf rz ra rn rq lt m1 m2 m3 m4 bd fc hd sz el s g fm hm so si sh ce ca td wa kp la bf oo bo pw ow tr) (some (.int (qE (deC s (qPs s 99 (qN s)) (qN s)))), (ww im lf s d k (deL s (qPs s 99 (qN s)) ls (qN s)) rf rz ra rn rq lt m1 m2 m3 m4 bd fc hd sz el s g fm hm so si sh ce ca td wa kp la (deB s (qPs s 99 (qN s)) bf (qN s)) oo bo pw ow tr))
        refine Ef.in (md := mX6_dear) (L := [some (.ref 65), some (.int (nI 0)), none, none]) rfl (Nat.le_of_ble_eq_true rfl) rfl ?_
        refine E_iload_n at_X6_dear_0 rfl ?_
        refine E_if (t := 9) (b := false) at_X6_dear_1 rfl (by decide) ?_
        refine E_iload_n at_X6_dear_4 rfl ?_
        refine E_iconst (x := nI 1) at_X6_dear_5 (by decide) ?_
        refine E_ic (t := 16) (b := true) at_X6_dear_6 rfl (by decide) ?_
        refine E_iload_n rfl rfl ?_
        refine E_if (t := 25) (b := false) rfl rfl (by decide) ?_
        refine E_aload_n rfl rfl ?_
        have e2 : Ev ab_Z0 4 189 [.ref 65] (ww im lf s d k (deL s (qPs s 99 (qN s)) ls (qN s)) rf rz ra rn rq lt m1 m2 m3 m4 bd fc hd sz el s g fm hm so si sh ce ca td wa kp la bf oo bo pw ow tr) (some (.int (qE (deC s (qPs s 99 (qN s)) (qN s)))), (ww im lf s d k (deL s (qPs s 99 (qN s)) ls (qN s)) rf rz ra rn rq lt m1 m2 m3 m4 bd fc hd sz el s g fm hm so si sh ce ca td wa kp la (deB s (qPs s 99 (qN s)) bf (qN s)) oo bo pw ow tr)) := by
          refine Ef.in (md := mX6_dearest) (L := [some (.ref 65), none, none, none, none, none]) rfl (Nat.le_of_ble_eq_true rfl) rfl ?_
          refine E_aload_n rfl rfl ?_
          refine E_bipush (x := nI 99) rfl (by decide) ?_
          refine E_callV (v := some (.int (nI (qPs s 99 (qN s))))) (As := [.ref 65, .int (nI 99)]) (r0 := []) (cs2 := (ww im lf s d k (deL s (qPs s 99 (qN s)) ls (qN s)) rf rz ra rn rq lt m1 m2 m3 m4 bd fc hd sz el s g fm hm so si sh ce ca td wa kp la bf oo bo pw ow tr)) rfl rfl rfl (Nat.le_of_ble_eq_true rfl) rfl (ab_rvOf w65 rfl) (mo_piecesOf w_m I (by omega)) (by decide) rfl ?_
          refine E_istore_n (L2 := [some (.ref 65), some (.int (nI (qPs s 99 (qN s)))), none, none, none, none]) rfl rfl ?_
          refine E_iconst (x := (-1)) rfl (by decide) ?_
          refine E_istore_n (L2 := [some (.ref 65), some (.int (nI (qPs s 99 (qN s)))), some (.int (-1)), none, none, none]) rfl rfl ?_
          refine E_iconst (x := nI 0) rfl (by decide) ?_
          refine E_istore_n (L2 := [some (.ref 65), some (.int (nI (qPs s 99 (qN s)))), some (.int (-1)), some (.int (nI 0)), none, none]) rfl rfl ?_
          refine E_iconst (x := nI 0) rfl (by decide) ?_
          refine E_istore (L2 := [some (.ref 65), some (.int (nI (qPs s 99 (qN s)))), some (.int (-1)), some (.int (nI 0)), some (.int (nI 0)), none]) rfl rfl ?_
          exact de_m I (by omega) (lr.2.2.2.2.2.2.2.2.2.2.2.2.2.2.2.1) (qN s) 0 none (Nat.zero_add _)
        refine E_callV (v := some (.int (qE (deC s (qPs s 99 (qN s)) (qN s))))) (As := [.ref 65]) (r0 := []) (cs2 := (ww im lf s d k (deL s (qPs s 99 (qN s)) ls (qN s)) rf rz ra rn rq lt m1 m2 m3 m4 bd fc hd sz el s g fm hm so si sh ce ca td wa kp la (deB s (qPs s 99 (qN s)) bf (qN s)) oo bo pw ow tr)) rfl rfl rfl (Nat.le_of_ble_eq_true rfl) rfl (ab_rvOf w65 rfl) e2 (by decide) w_lens ?_
        exact E_iret rfl rfl
      · exact ⟨I, rfl, hf, iQ, iM, iT, iS, l_el, (deL_len (lr.1) _), (lr.2.1), (lr.2.2.1), (lr.2.2.2.1), (lr.2.2.2.2.1), (lr.2.2.2.2.2.1), (lr.2.2.2.2.2.2.1), (lr.2.2.2.2.2.2.2.1), (lr.2.2.2.2.2.2.2.2.1), (lr.2.2.2.2.2.2.2.2.2.1), (lr.2.2.2.2.2.2.2.2.2.2.1), (lr.2.2.2.2.2.2.2.2.2.2.2.1), (lr.2.2.2.2.2.2.2.2.2.2.2.2.1), (lr.2.2.2.2.2.2.2.2.2.2.2.2.2.1), (lr.2.2.2.2.2.2.2.2.2.2.2.2.2.2.1), (deB_len (lr.2.2.2.2.2.2.2.2.2.2.2.2.2.2.2.1) _), (lr.2.2.2.2.2.2.2.2.2.2.2.2.2.2.2.2.1), (lr.2.2.2.2.2.2.2.2.2.2.2.2.2.2.2.2.2.1), (lr.2.2.2.2.2.2.2.2.2.2.2.2.2.2.2.2.2.2.1), (lr.2.2.2.2.2.2.2.2.2.2.2.2.2.2.2.2.2.2.2.1), (lr.2.2.2.2.2.2.2.2.2.2.2.2.2.2.2.2.2.2.2.2)⟩
    · by_cases f2 : a1k = 1
      · subst f2
        by_cases f3 : (qM s) = 0
        · refine ⟨(qE (crC s 8)), (im, lf, s, d, k, ls, rf, rz, ra, rn, rq, lt, m1, m2, m3, m4, bd, fc, hd, sz, el, s, g, fm, hm, so, si, sh, ce, ca, td, wa, kp, la, bf, oo, bo, pw, ow, tr), (im, lf, s, d, k, ls, rf, rz, ra, rn, rq, lt, m1, m2, m3, m4, bd, fc, hd, sz, el, s, g, fm, hm, so, si, sh, ce, ca, td, wa, kp, la, bf, oo, bo, pw, ow, tr), ?_, ?_, ?_⟩
          · show Ev ab_Z0 5 101 [.ref 0, .int (nI 1)] (ww im lf s d k ls rf rz ra rn rq lt m1 m2 m3 m4 bd fc hd sz el s g fm hm so si sh ce ca td wa kp la bf oo bo pw ow tr) (some (.int (qE (crC s 8))), (ww im lf s d k ls rf rz ra rn rq lt m1 m2 m3 m4 bd fc hd sz el s g fm hm so si sh ce ca td wa kp la bf oo bo pw ow tr))
            refine Ef.in (md := mX5_dear) (L := [some (.ref 0), some (.int (nI 1))]) rfl (Nat.le_of_ble_eq_true rfl) rfl ?_
            refine E_iload_n at_X5_dear_0 rfl ?_
            refine E_ls (off := 32) (t := 33) at_X5_dear_1 (by decide) (by decide) rfl ?_
            refine E_aload_n rfl rfl ?_
            have e1 : Ev ab_Z0 2 127 [.ref 0] (ww im lf s d k ls rf rz ra rn rq lt m1 m2 m3 m4 bd fc hd sz el s g fm hm so si sh ce ca td wa kp la bf oo bo pw ow tr) (some (.int (qE (crC s 8))), (ww im lf s d k ls rf rz ra rn rq lt m1 m2 m3 m4 bd fc hd sz el s g fm hm so si sh ce ca td wa kp la bf oo bo pw ow tr)) := by
              refine Ef.in (md := mX5_crowd) (L := [some (.ref 0), none, none, none, none]) rfl (Nat.le_of_ble_eq_true rfl) rfl ?_
              refine E_iconst (x := (-1)) rfl (by decide) ?_
              refine E_istore_n (L2 := [some (.ref 0), some (.int (-1)), none, none, none]) rfl rfl ?_
              refine E_iconst (x := nI 0) rfl (by decide) ?_
              refine E_istore_n (L2 := [some (.ref 0), some (.int (-1)), some (.int (nI 0)), none, none]) rfl rfl ?_
              refine E_iconst (x := nI 0) rfl (by decide) ?_
              refine E_istore_n (L2 := [some (.ref 0), some (.int (-1)), some (.int (nI 0)), some (.int (nI 0)), none]) rfl rfl ?_
              exact cr_c I 8 0 none rfl
            refine E_callV (v := some (.int (qE (crC s 8)))) (As := [.ref 0]) (r0 := []) (cs2 := (ww im lf s d k ls rf rz ra rn rq lt m1 m2 m3 m4 bd fc hd sz el s g fm hm so si sh ce ca td wa kp la bf oo bo pw ow tr)) rfl rfl rfl (Nat.le_of_ble_eq_true rfl) rfl (ab_rvOf w0 rfl) e1 (by decide) rfl ?_
            exact E_iret rfl rfl
          · show Ev ab_Z0 5 191 [.ref 65, .int (nI 1)] (ww im lf s d k ls rf rz ra rn rq lt m1 m2 m3 m4 bd fc hd sz el s g fm hm so si sh ce ca td wa kp la bf oo bo pw ow tr) (some (.int (qE (crC s 8))), (ww im lf s d k ls rf rz ra rn rq lt m1 m2 m3 m4 bd fc hd sz el s g fm hm so si sh ce ca td wa kp la bf oo bo pw ow tr))
            rw [cr_0 (by omega)]
            refine Ef.in (md := mX6_dear) (L := [some (.ref 65), some (.int (nI 1)), none, none]) rfl (Nat.le_of_ble_eq_true rfl) rfl ?_
            refine E_iload_n at_X6_dear_0 rfl ?_
            refine E_if (t := 9) (b := false) at_X6_dear_1 rfl (by decide) ?_
            refine E_iload_n at_X6_dear_4 rfl ?_
            refine E_iconst (x := nI 1) at_X6_dear_5 (by decide) ?_
            refine E_ic (t := 16) (b := true) at_X6_dear_6 rfl (by decide) ?_
            refine E_iload_n rfl rfl ?_
            refine E_if (t := 25) (b := true) rfl rfl (by decide) ?_
            refine E_aload_n rfl rfl ?_
            refine E_getfield (v := .int (nI (qM s))) rfl w65 rfl (by decide) rfl ?_
            refine E_if (t := 36) (b := false) rfl rfl ((cn_ne (nI_toInt (by omega)) (by decide : (0 : Int32).toInt = 0)).trans (decide_eq_false (by omega))) ?_
            refine E_iconst (x := (-1)) rfl (by decide) ?_
            refine E_goto (t := 37) rfl rfl ?_
            refine E_istore_n (L2 := [some (.ref 65), some (.int (nI 1)), some (.int (-1)), none]) rfl rfl ?_
            refine E_iconst (x := nI 1) rfl (by decide) ?_
            refine E_istore_n (L2 := [some (.ref 65), some (.int (nI 1)), some (.int (-1)), some (.int (nI 1))]) rfl rfl ?_
            exact cr_m0 I 7 1 rfl (Nat.le_refl _)
          · exact ⟨I, rfl, hf, iQ, iM, iT, iS, l_el, (lr.1), (lr.2.1), (lr.2.2.1), (lr.2.2.2.1), (lr.2.2.2.2.1), (lr.2.2.2.2.2.1), (lr.2.2.2.2.2.2.1), (lr.2.2.2.2.2.2.2.1), (lr.2.2.2.2.2.2.2.2.1), (lr.2.2.2.2.2.2.2.2.2.1), (lr.2.2.2.2.2.2.2.2.2.2.1), (lr.2.2.2.2.2.2.2.2.2.2.2.1), (lr.2.2.2.2.2.2.2.2.2.2.2.2.1), (lr.2.2.2.2.2.2.2.2.2.2.2.2.2.1), (lr.2.2.2.2.2.2.2.2.2.2.2.2.2.2.1), (lr.2.2.2.2.2.2.2.2.2.2.2.2.2.2.2.1), (lr.2.2.2.2.2.2.2.2.2.2.2.2.2.2.2.2.1), (lr.2.2.2.2.2.2.2.2.2.2.2.2.2.2.2.2.2.1), (lr.2.2.2.2.2.2.2.2.2.2.2.2.2.2.2.2.2.2.1), (lr.2.2.2.2.2.2.2.2.2.2.2.2.2.2.2.2.2.2.2.1), (lr.2.2.2.2.2.2.2.2.2.2.2.2.2.2.2.2.2.2.2.2)⟩
        · refine ⟨(qE (crC s 8)), (im, lf, s, d, k, ls, rf, rz, ra, rn, rq, lt, m1, m2, m3, m4, bd, fc, hd, sz, el, s, g, fm, hm, so, si, sh, ce, ca, td, wa, kp, la, bf, oo, bo, pw, ow, tr), (im, lf, s, d, k, ls, rf, rz, ra, rn, rq, lt, m1, m2, m3, m4, bd, fc, hd, sz, el, s, g, fm, hm, so, si, sh, ce, ca, td, wa, kp, la, bf, oo, bo, pw, ow, tr), ?_, ?_, ?_⟩
          · show Ev ab_Z0 5 101 [.ref 0, .int (nI 1)] (ww im lf s d k ls rf rz ra rn rq lt m1 m2 m3 m4 bd fc hd sz el s g fm hm so si sh ce ca td wa kp la bf oo bo pw ow tr) (some (.int (qE (crC s 8))), (ww im lf s d k ls rf rz ra rn rq lt m1 m2 m3 m4 bd fc hd sz el s g fm hm so si sh ce ca td wa kp la bf oo bo pw ow tr))
            refine Ef.in (md := mX5_dear) (L := [some (.ref 0), some (.int (nI 1))]) rfl (Nat.le_of_ble_eq_true rfl) rfl ?_
            refine E_iload_n at_X5_dear_0 rfl ?_
            refine E_ls (off := 32) (t := 33) at_X5_dear_1 (by decide) (by decide) rfl ?_
            refine E_aload_n rfl rfl ?_
            have e1 : Ev ab_Z0 2 127 [.ref 0] (ww im lf s d k ls rf rz ra rn rq lt m1 m2 m3 m4 bd fc hd sz el s g fm hm so si sh ce ca td wa kp la bf oo bo pw ow tr) (some (.int (qE (crC s 8))), (ww im lf s d k ls rf rz ra rn rq lt m1 m2 m3 m4 bd fc hd sz el s g fm hm so si sh ce ca td wa kp la bf oo bo pw ow tr)) := by
              refine Ef.in (md := mX5_crowd) (L := [some (.ref 0), none, none, none, none]) rfl (Nat.le_of_ble_eq_true rfl) rfl ?_
              refine E_iconst (x := (-1)) rfl (by decide) ?_
              refine E_istore_n (L2 := [some (.ref 0), some (.int (-1)), none, none, none]) rfl rfl ?_
              refine E_iconst (x := nI 0) rfl (by decide) ?_
              refine E_istore_n (L2 := [some (.ref 0), some (.int (-1)), some (.int (nI 0)), none, none]) rfl rfl ?_
              refine E_iconst (x := nI 0) rfl (by decide) ?_
              refine E_istore_n (L2 := [some (.ref 0), some (.int (-1)), some (.int (nI 0)), some (.int (nI 0)), none]) rfl rfl ?_
              exact cr_c I 8 0 none rfl
            refine E_callV (v := some (.int (qE (crC s 8)))) (As := [.ref 0]) (r0 := []) (cs2 := (ww im lf s d k ls rf rz ra rn rq lt m1 m2 m3 m4 bd fc hd sz el s g fm hm so si sh ce ca td wa kp la bf oo bo pw ow tr)) rfl rfl rfl (Nat.le_of_ble_eq_true rfl) rfl (ab_rvOf w0 rfl) e1 (by decide) rfl ?_
            exact E_iret rfl rfl
          · show Ev ab_Z0 5 191 [.ref 65, .int (nI 1)] (ww im lf s d k ls rf rz ra rn rq lt m1 m2 m3 m4 bd fc hd sz el s g fm hm so si sh ce ca td wa kp la bf oo bo pw ow tr) (some (.int (qE (crC s 8))), (ww im lf s d k ls rf rz ra rn rq lt m1 m2 m3 m4 bd fc hd sz el s g fm hm so si sh ce ca td wa kp la bf oo bo pw ow tr))
            rw [cr_eq I (by omega)]
            refine Ef.in (md := mX6_dear) (L := [some (.ref 65), some (.int (nI 1)), none, none]) rfl (Nat.le_of_ble_eq_true rfl) rfl ?_
            refine E_iload_n at_X6_dear_0 rfl ?_
            refine E_if (t := 9) (b := false) at_X6_dear_1 rfl (by decide) ?_
            refine E_iload_n at_X6_dear_4 rfl ?_
            refine E_iconst (x := nI 1) at_X6_dear_5 (by decide) ?_
            refine E_ic (t := 16) (b := true) at_X6_dear_6 rfl (by decide) ?_
            refine E_iload_n rfl rfl ?_
            refine E_if (t := 25) (b := true) rfl rfl (by decide) ?_
            refine E_aload_n rfl rfl ?_
            refine E_getfield (v := .int (nI (qM s))) rfl w65 rfl (by decide) rfl ?_
            refine E_if (t := 36) (b := true) rfl rfl ((cn_ne (nI_toInt (by omega)) (by decide : (0 : Int32).toInt = 0)).trans (decide_eq_true (by omega))) ?_
            refine E_iconst (x := nI 0) rfl (by decide) ?_
            refine E_istore_n (L2 := [some (.ref 65), some (.int (nI 1)), some (.int (nI 0)), none]) rfl rfl ?_
            refine E_iconst (x := nI 1) rfl (by decide) ?_
            refine E_istore_n (L2 := [some (.ref 65), some (.int (nI 1)), some (.int (nI 0)), some (.int (nI 1))]) rfl rfl ?_
            exact cr_m1 I
          · exact ⟨I, rfl, hf, iQ, iM, iT, iS, l_el, (lr.1), (lr.2.1), (lr.2.2.1), (lr.2.2.2.1), (lr.2.2.2.2.1), (lr.2.2.2.2.2.1), (lr.2.2.2.2.2.2.1), (lr.2.2.2.2.2.2.2.1), (lr.2.2.2.2.2.2.2.2.1), (lr.2.2.2.2.2.2.2.2.2.1), (lr.2.2.2.2.2.2.2.2.2.2.1), (lr.2.2.2.2.2.2.2.2.2.2.2.1), (lr.2.2.2.2.2.2.2.2.2.2.2.2.1), (lr.2.2.2.2.2.2.2.2.2.2.2.2.2.1), (lr.2.2.2.2.2.2.2.2.2.2.2.2.2.2.1), (lr.2.2.2.2.2.2.2.2.2.2.2.2.2.2.2.1), (lr.2.2.2.2.2.2.2.2.2.2.2.2.2.2.2.2.1), (lr.2.2.2.2.2.2.2.2.2.2.2.2.2.2.2.2.2.1), (lr.2.2.2.2.2.2.2.2.2.2.2.2.2.2.2.2.2.2.1), (lr.2.2.2.2.2.2.2.2.2.2.2.2.2.2.2.2.2.2.2.1), (lr.2.2.2.2.2.2.2.2.2.2.2.2.2.2.2.2.2.2.2.2)⟩
      · refine ⟨(-15), (im, lf, s, d, k, ls, rf, rz, ra, rn, rq, lt, m1, m2, m3, m4, bd, (fc.set 5 ((fc.getD 5 0) + (nI 1))), hd, sz, el, s, g, fm, hm, so, si, sh, ce, ca, td, wa, kp, la, bf, oo, bo, pw, ow, tr), (im, lf, s, d, k, ls, rf, rz, ra, rn, rq, lt, m1, m2, m3, m4, bd, (fc.set 5 ((fc.getD 5 0) + (nI 1))), hd, sz, el, s, g, (fm.set 5 ((fm.getD 5 0) + (nI 1))), hm, so, si, sh, ce, ca, td, wa, kp, la, bf, oo, bo, pw, ow, tr), ?_, ?_, ?_⟩
        · show Ev ab_Z0 5 101 [.ref 0, .int (nI a1k)] (ww im lf s d k ls rf rz ra rn rq lt m1 m2 m3 m4 bd fc hd sz el s g fm hm so si sh ce ca td wa kp la bf oo bo pw ow tr) (some (.int (-15)), (ww im lf s d k ls rf rz ra rn rq lt m1 m2 m3 m4 bd (fc.set 5 ((fc.getD 5 0) + (nI 1))) hd sz el s g fm hm so si sh ce ca td wa kp la bf oo bo pw ow tr))
          refine Ef.in (md := mX5_dear) (L := [some (.ref 0), some (.int (nI a1k))]) rfl (Nat.le_of_ble_eq_true rfl) rfl ?_
          refine E_iload_n at_X5_dear_0 rfl ?_
          refine E_ls (off := 37) (t := 38) at_X5_dear_1 (by decide) (ls_2 (nI_toInt (by omega)) (by omega) (by omega)) rfl ?_
          refine E_aload_n rfl rfl ?_
          refine E_iconst (x := nI 5) rfl (by decide) ?_
          refine E_callV (v := some (.int (-5))) (As := [.ref 0, .int (nI 5)]) (r0 := []) (cs2 := (ww im lf s d k ls rf rz ra rn rq lt m1 m2 m3 m4 bd (fc.set 5 ((fc.getD 5 0) + (nI 1))) hd sz el s g fm hm so si sh ce ca td wa kp la bf oo bo pw ow tr)) rfl rfl rfl (Nat.le_of_ble_eq_true rfl) rfl (ab_rvOf w0 rfl) (L18_X5_refuse (by omega)) (by decide) w_lens ?_
          refine E_bipush (x := nI 10) rfl (by decide) ?_
          refine E_isub (z := (-15)) rfl (by decide) ?_
          exact E_iret rfl rfl
        · show Ev ab_Z0 5 191 [.ref 65, .int (nI a1k)] (ww im lf s d k ls rf rz ra rn rq lt m1 m2 m3 m4 bd (fc.set 5 ((fc.getD 5 0) + (nI 1))) hd sz el s g fm hm so si sh ce ca td wa kp la bf oo bo pw ow tr) (some (.int (-15)), (ww im lf s d k ls rf rz ra rn rq lt m1 m2 m3 m4 bd (fc.set 5 ((fc.getD 5 0) + (nI 1))) hd sz el s g (fm.set 5 ((fm.getD 5 0) + (nI 1))) hm so si sh ce ca td wa kp la bf oo bo pw ow tr))
          refine Ef.in (md := mX6_dear) (L := [some (.ref 65), some (.int (nI a1k)), none, none]) rfl (Nat.le_of_ble_eq_true rfl) rfl ?_
          refine E_iload_n at_X6_dear_0 rfl ?_
          refine E_if (t := 9) (b := false) at_X6_dear_1 rfl ((cn_lt (nI_toInt (by omega)) (by decide : (0 : Int32).toInt = 0)).trans (decide_eq_false (by omega))) ?_
          refine E_iload_n at_X6_dear_4 rfl ?_
          refine E_iconst (x := nI 1) at_X6_dear_5 (by decide) ?_
          refine E_ic (t := 16) (b := false) at_X6_dear_6 rfl ((cn_le (nI_toInt (by omega)) (nI_toInt (by omega))).trans (decide_eq_false (by omega))) ?_
          refine E_aload_n rfl rfl ?_
          refine E_bipush (x := (-5)) rfl (by decide) ?_
          refine E_callV (v := some (.int (-15))) (As := [.ref 65, .int (-5)]) (r0 := []) (cs2 := (ww im lf s d k ls rf rz ra rn rq lt m1 m2 m3 m4 bd (fc.set 5 ((fc.getD 5 0) + (nI 1))) hd sz el s g (fm.set 5 ((fm.getD 5 0) + (nI 1))) hm so si sh ce ca td wa kp la bf oo bo pw ow tr)) rfl rfl rfl (Nat.le_of_ble_eq_true rfl) rfl (ab_rvOf w65 rfl) (L103_X6_noTen (by omega)) (by decide) w_lens ?_
          exact E_iret rfl rfl
        · exact ⟨I, rfl, hf, iQ, iM, iT, iS, l_el, (lr.1), (lr.2.1), (lr.2.2.1), (by simp only [List.length_set]; exact (lr.2.2.2.1)), (by simp only [List.length_set]; exact (lr.2.2.2.2.1)), (lr.2.2.2.2.2.1), (lr.2.2.2.2.2.2.1), (lr.2.2.2.2.2.2.2.1), (lr.2.2.2.2.2.2.2.2.1), (lr.2.2.2.2.2.2.2.2.2.1), (lr.2.2.2.2.2.2.2.2.2.2.1), (lr.2.2.2.2.2.2.2.2.2.2.2.1), (lr.2.2.2.2.2.2.2.2.2.2.2.2.1), (lr.2.2.2.2.2.2.2.2.2.2.2.2.2.1), (lr.2.2.2.2.2.2.2.2.2.2.2.2.2.2.1), (lr.2.2.2.2.2.2.2.2.2.2.2.2.2.2.2.1), (lr.2.2.2.2.2.2.2.2.2.2.2.2.2.2.2.2.1), (lr.2.2.2.2.2.2.2.2.2.2.2.2.2.2.2.2.2.1), (lr.2.2.2.2.2.2.2.2.2.2.2.2.2.2.2.2.2.2.1), (lr.2.2.2.2.2.2.2.2.2.2.2.2.2.2.2.2.2.2.2.1), (lr.2.2.2.2.2.2.2.2.2.2.2.2.2.2.2.2.2.2.2.2)⟩
  · refine ⟨(-15), (im, lf, s, d, k, ls, rf, rz, ra, rn, rq, lt, m1, m2, m3, m4, bd, (fc.set 5 ((fc.getD 5 0) + (nI 1))), hd, sz, el, s, g, fm, hm, so, si, sh, ce, ca, td, wa, kp, la, bf, oo, bo, pw, ow, tr), (im, lf, s, d, k, ls, rf, rz, ra, rn, rq, lt, m1, m2, m3, m4, bd, (fc.set 5 ((fc.getD 5 0) + (nI 1))), hd, sz, el, s, g, (fm.set 5 ((fm.getD 5 0) + (nI 1))), hm, so, si, sh, ce, ca, td, wa, kp, la, bf, oo, bo, pw, ow, tr), ?_, ?_, ?_⟩
    · show Ev ab_Z0 5 101 [.ref 0, .int a1] (ww im lf s d k ls rf rz ra rn rq lt m1 m2 m3 m4 bd fc hd sz el s g fm hm so si sh ce ca td wa kp la bf oo bo pw ow tr) (some (.int (-15)), (ww im lf s d k ls rf rz ra rn rq lt m1 m2 m3 m4 bd (fc.set 5 ((fc.getD 5 0) + (nI 1))) hd sz el s g fm hm so si sh ce ca td wa kp la bf oo bo pw ow tr))
      refine Ef.in (md := mX5_dear) (L := [some (.ref 0), some (.int a1)]) rfl (Nat.le_of_ble_eq_true rfl) rfl ?_
      refine E_iload_n at_X5_dear_0 rfl ?_
      refine E_ls (off := 37) (t := 38) at_X5_dear_1 (by decide) (ls_2 rfl (by omega) (by omega)) rfl ?_
      refine E_aload_n rfl rfl ?_
      refine E_iconst (x := nI 5) rfl (by decide) ?_
      refine E_callV (v := some (.int (-5))) (As := [.ref 0, .int (nI 5)]) (r0 := []) (cs2 := (ww im lf s d k ls rf rz ra rn rq lt m1 m2 m3 m4 bd (fc.set 5 ((fc.getD 5 0) + (nI 1))) hd sz el s g fm hm so si sh ce ca td wa kp la bf oo bo pw ow tr)) rfl rfl rfl (Nat.le_of_ble_eq_true rfl) rfl (ab_rvOf w0 rfl) (L18_X5_refuse (by omega)) (by decide) w_lens ?_
      refine E_bipush (x := nI 10) rfl (by decide) ?_
      refine E_isub (z := (-15)) rfl (by decide) ?_
      exact E_iret rfl rfl
    · show Ev ab_Z0 5 191 [.ref 65, .int a1] (ww im lf s d k ls rf rz ra rn rq lt m1 m2 m3 m4 bd (fc.set 5 ((fc.getD 5 0) + (nI 1))) hd sz el s g fm hm so si sh ce ca td wa kp la bf oo bo pw ow tr) (some (.int (-15)), (ww im lf s d k ls rf rz ra rn rq lt m1 m2 m3 m4 bd (fc.set 5 ((fc.getD 5 0) + (nI 1))) hd sz el s g (fm.set 5 ((fm.getD 5 0) + (nI 1))) hm so si sh ce ca td wa kp la bf oo bo pw ow tr))
      refine Ef.in (md := mX6_dear) (L := [some (.ref 65), some (.int a1), none, none]) rfl (Nat.le_of_ble_eq_true rfl) rfl ?_
      refine E_iload_n at_X6_dear_0 rfl ?_
      refine E_if (t := 9) (b := true) at_X6_dear_1 rfl ((cn_lt rfl (by decide : (0 : Int32).toInt = 0)).trans (decide_eq_true (by omega))) ?_
      refine E_aload_n rfl rfl ?_
      refine E_bipush (x := (-5)) rfl (by decide) ?_
      refine E_callV (v := some (.int (-15))) (As := [.ref 65, .int (-5)]) (r0 := []) (cs2 := (ww im lf s d k ls rf rz ra rn rq lt m1 m2 m3 m4 bd (fc.set 5 ((fc.getD 5 0) + (nI 1))) hd sz el s g (fm.set 5 ((fm.getD 5 0) + (nI 1))) hm so si sh ce ca td wa kp la bf oo bo pw ow tr)) rfl rfl rfl (Nat.le_of_ble_eq_true rfl) rfl (ab_rvOf w65 rfl) (L103_X6_noTen (by omega)) (by decide) w_lens ?_
      exact E_iret rfl rfl
    · exact ⟨I, rfl, hf, iQ, iM, iT, iS, l_el, (lr.1), (lr.2.1), (lr.2.2.1), (by simp only [List.length_set]; exact (lr.2.2.2.1)), (by simp only [List.length_set]; exact (lr.2.2.2.2.1)), (lr.2.2.2.2.2.1), (lr.2.2.2.2.2.2.1), (lr.2.2.2.2.2.2.2.1), (lr.2.2.2.2.2.2.2.2.1), (lr.2.2.2.2.2.2.2.2.2.1), (lr.2.2.2.2.2.2.2.2.2.2.1), (lr.2.2.2.2.2.2.2.2.2.2.2.1), (lr.2.2.2.2.2.2.2.2.2.2.2.2.1), (lr.2.2.2.2.2.2.2.2.2.2.2.2.2.1), (lr.2.2.2.2.2.2.2.2.2.2.2.2.2.2.1), (lr.2.2.2.2.2.2.2.2.2.2.2.2.2.2.2.1), (lr.2.2.2.2.2.2.2.2.2.2.2.2.2.2.2.2.1), (lr.2.2.2.2.2.2.2.2.2.2.2.2.2.2.2.2.2.1), (lr.2.2.2.2.2.2.2.2.2.2.2.2.2.2.2.2.2.2.1), (lr.2.2.2.2.2.2.2.2.2.2.2.2.2.2.2.2.2.2.2.1), (lr.2.2.2.2.2.2.2.2.2.2.2.2.2.2.2.2.2.2.2.2)⟩
