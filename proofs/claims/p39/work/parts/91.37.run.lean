/-! run; by program (wip/tools/op.py) -/
section LM
variable {im : Int32} {lf : Int32} {s : ab_q} {d : ab_q} {k : ab_q} {ls : List Int32} {rf : Int32} {rz : Int32} {ra : Int32} {rn : Int32} {rq : ab_q} {lt : List Int32} {m1 : Int32} {m2 : Int32} {m3 : Int32} {m4 : Int32} {bd : List Int32} {fc : List Int32} {hd : Nat → Int32} {sz : Nat → Int32} {el : Nat → List Int64} {t : ab_q} {g : Nat → Int32} {fm : List Int32} {hm : List Nat} {so : List Nat} {si : List Nat} {sh : List Int32} {ce : List Int64} {ca : List Int64} {td : List Int32} {wa : List Int32} {kp : List Int32} {la : List Int32} {bf : List Int32} {oo : List Int32} {bo : List Int32} {pw : List Int32} {ow : List Int32} {tr : List Int32}
theorem L122_X6_isFrom {x1 : Nat} {x3 : Nat} (h0 : x1 < 2147483648) (h1 : x3 < 2147483648) (h2 : ¬ (x1 + 1 < 0)) (h3 : ¬ (x3 < x1)) : Ev ab_Z0 1 134 [.ref 65, .int (nI x1), .int (-1), .int (nI x3)] (ww im lf s d k ls rf rz ra rn rq lt m1 m2 m3 m4 bd fc hd sz el t g fm hm so si sh ce ca td wa kp la bf oo bo pw ow tr) (some (.int (nI 1)), (ww im lf s d k ls rf rz ra rn rq lt m1 m2 m3 m4 bd fc hd sz el t g fm hm so si sh ce ca td wa kp la bf oo bo pw ow tr)) := by
  refine Ef.in (md := mX6_isFrom) (L := [some (.ref 65), some (.int (nI x1)), some (.int (-1)), some (.int (nI x3))]) rfl (Nat.le_of_ble_eq_true rfl) rfl ?_
  refine E_iload_n rfl rfl ?_
  refine E_iload_n rfl rfl ?_
  refine E_ic (t := 14) (b := false) rfl rfl ((cn_lt (nI_toInt (by omega)) (by decide : (-1 : Int32).toInt = -1)).trans (decide_eq_false (by omega))) ?_
  refine E_iload_n rfl rfl ?_
  refine E_iload_n rfl rfl ?_
  refine E_ic (t := 14) (b := false) rfl rfl ((cn_gt (nI_toInt (by omega)) (nI_toInt (by omega))).trans (decide_eq_false (by omega))) ?_
  refine E_iconst (x := nI 1) rfl (by decide) ?_
  refine E_goto (t := 15) rfl rfl ?_
  exact E_iret rfl rfl
theorem L123_X6_isFrom {x1 : Nat} {x3 : Int32} (h0 : x1 < 2147483648) (h1 : ¬ (x1 + 1 < 0)) (h2 : x3.toInt < (x1 : Int)) : Ev ab_Z0 1 134 [.ref 65, .int (nI x1), .int (-1), .int x3] (ww im lf s d k ls rf rz ra rn rq lt m1 m2 m3 m4 bd fc hd sz el t g fm hm so si sh ce ca td wa kp la bf oo bo pw ow tr) (some (.int (nI 0)), (ww im lf s d k ls rf rz ra rn rq lt m1 m2 m3 m4 bd fc hd sz el t g fm hm so si sh ce ca td wa kp la bf oo bo pw ow tr)) := by
  refine Ef.in (md := mX6_isFrom) (L := [some (.ref 65), some (.int (nI x1)), some (.int (-1)), some (.int x3)]) rfl (Nat.le_of_ble_eq_true rfl) rfl ?_
  refine E_iload_n rfl rfl ?_
  refine E_iload_n rfl rfl ?_
  refine E_ic (t := 14) (b := false) rfl rfl ((cn_lt (nI_toInt (by omega)) (by decide : (-1 : Int32).toInt = -1)).trans (decide_eq_false (by omega))) ?_
  refine E_iload_n rfl rfl ?_
  refine E_iload_n rfl rfl ?_
  refine E_ic (t := 14) (b := true) rfl rfl ((cn_gt (nI_toInt (by omega)) rfl).trans (decide_eq_true (by omega))) ?_
  refine E_iconst (x := nI 0) rfl (by decide) ?_
  exact E_iret rfl rfl
theorem L124_X6_isFrom {x1 : Int32} {x3 : Int32} (h0 : x1.toInt < 0) (h1 : x1.toInt + 1 < 0) : Ev ab_Z0 1 134 [.ref 65, .int x1, .int (-1), .int x3] (ww im lf s d k ls rf rz ra rn rq lt m1 m2 m3 m4 bd fc hd sz el t g fm hm so si sh ce ca td wa kp la bf oo bo pw ow tr) (some (.int (nI 0)), (ww im lf s d k ls rf rz ra rn rq lt m1 m2 m3 m4 bd fc hd sz el t g fm hm so si sh ce ca td wa kp la bf oo bo pw ow tr)) := by
  refine Ef.in (md := mX6_isFrom) (L := [some (.ref 65), some (.int x1), some (.int (-1)), some (.int x3)]) rfl (Nat.le_of_ble_eq_true rfl) rfl ?_
  refine E_iload_n rfl rfl ?_
  refine E_iload_n rfl rfl ?_
  refine E_ic (t := 14) (b := true) rfl rfl ((cn_lt rfl (by decide : (-1 : Int32).toInt = -1)).trans (decide_eq_true (by omega))) ?_
  refine E_iconst (x := nI 0) rfl (by decide) ?_
  exact E_iret rfl rfl
theorem L125_X6_isFrom {x1 : Int32} {x3 : Int32} (h0 : x1.toInt < 0) (h1 : ¬ (x1.toInt + 1 < 0)) (h2 : ¬ (x3.toInt < x1.toInt)) : Ev ab_Z0 1 134 [.ref 65, .int x1, .int (-1), .int x3] (ww im lf s d k ls rf rz ra rn rq lt m1 m2 m3 m4 bd fc hd sz el t g fm hm so si sh ce ca td wa kp la bf oo bo pw ow tr) (some (.int (nI 1)), (ww im lf s d k ls rf rz ra rn rq lt m1 m2 m3 m4 bd fc hd sz el t g fm hm so si sh ce ca td wa kp la bf oo bo pw ow tr)) := by
  refine Ef.in (md := mX6_isFrom) (L := [some (.ref 65), some (.int x1), some (.int (-1)), some (.int x3)]) rfl (Nat.le_of_ble_eq_true rfl) rfl ?_
  refine E_iload_n rfl rfl ?_
  refine E_iload_n rfl rfl ?_
  refine E_ic (t := 14) (b := false) rfl rfl ((cn_lt rfl (by decide : (-1 : Int32).toInt = -1)).trans (decide_eq_false (by omega))) ?_
  refine E_iload_n rfl rfl ?_
  refine E_iload_n rfl rfl ?_
  refine E_ic (t := 14) (b := false) rfl rfl ((cn_gt rfl rfl).trans (decide_eq_false (by omega))) ?_
  refine E_iconst (x := nI 1) rfl (by decide) ?_
  refine E_goto (t := 15) rfl rfl ?_
  exact E_iret rfl rfl
end LM
set_option maxHeartbeats 4000000 in
theorem op_run (x : St) (hx : wI x) (a1 : Int32) : ∃ (r : Int32) (x1 x2 : St), Ev ab_Z0 5 98 [.ref 0, .int a1] (wt x) (some (.int r), wt x1) ∧ Ev ab_Z0 40 185 [.ref 65, .int a1] (wt x1) (some (.int r), wt x2) ∧ wI x2 := by
  obtain ⟨im, lf, s, d, k, ls, rf, rz, ra, rn, rq, lt, m1, m2, m3, m4, bd, fc, hd, sz, el, t, g, fm, hm, so, si, sh, ce, ca, td, wa, kp, la, bf, oo, bo, pw, ow, tr⟩ := x
  obtain ⟨I, ts, hf, iQ, iM, iT, iS, l_el, lr⟩ := hx
  replace lr : Hd _ := lr
  have l_fc := lr.2.2.2.1
  have l_fm := lr.2.2.2.2.1
  subst ts
  obtain ⟨⟨i0, i1, i2, i3⟩, ⟨i4, i5, i6, i7, i8⟩, ⟨i9, i10⟩, I1, I2, I3, I4⟩ := id I
  rcases ab_int a1 with ⟨a1k, f0, rfl⟩ | f0
  · by_cases f1 : a1k < (qM s)
    · have hQ1 : (nI (qM s) - nI 1).toInt = ((qM s : Nat) : Int) - ((1 : Nat) : Int) := ab_subI (by omega) (by omega)
      have hp2 := Nat.two_pow_pos (qM s)
      obtain ⟨t1, g1, oo1, bo1, pw1, ow1, bf1, er, hO⟩ : ∃ (t1 : ab_q) (g1 : Nat → Int32) (oo1 bo1 pw1 ow1 bf1 : List Int32), Ev ab_Z0 14 184 [.ref 65, .int (nI 0), .int (nI ((2 ^ qM s) - 1)), .int (nI 0)] (ww im lf s d k ls rf rz ra rn rq lt m1 m2 m3 m4 bd fc hd sz el s (fUp g 42 (-1)) fm hm so si sh ce ca td wa kp (qFn s la) bf oo bo pw ow tr) (none, (ww im lf s d k ls rf rz ra rn rq lt m1 m2 m3 m4 bd fc hd sz el t1 g1 fm hm so si sh ce ca td wa kp (qFn s la) bf1 oo1 bo1 pw1 ow1 tr)) ∧ rnO s 0 s t1 (fUp g 42 (-1)) g1 oo pw ow oo1 bo1 pw1 ow1 bf1 := rn_go I ⟨(lr.2.2.2.2.2.2.2.2.2.2.2.2.2.2.2.2.1), (lr.2.2.2.2.2.2.2.2.2.2.2.2.2.2.2.2.2.1), (lr.2.2.2.2.2.2.2.2.2.2.2.2.2.2.2.2.2.2.1), (lr.2.2.2.2.2.2.2.2.2.2.2.2.2.2.2.2.2.2.2.1), (lr.2.2.2.2.2.2.2.2.2.2.2.2.2.2.2.1)⟩
      obtain ⟨-, I1, -, -, gg1, fd1, ⟨n1, n2, n3, n4, n5⟩, -, -, -⟩ := hO
      have : (bo1).length = 6 := by first | omega | (simp only [List.length_set]; omega)
      refine ⟨(nI a1k), (im, lf, s, d, k, ls, rf, rz, ra, rn, rq, lt, m1, m2, m3, m4, bd, fc, hd, sz, el, s, g, fm, hm, so, si, sh, ce, ca, td, wa, kp, la, bf, oo, bo, pw, ow, tr), (im, lf, s, d, k, ls, rf, rz, ra, rn, rq, lt, m1, m2, m3, m4, bd, fc, hd, sz, el, s, g1, fm, hm, so, si, sh, ce, ca, td, wa, kp, (qFn s la), bf1, oo1, bo1, pw1, ow1, tr), ?_, ?_, ?_⟩
      · show Ev ab_Z0 5 98 [.ref 0, .int (nI a1k)] (ww im lf s d k ls rf rz ra rn rq lt m1 m2 m3 m4 bd fc hd sz el s g fm hm so si sh ce ca td wa kp la bf oo bo pw ow tr) (some (.int (nI a1k)), (ww im lf s d k ls rf rz ra rn rq lt m1 m2 m3 m4 bd fc hd sz el s g fm hm so si sh ce ca td wa kp la bf oo bo pw ow tr))
        refine Ef.in (md := mX5_run) (L := [some (.ref 0), some (.int (nI a1k)), none, none]) rfl (Nat.le_of_ble_eq_true rfl) rfl ?_
        refine E_iload_n rfl rfl ?_
        refine E_iconst (x := (-1)) rfl (by decide) ?_
        refine E_ic (t := 16) (b := false) rfl rfl ((cn_lt (nI_toInt (by omega)) (by decide : (-1 : Int32).toInt = -1)).trans (decide_eq_false (by omega))) ?_
        refine E_iload_n rfl rfl ?_
        refine E_aload_n rfl rfl ?_
        refine E_getfield (v := .ref 1) rfl w0 rfl (by decide) rfl ?_
        refine E_getfield (v := .int (nI (qM s))) rfl w1 rfl (by decide) rfl ?_
        refine E_ic (t := 22) (b := true) rfl rfl ((cn_lt (nI_toInt (by omega)) (nI_toInt (by omega))).trans (decide_eq_true (by omega))) ?_
        refine E_iload_n rfl rfl ?_
        refine E_iconst (x := (-1)) rfl (by decide) ?_
        refine E_ic (t := 29) (b := false) rfl rfl ((cn_eq (nI_toInt (by omega)) (by decide : (-1 : Int32).toInt = -1)).trans (decide_eq_false (by omega))) ?_
        refine E_iload_n rfl rfl ?_
        exact E_iret rfl rfl
      · show Ev ab_Z0 40 185 [.ref 65, .int (nI a1k)] (ww im lf s d k ls rf rz ra rn rq lt m1 m2 m3 m4 bd fc hd sz el s g fm hm so si sh ce ca td wa kp la bf oo bo pw ow tr) (some (.int (nI a1k)), (ww im lf s d k ls rf rz ra rn rq lt m1 m2 m3 m4 bd fc hd sz el s g1 fm hm so si sh ce ca td wa kp (qFn s la) bf1 oo1 bo1 pw1 ow1 tr))
        refine Ev.vi (fd1.2 _ (by omega)) ?_
        refine Ef.in (md := mX6_run) (L := [some (.ref 65), some (.int (nI a1k))]) rfl (Nat.le_of_ble_eq_true rfl) rfl ?_
        refine E_aload_n rfl rfl ?_
        refine E_iload_n rfl rfl ?_
        refine E_iconst (x := (-1)) rfl (by decide) ?_
        refine E_aload_n rfl rfl ?_
        refine E_getfield (v := .int (nI (qM s))) rfl w65 rfl (by decide) rfl ?_
        refine E_iconst (x := nI 1) rfl (by decide) ?_
        refine E_isub (z := nI ((qM s) - 1)) rfl (pk_sub (by omega)) ?_
        refine E_callV (v := some (.int (nI 1))) (As := [.ref 65, .int (nI a1k), .int (-1), .int (nI ((qM s) - 1))]) (r0 := []) (cs2 := (ww im lf s d k ls rf rz ra rn rq lt m1 m2 m3 m4 bd fc hd sz el s g fm hm so si sh ce ca td wa kp la bf oo bo pw ow tr)) rfl rfl rfl (Nat.le_of_ble_eq_true rfl) rfl (ab_rvOf w65 rfl) (L122_X6_isFrom (by omega) (by omega) (by omega) (by omega)) (by decide) rfl ?_
        refine E_if (t := 22) (b := true) rfl rfl (by decide) ?_
        refine E_aload_n rfl rfl ?_
        refine E_aload_n rfl rfl ?_
        refine E_getfield (v := .ref 88) rfl w65 rfl (by decide) rfl ?_
        refine E_iconst (x := nI 0) rfl (by decide) ?_
        refine E_callV (v := none) (As := [.ref 65, .ref 88, .int (nI 0)]) (r0 := []) (cs2 := (ww im lf s d k ls rf rz ra rn rq lt m1 m2 m3 m4 bd fc hd sz el s g fm hm so si sh ce ca td wa kp (qFn s la) bf oo bo pw ow tr)) rfl rfl rfl (Nat.le_of_ble_eq_true rfl) rfl (ab_rvOf w65 rfl) (m_allO_88 I.ln (lr.2.2.2.2.2.2.2.2.2.2.2.2.2.2.1)) (by decide) w_lens ?_
        refine E_aload_n rfl rfl ?_
        refine E_iconst (x := (-1)) rfl (by decide) ?_
        refine E_putfield (cs2 := (ww im lf s d k ls rf rz ra rn rq lt m1 m2 m3 m4 bd fc hd sz el s (fUp g 42 (-1)) fm hm so si sh ce ca td wa kp (qFn s la) bf oo bo pw ow tr)) rfl w65 rfl (by decide) (Nat.le_of_ble_eq_true rfl) rfl rfl rfl w_pt65_42 ?_
        refine E_aload_n rfl rfl ?_
        refine E_iconst (x := nI 0) rfl (by decide) ?_
        refine E_iconst (x := nI 1) rfl (by decide) ?_
        refine E_aload_n rfl rfl ?_
        refine E_getfield (v := .int (nI (qM s))) rfl w65 rfl (by decide) rfl ?_
        refine E_ishl (z := nI (2 ^ qM s)) rfl (ab_shl (by omega)) ?_
        refine E_iconst (x := nI 1) rfl (by decide) ?_
        refine E_isub (z := nI ((2 ^ qM s) - 1)) rfl (pk_sub (by omega)) ?_
        refine E_iconst (x := nI 0) rfl (by decide) ?_
        refine E_callV (v := none) (As := [.ref 65, .int (nI 0), .int (nI ((2 ^ qM s) - 1)), .int (nI 0)]) (r0 := []) (cs2 := (ww im lf s d k ls rf rz ra rn rq lt m1 m2 m3 m4 bd fc hd sz el t1 g1 fm hm so si sh ce ca td wa kp (qFn s la) bf1 oo1 bo1 pw1 ow1 tr)) rfl rfl rfl (Nat.le_of_ble_eq_true rfl) rfl (ab_rvOf w65 rfl) er (by decide) w_lens ?_
        refine E_aload_n rfl rfl ?_
        refine E_aload_n rfl rfl ?_
        refine E_getfield (v := .ref 88) rfl w65 rfl (by decide) rfl ?_
        refine E_iconst (x := nI 1) rfl (by decide) ?_
        refine E_callV (v := none) (As := [.ref 65, .ref 88, .int (nI 1)]) (r0 := []) (cs2 := (ww im lf s d k ls rf rz ra rn rq lt m1 m2 m3 m4 bd fc hd sz el s g1 fm hm so si sh ce ca td wa kp (qFn s la) bf1 oo1 bo1 pw1 ow1 tr)) rfl rfl rfl (Nat.le_of_ble_eq_true rfl) rfl (ab_rvOf w65 rfl) (m_allB_88 I1.ln I.ln (lr.2.2.2.2.2.2.2.2.2.2.2.2.2.2.1) rfl) (by decide) w_lens ?_
        refine E_iload_n rfl rfl ?_
        refine E_iconst (x := (-1)) rfl (by decide) ?_
        refine E_ic (t := 71) (b := true) rfl rfl ((cn_ne (nI_toInt (by omega)) (by decide : (-1 : Int32).toInt = -1)).trans (decide_eq_true (by omega))) ?_
        refine E_aload_n rfl rfl ?_
        refine E_getfield (v := .ref 91) rfl w65 rfl (by decide) rfl ?_
        refine E_iload_n rfl rfl ?_
        refine E_ialI (l := bo1) (v := bo1.getD a1k 0) rfl w91 (by omega) (by omega) rfl ?_
        exact E_iret rfl rfl
      · exact ⟨I, rfl, (hf.trans (gg1 6 (by decide) (by decide) (by decide)).symm), iQ, (by rw [gg1 48 (by decide) (by decide) (by decide)]; exact iM), (by rw [gg1 47 (by decide) (by decide) (by decide)]; exact iT), iS, l_el, (lr.1), (lr.2.1), (lr.2.2.1), (lr.2.2.2.1), (lr.2.2.2.2.1), (lr.2.2.2.2.2.1), (lr.2.2.2.2.2.2.1), (lr.2.2.2.2.2.2.2.1), (lr.2.2.2.2.2.2.2.2.1), (lr.2.2.2.2.2.2.2.2.2.1), (lr.2.2.2.2.2.2.2.2.2.2.1), (lr.2.2.2.2.2.2.2.2.2.2.2.1), (lr.2.2.2.2.2.2.2.2.2.2.2.2.1), (lr.2.2.2.2.2.2.2.2.2.2.2.2.2.1), (qFn_len I.ln (lr.2.2.2.2.2.2.2.2.2.2.2.2.2.2.1)), n5, n1, n2, n3, n4, (lr.2.2.2.2.2.2.2.2.2.2.2.2.2.2.2.2.2.2.2.2)⟩
    · have hQ1 : (nI (qM s) - nI 1).toInt = ((qM s : Nat) : Int) - ((1 : Nat) : Int) := ab_subI (by omega) (by omega)
      refine ⟨(-5), (im, lf, s, d, k, ls, rf, rz, ra, rn, rq, lt, m1, m2, m3, m4, bd, (fc.set 5 ((fc.getD 5 0) + (nI 1))), hd, sz, el, s, g, fm, hm, so, si, sh, ce, ca, td, wa, kp, la, bf, oo, bo, pw, ow, tr), (im, lf, s, d, k, ls, rf, rz, ra, rn, rq, lt, m1, m2, m3, m4, bd, (fc.set 5 ((fc.getD 5 0) + (nI 1))), hd, sz, el, s, g, (fm.set 5 ((fm.getD 5 0) + (nI 1))), hm, so, si, sh, ce, ca, td, wa, kp, la, bf, oo, bo, pw, ow, tr), ?_, ?_, ?_⟩
      · show Ev ab_Z0 5 98 [.ref 0, .int (nI a1k)] (ww im lf s d k ls rf rz ra rn rq lt m1 m2 m3 m4 bd fc hd sz el s g fm hm so si sh ce ca td wa kp la bf oo bo pw ow tr) (some (.int (-5)), (ww im lf s d k ls rf rz ra rn rq lt m1 m2 m3 m4 bd (fc.set 5 ((fc.getD 5 0) + (nI 1))) hd sz el s g fm hm so si sh ce ca td wa kp la bf oo bo pw ow tr))
        refine Ef.in (md := mX5_run) (L := [some (.ref 0), some (.int (nI a1k)), none, none]) rfl (Nat.le_of_ble_eq_true rfl) rfl ?_
        refine E_iload_n rfl rfl ?_
        refine E_iconst (x := (-1)) rfl (by decide) ?_
        refine E_ic (t := 16) (b := false) rfl rfl ((cn_lt (nI_toInt (by omega)) (by decide : (-1 : Int32).toInt = -1)).trans (decide_eq_false (by omega))) ?_
        refine E_iload_n rfl rfl ?_
        refine E_aload_n rfl rfl ?_
        refine E_getfield (v := .ref 1) rfl w0 rfl (by decide) rfl ?_
        refine E_getfield (v := .int (nI (qM s))) rfl w1 rfl (by decide) rfl ?_
        refine E_ic (t := 22) (b := false) rfl rfl ((cn_lt (nI_toInt (by omega)) (nI_toInt (by omega))).trans (decide_eq_false (by omega))) ?_
        refine E_aload_n rfl rfl ?_
        refine E_iconst (x := nI 5) rfl (by decide) ?_
        refine E_callV (v := some (.int (-5))) (As := [.ref 0, .int (nI 5)]) (r0 := []) (cs2 := (ww im lf s d k ls rf rz ra rn rq lt m1 m2 m3 m4 bd (fc.set 5 ((fc.getD 5 0) + (nI 1))) hd sz el s g fm hm so si sh ce ca td wa kp la bf oo bo pw ow tr)) rfl rfl rfl (Nat.le_of_ble_eq_true rfl) rfl (ab_rvOf w0 rfl) (L18_X5_refuse (by omega)) (by decide) w_lens ?_
        exact E_iret rfl rfl
      · show Ev ab_Z0 40 185 [.ref 65, .int (nI a1k)] (ww im lf s d k ls rf rz ra rn rq lt m1 m2 m3 m4 bd (fc.set 5 ((fc.getD 5 0) + (nI 1))) hd sz el s g fm hm so si sh ce ca td wa kp la bf oo bo pw ow tr) (some (.int (-5)), (ww im lf s d k ls rf rz ra rn rq lt m1 m2 m3 m4 bd (fc.set 5 ((fc.getD 5 0) + (nI 1))) hd sz el s g (fm.set 5 ((fm.getD 5 0) + (nI 1))) hm so si sh ce ca td wa kp la bf oo bo pw ow tr))
        refine Ef.in (md := mX6_run) (L := [some (.ref 65), some (.int (nI a1k))]) rfl (Nat.le_of_ble_eq_true rfl) rfl ?_
        refine E_aload_n rfl rfl ?_
        refine E_iload_n rfl rfl ?_
        refine E_iconst (x := (-1)) rfl (by decide) ?_
        refine E_aload_n rfl rfl ?_
        refine E_getfield (v := .int (nI (qM s))) rfl w65 rfl (by decide) rfl ?_
        refine E_iconst (x := nI 1) rfl (by decide) ?_
        refine E_isub (z := nI (qM s) - nI 1) rfl rfl ?_
        refine E_callV (v := some (.int (nI 0))) (As := [.ref 65, .int (nI a1k), .int (-1), .int (nI (qM s) - nI 1)]) (r0 := []) (cs2 := (ww im lf s d k ls rf rz ra rn rq lt m1 m2 m3 m4 bd (fc.set 5 ((fc.getD 5 0) + (nI 1))) hd sz el s g fm hm so si sh ce ca td wa kp la bf oo bo pw ow tr)) rfl rfl rfl (Nat.le_of_ble_eq_true rfl) rfl (ab_rvOf w65 rfl) (L123_X6_isFrom (by omega) (by omega) (by omega)) (by decide) rfl ?_
        refine E_if (t := 22) (b := false) rfl rfl (by decide) ?_
        refine E_aload_n rfl rfl ?_
        refine E_bipush (x := (-5)) rfl (by decide) ?_
        refine E_callV (v := some (.int (-5))) (As := [.ref 65, .int (-5)]) (r0 := []) (cs2 := (ww im lf s d k ls rf rz ra rn rq lt m1 m2 m3 m4 bd (fc.set 5 ((fc.getD 5 0) + (nI 1))) hd sz el s g (fm.set 5 ((fm.getD 5 0) + (nI 1))) hm so si sh ce ca td wa kp la bf oo bo pw ow tr)) rfl rfl rfl (Nat.le_of_ble_eq_true rfl) rfl (ab_rvOf w65 rfl) (L19_X6_no (by omega)) (by decide) w_lens ?_
        exact E_iret rfl rfl
      · exact ⟨I, rfl, hf, iQ, iM, iT, iS, l_el, (lr.1), (lr.2.1), (lr.2.2.1), (by simp only [List.length_set]; exact (lr.2.2.2.1)), (by simp only [List.length_set]; exact (lr.2.2.2.2.1)), (lr.2.2.2.2.2.1), (lr.2.2.2.2.2.2.1), (lr.2.2.2.2.2.2.2.1), (lr.2.2.2.2.2.2.2.2.1), (lr.2.2.2.2.2.2.2.2.2.1), (lr.2.2.2.2.2.2.2.2.2.2.1), (lr.2.2.2.2.2.2.2.2.2.2.2.1), (lr.2.2.2.2.2.2.2.2.2.2.2.2.1), (lr.2.2.2.2.2.2.2.2.2.2.2.2.2.1), (lr.2.2.2.2.2.2.2.2.2.2.2.2.2.2.1), (lr.2.2.2.2.2.2.2.2.2.2.2.2.2.2.2.1), (lr.2.2.2.2.2.2.2.2.2.2.2.2.2.2.2.2.1), (lr.2.2.2.2.2.2.2.2.2.2.2.2.2.2.2.2.2.1), (lr.2.2.2.2.2.2.2.2.2.2.2.2.2.2.2.2.2.2.1), (lr.2.2.2.2.2.2.2.2.2.2.2.2.2.2.2.2.2.2.2.1), (lr.2.2.2.2.2.2.2.2.2.2.2.2.2.2.2.2.2.2.2.2)⟩
  · by_cases f1 : a1.toInt + 1 < 0
    · have hQ1 : (nI (qM s) - nI 1).toInt = ((qM s : Nat) : Int) - ((1 : Nat) : Int) := ab_subI (by omega) (by omega)
      refine ⟨(-5), (im, lf, s, d, k, ls, rf, rz, ra, rn, rq, lt, m1, m2, m3, m4, bd, (fc.set 5 ((fc.getD 5 0) + (nI 1))), hd, sz, el, s, g, fm, hm, so, si, sh, ce, ca, td, wa, kp, la, bf, oo, bo, pw, ow, tr), (im, lf, s, d, k, ls, rf, rz, ra, rn, rq, lt, m1, m2, m3, m4, bd, (fc.set 5 ((fc.getD 5 0) + (nI 1))), hd, sz, el, s, g, (fm.set 5 ((fm.getD 5 0) + (nI 1))), hm, so, si, sh, ce, ca, td, wa, kp, la, bf, oo, bo, pw, ow, tr), ?_, ?_, ?_⟩
      · show Ev ab_Z0 5 98 [.ref 0, .int a1] (ww im lf s d k ls rf rz ra rn rq lt m1 m2 m3 m4 bd fc hd sz el s g fm hm so si sh ce ca td wa kp la bf oo bo pw ow tr) (some (.int (-5)), (ww im lf s d k ls rf rz ra rn rq lt m1 m2 m3 m4 bd (fc.set 5 ((fc.getD 5 0) + (nI 1))) hd sz el s g fm hm so si sh ce ca td wa kp la bf oo bo pw ow tr))
        refine Ef.in (md := mX5_run) (L := [some (.ref 0), some (.int a1), none, none]) rfl (Nat.le_of_ble_eq_true rfl) rfl ?_
        refine E_iload_n rfl rfl ?_
        refine E_iconst (x := (-1)) rfl (by decide) ?_
        refine E_ic (t := 16) (b := true) rfl rfl ((cn_lt rfl (by decide : (-1 : Int32).toInt = -1)).trans (decide_eq_true (by omega))) ?_
        refine E_aload_n rfl rfl ?_
        refine E_iconst (x := nI 5) rfl (by decide) ?_
        refine E_callV (v := some (.int (-5))) (As := [.ref 0, .int (nI 5)]) (r0 := []) (cs2 := (ww im lf s d k ls rf rz ra rn rq lt m1 m2 m3 m4 bd (fc.set 5 ((fc.getD 5 0) + (nI 1))) hd sz el s g fm hm so si sh ce ca td wa kp la bf oo bo pw ow tr)) rfl rfl rfl (Nat.le_of_ble_eq_true rfl) rfl (ab_rvOf w0 rfl) (L18_X5_refuse (by omega)) (by decide) w_lens ?_
        exact E_iret rfl rfl
      · show Ev ab_Z0 40 185 [.ref 65, .int a1] (ww im lf s d k ls rf rz ra rn rq lt m1 m2 m3 m4 bd (fc.set 5 ((fc.getD 5 0) + (nI 1))) hd sz el s g fm hm so si sh ce ca td wa kp la bf oo bo pw ow tr) (some (.int (-5)), (ww im lf s d k ls rf rz ra rn rq lt m1 m2 m3 m4 bd (fc.set 5 ((fc.getD 5 0) + (nI 1))) hd sz el s g (fm.set 5 ((fm.getD 5 0) + (nI 1))) hm so si sh ce ca td wa kp la bf oo bo pw ow tr))
        refine Ef.in (md := mX6_run) (L := [some (.ref 65), some (.int a1)]) rfl (Nat.le_of_ble_eq_true rfl) rfl ?_
        refine E_aload_n rfl rfl ?_
        refine E_iload_n rfl rfl ?_
        refine E_iconst (x := (-1)) rfl (by decide) ?_
        refine E_aload_n rfl rfl ?_
        refine E_getfield (v := .int (nI (qM s))) rfl w65 rfl (by decide) rfl ?_
        refine E_iconst (x := nI 1) rfl (by decide) ?_
        refine E_isub (z := nI (qM s) - nI 1) rfl rfl ?_
        refine E_callV (v := some (.int (nI 0))) (As := [.ref 65, .int a1, .int (-1), .int (nI (qM s) - nI 1)]) (r0 := []) (cs2 := (ww im lf s d k ls rf rz ra rn rq lt m1 m2 m3 m4 bd (fc.set 5 ((fc.getD 5 0) + (nI 1))) hd sz el s g fm hm so si sh ce ca td wa kp la bf oo bo pw ow tr)) rfl rfl rfl (Nat.le_of_ble_eq_true rfl) rfl (ab_rvOf w65 rfl) (L124_X6_isFrom (by omega) (by omega)) (by decide) rfl ?_
        refine E_if (t := 22) (b := false) rfl rfl (by decide) ?_
        refine E_aload_n rfl rfl ?_
        refine E_bipush (x := (-5)) rfl (by decide) ?_
        refine E_callV (v := some (.int (-5))) (As := [.ref 65, .int (-5)]) (r0 := []) (cs2 := (ww im lf s d k ls rf rz ra rn rq lt m1 m2 m3 m4 bd (fc.set 5 ((fc.getD 5 0) + (nI 1))) hd sz el s g (fm.set 5 ((fm.getD 5 0) + (nI 1))) hm so si sh ce ca td wa kp la bf oo bo pw ow tr)) rfl rfl rfl (Nat.le_of_ble_eq_true rfl) rfl (ab_rvOf w65 rfl) (L19_X6_no (by omega)) (by decide) w_lens ?_
        exact E_iret rfl rfl
      · exact ⟨I, rfl, hf, iQ, iM, iT, iS, l_el, (lr.1), (lr.2.1), (lr.2.2.1), (by simp only [List.length_set]; exact (lr.2.2.2.1)), (by simp only [List.length_set]; exact (lr.2.2.2.2.1)), (lr.2.2.2.2.2.1), (lr.2.2.2.2.2.2.1), (lr.2.2.2.2.2.2.2.1), (lr.2.2.2.2.2.2.2.2.1), (lr.2.2.2.2.2.2.2.2.2.1), (lr.2.2.2.2.2.2.2.2.2.2.1), (lr.2.2.2.2.2.2.2.2.2.2.2.1), (lr.2.2.2.2.2.2.2.2.2.2.2.2.1), (lr.2.2.2.2.2.2.2.2.2.2.2.2.2.1), (lr.2.2.2.2.2.2.2.2.2.2.2.2.2.2.1), (lr.2.2.2.2.2.2.2.2.2.2.2.2.2.2.2.1), (lr.2.2.2.2.2.2.2.2.2.2.2.2.2.2.2.2.1), (lr.2.2.2.2.2.2.2.2.2.2.2.2.2.2.2.2.2.1), (lr.2.2.2.2.2.2.2.2.2.2.2.2.2.2.2.2.2.2.1), (lr.2.2.2.2.2.2.2.2.2.2.2.2.2.2.2.2.2.2.2.1), (lr.2.2.2.2.2.2.2.2.2.2.2.2.2.2.2.2.2.2.2.2)⟩
    · have hQ1 : (nI (qM s) - nI 1).toInt = ((qM s : Nat) : Int) - ((1 : Nat) : Int) := ab_subI (by omega) (by omega)
      have hp2 := Nat.two_pow_pos (qM s)
      obtain ⟨t1, g1, oo1, bo1, pw1, ow1, bf1, er, hO⟩ : ∃ (t1 : ab_q) (g1 : Nat → Int32) (oo1 bo1 pw1 ow1 bf1 : List Int32), Ev ab_Z0 14 184 [.ref 65, .int (nI 0), .int (nI ((2 ^ qM s) - 1)), .int (nI 0)] (ww im lf s d k ls rf rz ra rn rq lt m1 m2 m3 m4 bd fc hd sz el s (fUp g 42 (-1)) fm hm so si sh ce ca td wa kp (qFn s la) bf oo bo pw ow tr) (none, (ww im lf s d k ls rf rz ra rn rq lt m1 m2 m3 m4 bd fc hd sz el t1 g1 fm hm so si sh ce ca td wa kp (qFn s la) bf1 oo1 bo1 pw1 ow1 tr)) ∧ rnO s 0 s t1 (fUp g 42 (-1)) g1 oo pw ow oo1 bo1 pw1 ow1 bf1 := rn_go I ⟨(lr.2.2.2.2.2.2.2.2.2.2.2.2.2.2.2.2.1), (lr.2.2.2.2.2.2.2.2.2.2.2.2.2.2.2.2.2.1), (lr.2.2.2.2.2.2.2.2.2.2.2.2.2.2.2.2.2.2.1), (lr.2.2.2.2.2.2.2.2.2.2.2.2.2.2.2.2.2.2.2.1), (lr.2.2.2.2.2.2.2.2.2.2.2.2.2.2.2.1)⟩
      obtain ⟨-, I1, -, -, gg1, fd1, ⟨n1, n2, n3, n4, n5⟩, -, -, -⟩ := hO
      refine ⟨(nI (rnC s (qM s))), (im, lf, s, d, k, ls, rf, rz, ra, rn, rq, lt, m1, m2, m3, m4, bd, fc, hd, sz, el, s, g, fm, hm, so, si, sh, ce, ca, td, wa, kp, la, bf, oo, bo, pw, ow, tr), (im, lf, s, d, k, ls, rf, rz, ra, rn, rq, lt, m1, m2, m3, m4, bd, fc, hd, sz, el, s, g1, fm, hm, so, si, sh, ce, ca, td, wa, kp, (qFn s la), bf1, oo1, bo1, pw1, ow1, tr), ?_, ?_, ?_⟩
      · show Ev ab_Z0 5 98 [.ref 0, .int a1] (ww im lf s d k ls rf rz ra rn rq lt m1 m2 m3 m4 bd fc hd sz el s g fm hm so si sh ce ca td wa kp la bf oo bo pw ow tr) (some (.int (nI (rnC s (qM s)))), (ww im lf s d k ls rf rz ra rn rq lt m1 m2 m3 m4 bd fc hd sz el s g fm hm so si sh ce ca td wa kp la bf oo bo pw ow tr))
        refine Ef.in (md := mX5_run) (L := [some (.ref 0), some (.int a1), none, none]) rfl (Nat.le_of_ble_eq_true rfl) rfl ?_
        refine E_iload_n rfl rfl ?_
        refine E_iconst (x := (-1)) rfl (by decide) ?_
        refine E_ic (t := 16) (b := false) rfl rfl ((cn_lt rfl (by decide : (-1 : Int32).toInt = -1)).trans (decide_eq_false (by omega))) ?_
        refine E_iload_n rfl rfl ?_
        refine E_aload_n rfl rfl ?_
        refine E_getfield (v := .ref 1) rfl w0 rfl (by decide) rfl ?_
        refine E_getfield (v := .int (nI (qM s))) rfl w1 rfl (by decide) rfl ?_
        refine E_ic (t := 22) (b := true) rfl rfl ((cn_lt rfl (nI_toInt (by omega))).trans (decide_eq_true (by omega))) ?_
        refine E_iload_n rfl rfl ?_
        refine E_iconst (x := (-1)) rfl (by decide) ?_
        refine E_ic (t := 29) (b := true) rfl rfl ((cn_eq rfl (by decide : (-1 : Int32).toInt = -1)).trans (decide_eq_true (by omega))) ?_
        refine E_iconst (x := nI 0) rfl (by decide) ?_
        refine E_istore_n (L2 := [some (.ref 0), some (.int a1), some (.int (nI 0)), none]) rfl rfl ?_
        refine E_iconst (x := nI 0) rfl (by decide) ?_
        refine E_istore_n (L2 := [some (.ref 0), some (.int a1), some (.int (nI 0)), some (.int (nI 0))]) rfl rfl ?_
        exact rn_c I (qM s) 0 (Nat.zero_add _)
      · show Ev ab_Z0 40 185 [.ref 65, .int a1] (ww im lf s d k ls rf rz ra rn rq lt m1 m2 m3 m4 bd fc hd sz el s g fm hm so si sh ce ca td wa kp la bf oo bo pw ow tr) (some (.int (nI (rnC s (qM s)))), (ww im lf s d k ls rf rz ra rn rq lt m1 m2 m3 m4 bd fc hd sz el s g1 fm hm so si sh ce ca td wa kp (qFn s la) bf1 oo1 bo1 pw1 ow1 tr))
        refine Ev.vi fd1.1 ?_
        refine Ef.in (md := mX6_run) (L := [some (.ref 65), some (.int a1)]) rfl (Nat.le_of_ble_eq_true rfl) rfl ?_
        refine E_aload_n rfl rfl ?_
        refine E_iload_n rfl rfl ?_
        refine E_iconst (x := (-1)) rfl (by decide) ?_
        refine E_aload_n rfl rfl ?_
        refine E_getfield (v := .int (nI (qM s))) rfl w65 rfl (by decide) rfl ?_
        refine E_iconst (x := nI 1) rfl (by decide) ?_
        refine E_isub (z := nI (qM s) - nI 1) rfl rfl ?_
        refine E_callV (v := some (.int (nI 1))) (As := [.ref 65, .int a1, .int (-1), .int (nI (qM s) - nI 1)]) (r0 := []) (cs2 := (ww im lf s d k ls rf rz ra rn rq lt m1 m2 m3 m4 bd fc hd sz el s g fm hm so si sh ce ca td wa kp la bf oo bo pw ow tr)) rfl rfl rfl (Nat.le_of_ble_eq_true rfl) rfl (ab_rvOf w65 rfl) (L125_X6_isFrom (by omega) (by omega) (by omega)) (by decide) rfl ?_
        refine E_if (t := 22) (b := true) rfl rfl (by decide) ?_
        refine E_aload_n rfl rfl ?_
        refine E_aload_n rfl rfl ?_
        refine E_getfield (v := .ref 88) rfl w65 rfl (by decide) rfl ?_
        refine E_iconst (x := nI 0) rfl (by decide) ?_
        refine E_callV (v := none) (As := [.ref 65, .ref 88, .int (nI 0)]) (r0 := []) (cs2 := (ww im lf s d k ls rf rz ra rn rq lt m1 m2 m3 m4 bd fc hd sz el s g fm hm so si sh ce ca td wa kp (qFn s la) bf oo bo pw ow tr)) rfl rfl rfl (Nat.le_of_ble_eq_true rfl) rfl (ab_rvOf w65 rfl) (m_allO_88 I.ln (lr.2.2.2.2.2.2.2.2.2.2.2.2.2.2.1)) (by decide) w_lens ?_
        refine E_aload_n rfl rfl ?_
        refine E_iconst (x := (-1)) rfl (by decide) ?_
        refine E_putfield (cs2 := (ww im lf s d k ls rf rz ra rn rq lt m1 m2 m3 m4 bd fc hd sz el s (fUp g 42 (-1)) fm hm so si sh ce ca td wa kp (qFn s la) bf oo bo pw ow tr)) rfl w65 rfl (by decide) (Nat.le_of_ble_eq_true rfl) rfl rfl rfl w_pt65_42 ?_
        refine E_aload_n rfl rfl ?_
        refine E_iconst (x := nI 0) rfl (by decide) ?_
        refine E_iconst (x := nI 1) rfl (by decide) ?_
        refine E_aload_n rfl rfl ?_
        refine E_getfield (v := .int (nI (qM s))) rfl w65 rfl (by decide) rfl ?_
        refine E_ishl (z := nI (2 ^ qM s)) rfl (ab_shl (by omega)) ?_
        refine E_iconst (x := nI 1) rfl (by decide) ?_
        refine E_isub (z := nI ((2 ^ qM s) - 1)) rfl (pk_sub (by omega)) ?_
        refine E_iconst (x := nI 0) rfl (by decide) ?_
        refine E_callV (v := none) (As := [.ref 65, .int (nI 0), .int (nI ((2 ^ qM s) - 1)), .int (nI 0)]) (r0 := []) (cs2 := (ww im lf s d k ls rf rz ra rn rq lt m1 m2 m3 m4 bd fc hd sz el t1 g1 fm hm so si sh ce ca td wa kp (qFn s la) bf1 oo1 bo1 pw1 ow1 tr)) rfl rfl rfl (Nat.le_of_ble_eq_true rfl) rfl (ab_rvOf w65 rfl) er (by decide) w_lens ?_
        refine E_aload_n rfl rfl ?_
        refine E_aload_n rfl rfl ?_
        refine E_getfield (v := .ref 88) rfl w65 rfl (by decide) rfl ?_
        refine E_iconst (x := nI 1) rfl (by decide) ?_
        refine E_callV (v := none) (As := [.ref 65, .ref 88, .int (nI 1)]) (r0 := []) (cs2 := (ww im lf s d k ls rf rz ra rn rq lt m1 m2 m3 m4 bd fc hd sz el s g1 fm hm so si sh ce ca td wa kp (qFn s la) bf1 oo1 bo1 pw1 ow1 tr)) rfl rfl rfl (Nat.le_of_ble_eq_true rfl) rfl (ab_rvOf w65 rfl) (m_allB_88 I1.ln I.ln (lr.2.2.2.2.2.2.2.2.2.2.2.2.2.2.1) rfl) (by decide) w_lens ?_
        refine E_iload_n rfl rfl ?_
        refine E_iconst (x := (-1)) rfl (by decide) ?_
        refine E_ic (t := 71) (b := false) rfl rfl ((cn_ne rfl (by decide : (-1 : Int32).toInt = -1)).trans (decide_eq_false (by omega))) ?_
        refine E_aload_n rfl rfl ?_
        refine E_getfield (v := .int (g1 42)) rfl w65 rfl (by decide) rfl ?_
        refine E_goto (t := 77) rfl rfl ?_
        exact E_iret rfl rfl
      · exact ⟨I, rfl, (hf.trans (gg1 6 (by decide) (by decide) (by decide)).symm), iQ, (by rw [gg1 48 (by decide) (by decide) (by decide)]; exact iM), (by rw [gg1 47 (by decide) (by decide) (by decide)]; exact iT), iS, l_el, (lr.1), (lr.2.1), (lr.2.2.1), (lr.2.2.2.1), (lr.2.2.2.2.1), (lr.2.2.2.2.2.1), (lr.2.2.2.2.2.2.1), (lr.2.2.2.2.2.2.2.1), (lr.2.2.2.2.2.2.2.2.1), (lr.2.2.2.2.2.2.2.2.2.1), (lr.2.2.2.2.2.2.2.2.2.2.1), (lr.2.2.2.2.2.2.2.2.2.2.2.1), (lr.2.2.2.2.2.2.2.2.2.2.2.2.1), (lr.2.2.2.2.2.2.2.2.2.2.2.2.2.1), (qFn_len I.ln (lr.2.2.2.2.2.2.2.2.2.2.2.2.2.2.1)), n5, n1, n2, n3, n4, (lr.2.2.2.2.2.2.2.2.2.2.2.2.2.2.2.2.2.2.2.2)⟩
