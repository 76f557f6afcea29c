/-! status; by program (wip/tools/op.py) -/
section LM
variable {im : Int32} {lf : Int32} {s : ab_q} {d : ab_q} {k : ab_q} {ls : List Int32} {rf : Int32} {rz : Int32} {ra : Int32} {rn : Int32} {rq : ab_q} {lt : List Int32} {m1 : Int32} {m2 : Int32} {m3 : Int32} {m4 : Int32} {bd : List Int32} {fc : List Int32} {hd : Nat → Int32} {sz : Nat → Int32} {el : Nat → List Int64} {t : ab_q} {g : Nat → Int32} {fm : List Int32} {hm : List Nat} {so : List Nat} {si : List Nat} {sh : List Int32} {ce : List Int64} {ca : List Int64} {td : List Int32} {wa : List Int32} {kp : List Int32} {la : List Int32} {bf : List Int32} {oo : List Int32} {bo : List Int32} {pw : List Int32} {ow : List Int32} {tr : List Int32}
theorem L92_X5_isFrom {x0 : Nat} (h0 : x0 < 2147483648) (h1 : x0 < 11) : Ev ab_Z0 1 115 [.int (nI x0), .int (nI 11), .int (nI 17)] (ww im lf s d k ls rf rz ra rn rq lt m1 m2 m3 m4 bd fc hd sz el t g fm hm so si sh ce ca td wa kp la bf oo bo pw ow tr) (some (.int (nI 0)), (ww im lf s d k ls rf rz ra rn rq lt m1 m2 m3 m4 bd fc hd sz el t g fm hm so si sh ce ca td wa kp la bf oo bo pw ow tr)) := by
  refine Ef.in (md := mX5_isFrom) (L := [some (.int (nI x0)), some (.int (nI 11)), some (.int (nI 17))]) rfl (Nat.le_of_ble_eq_true rfl) rfl ?_
  refine E_iload_n at_X5_isFrom_0 rfl ?_
  refine E_iload_n at_X5_isFrom_1 rfl ?_
  refine E_ic (t := 14) (b := true) at_X5_isFrom_2 rfl ((cn_lt (nI_toInt (by omega)) (nI_toInt (by omega))).trans (decide_eq_true (by omega))) ?_
  refine E_iconst (x := nI 0) at_X5_isFrom_14 (by decide) ?_
  exact E_iret at_X5_isFrom_15 rfl
theorem L93_X5_isFrom {x0 : Nat} (h0 : x0 < 2147483648) (h1 : ¬ (x0 < 11)) (h2 : 17 < x0) : Ev ab_Z0 1 115 [.int (nI x0), .int (nI 11), .int (nI 17)] (ww im lf s d k ls rf rz ra rn rq lt m1 m2 m3 m4 bd fc hd sz el t g fm hm so si sh ce ca td wa kp la bf oo bo pw ow tr) (some (.int (nI 0)), (ww im lf s d k ls rf rz ra rn rq lt m1 m2 m3 m4 bd fc hd sz el t g fm hm so si sh ce ca td wa kp la bf oo bo pw ow tr)) := by
  refine Ef.in (md := mX5_isFrom) (L := [some (.int (nI x0)), some (.int (nI 11)), some (.int (nI 17))]) rfl (Nat.le_of_ble_eq_true rfl) rfl ?_
  refine E_iload_n at_X5_isFrom_0 rfl ?_
  refine E_iload_n at_X5_isFrom_1 rfl ?_
  refine E_ic (t := 14) (b := false) at_X5_isFrom_2 rfl ((cn_lt (nI_toInt (by omega)) (nI_toInt (by omega))).trans (decide_eq_false (by omega))) ?_
  refine E_iload_n at_X5_isFrom_5 rfl ?_
  refine E_iload_n at_X5_isFrom_6 rfl ?_
  refine E_ic (t := 14) (b := true) at_X5_isFrom_7 rfl ((cn_gt (nI_toInt (by omega)) (nI_toInt (by omega))).trans (decide_eq_true (by omega))) ?_
  refine E_iconst (x := nI 0) at_X5_isFrom_14 (by decide) ?_
  exact E_iret at_X5_isFrom_15 rfl
theorem L94_X5_isFrom {x0 : Nat} (h0 : x0 < 2147483648) (h1 : ¬ (x0 < 11)) (h2 : ¬ (17 < x0)) : Ev ab_Z0 1 115 [.int (nI x0), .int (nI 11), .int (nI 17)] (ww im lf s d k ls rf rz ra rn rq lt m1 m2 m3 m4 bd fc hd sz el t g fm hm so si sh ce ca td wa kp la bf oo bo pw ow tr) (some (.int (nI 1)), (ww im lf s d k ls rf rz ra rn rq lt m1 m2 m3 m4 bd fc hd sz el t g fm hm so si sh ce ca td wa kp la bf oo bo pw ow tr)) := by
  refine Ef.in (md := mX5_isFrom) (L := [some (.int (nI x0)), some (.int (nI 11)), some (.int (nI 17))]) rfl (Nat.le_of_ble_eq_true rfl) rfl ?_
  refine E_iload_n at_X5_isFrom_0 rfl ?_
  refine E_iload_n at_X5_isFrom_1 rfl ?_
  refine E_ic (t := 14) (b := false) at_X5_isFrom_2 rfl ((cn_lt (nI_toInt (by omega)) (nI_toInt (by omega))).trans (decide_eq_false (by omega))) ?_
  refine E_iload_n at_X5_isFrom_5 rfl ?_
  refine E_iload_n at_X5_isFrom_6 rfl ?_
  refine E_ic (t := 14) (b := false) at_X5_isFrom_7 rfl ((cn_gt (nI_toInt (by omega)) (nI_toInt (by omega))).trans (decide_eq_false (by omega))) ?_
  refine E_iconst (x := nI 1) at_X5_isFrom_10 (by decide) ?_
  refine E_goto (t := 15) at_X5_isFrom_11 rfl ?_
  exact E_iret at_X5_isFrom_15 rfl
theorem L95_X5_isFrom {x0 : Int32} (h0 : x0.toInt < 0) (h1 : x0.toInt < 11) : Ev ab_Z0 1 115 [.int x0, .int (nI 11), .int (nI 17)] (ww im lf s d k ls rf rz ra rn rq lt m1 m2 m3 m4 bd fc hd sz el t g fm hm so si sh ce ca td wa kp la bf oo bo pw ow tr) (some (.int (nI 0)), (ww im lf s d k ls rf rz ra rn rq lt m1 m2 m3 m4 bd fc hd sz el t g fm hm so si sh ce ca td wa kp la bf oo bo pw ow tr)) := by
  refine Ef.in (md := mX5_isFrom) (L := [some (.int x0), some (.int (nI 11)), some (.int (nI 17))]) rfl (Nat.le_of_ble_eq_true rfl) rfl ?_
  refine E_iload_n at_X5_isFrom_0 rfl ?_
  refine E_iload_n at_X5_isFrom_1 rfl ?_
  refine E_ic (t := 14) (b := true) at_X5_isFrom_2 rfl ((cn_lt rfl (nI_toInt (by omega))).trans (decide_eq_true (by omega))) ?_
  refine E_iconst (x := nI 0) at_X5_isFrom_14 (by decide) ?_
  exact E_iret at_X5_isFrom_15 rfl
end LM
set_option maxHeartbeats 4000000 in
theorem op_status (x : St) (hx : wI x) (a1 : Int32) : ∃ (r q : Int32) (x1 x2 : St), Ev ab_Z0 3 114 [.ref 0, .int a1] (wt x) (some (.int r), wt x1) ∧ Ev ab_Z0 3 212 [.ref 65, .int a1] (wt x1) (some (.int q), wt x2) ∧ wI x2 := by
  obtain ⟨im, lf, s, d, k, ls, rf, rz, ra, rn, rq, lt, m1, m2, m3, m4, bd, fc, hd, sz, el, t, g, fm, hm, so, si, sh, ce, ca, td, wa, kp, la, bf, oo, bo, pw, ow, tr⟩ := x
  obtain ⟨I, ts, hf, iQ, iM, iT, iS, l_el, l_ls, l_lt, l_bd, l_fc, l_fm, l_hm, l_so, l_si, l_sh, l_ce, l_ca, l_td, l_wa, l_kp, l_la, l_bf, l_oo, l_bo, l_pw, l_ow, l_tr⟩ := hx
  subst ts
  obtain ⟨⟨i0, i1, i2, i3⟩, ⟨i4, i5, i6, i7, i8⟩, ⟨i9, i10⟩, I1, I2, I3, I4⟩ := id I
  obtain ⟨⟨d0, d1, d2, d3, d4, d5, d6, d7, d8⟩, ⟨k0, k1, k2, k3, k4, k5, k6, k7, k8⟩, ⟨r0, r1, r2, r3, r4, r5, r6, r7, r8⟩⟩ := iQ
  rcases ab_int a1 with ⟨a1k, f0, rfl⟩ | f0
  · by_cases f1 : a1k = 0
    · subst f1
      refine ⟨(nI (qN s)), (nI (qN s)), (im, lf, s, d, k, ls, rf, rz, ra, rn, rq, lt, m1, m2, m3, m4, bd, fc, hd, sz, el, s, g, fm, hm, so, si, sh, ce, ca, td, wa, kp, la, bf, oo, bo, pw, ow, tr), (im, lf, s, d, k, ls, rf, rz, ra, rn, rq, lt, m1, m2, m3, m4, bd, fc, hd, sz, el, s, g, fm, hm, so, si, sh, ce, ca, td, wa, kp, la, bf, oo, bo, pw, ow, tr), ?_, ?_, ?_⟩
      · show Ev ab_Z0 3 114 [.ref 0, .int (nI 0)] (ww im lf s d k ls rf rz ra rn rq lt m1 m2 m3 m4 bd fc hd sz el s g fm hm so si sh ce ca td wa kp la bf oo bo pw ow tr) (some (.int (nI (qN s))), (ww im lf s d k ls rf rz ra rn rq lt m1 m2 m3 m4 bd fc hd sz el s g fm hm so si sh ce ca td wa kp la bf oo bo pw ow tr))
        refine Ef.in (md := mX5_status) (L := [some (.ref 0), some (.int (nI 0))]) rfl (Nat.le_of_ble_eq_true rfl) rfl ?_
        refine E_iload_n at_X5_status_0 rfl ?_
        refine E_tsIn (off := 55) (t := 56) at_X5_status_1 (by decide) rfl rfl ?_
        refine E_aload_n rfl rfl ?_
        refine E_getfield (v := .ref 1) rfl w0 rfl (by decide) rfl ?_
        refine E_getfield (v := .int (nI (qN s))) rfl w1 rfl (by decide) rfl ?_
        exact E_iret rfl rfl
      · show Ev ab_Z0 3 212 [.ref 65, .int (nI 0)] (ww im lf s d k ls rf rz ra rn rq lt m1 m2 m3 m4 bd fc hd sz el s g fm hm so si sh ce ca td wa kp la bf oo bo pw ow tr) (some (.int (nI (qN s))), (ww im lf s d k ls rf rz ra rn rq lt m1 m2 m3 m4 bd fc hd sz el s g fm hm so si sh ce ca td wa kp la bf oo bo pw ow tr))
        refine Ef.in (md := mX6_status) (L := [some (.ref 65), some (.int (nI 0))]) rfl (Nat.le_of_ble_eq_true rfl) rfl ?_
        refine E_iload_n at_X6_status_0 rfl ?_
        refine E_bipush (x := nI 11) at_X6_status_1 (by decide) ?_
        refine E_ic (t := 22) (b := true) at_X6_status_3 rfl (by decide) ?_
        refine E_iload_n at_X6_status_22 rfl ?_
        refine E_tsIn (off := 53) (t := 76) at_X6_status_23 (by decide) rfl rfl ?_
        refine E_aload_n rfl rfl ?_
        refine E_getfield (v := .int (nI (qN s))) rfl w65 rfl (by decide) rfl ?_
        exact E_iret rfl rfl
      · exact ⟨I, rfl, hf, ⟨⟨d0, d1, d2, d3, d4, d5, d6, d7, d8⟩, ⟨k0, k1, k2, k3, k4, k5, k6, k7, k8⟩, ⟨r0, r1, r2, r3, r4, r5, r6, r7, r8⟩⟩, iM, iT, iS, l_el, l_ls, l_lt, l_bd, l_fc, l_fm, l_hm, l_so, l_si, l_sh, l_ce, l_ca, l_td, l_wa, l_kp, l_la, l_bf, l_oo, l_bo, l_pw, l_ow, l_tr⟩
    · by_cases f2 : a1k = 1
      · subst f2
        refine ⟨(nI (qM s)), (nI (qM s)), (im, lf, s, d, k, ls, rf, rz, ra, rn, rq, lt, m1, m2, m3, m4, bd, fc, hd, sz, el, s, g, fm, hm, so, si, sh, ce, ca, td, wa, kp, la, bf, oo, bo, pw, ow, tr), (im, lf, s, d, k, ls, rf, rz, ra, rn, rq, lt, m1, m2, m3, m4, bd, fc, hd, sz, el, s, g, fm, hm, so, si, sh, ce, ca, td, wa, kp, la, bf, oo, bo, pw, ow, tr), ?_, ?_, ?_⟩
        · show Ev ab_Z0 3 114 [.ref 0, .int (nI 1)] (ww im lf s d k ls rf rz ra rn rq lt m1 m2 m3 m4 bd fc hd sz el s g fm hm so si sh ce ca td wa kp la bf oo bo pw ow tr) (some (.int (nI (qM s))), (ww im lf s d k ls rf rz ra rn rq lt m1 m2 m3 m4 bd fc hd sz el s g fm hm so si sh ce ca td wa kp la bf oo bo pw ow tr))
          refine Ef.in (md := mX5_status) (L := [some (.ref 0), some (.int (nI 1))]) rfl (Nat.le_of_ble_eq_true rfl) rfl ?_
          refine E_iload_n at_X5_status_0 rfl ?_
          refine E_tsIn (off := 63) (t := 64) at_X5_status_1 (by decide) rfl rfl ?_
          refine E_aload_n rfl rfl ?_
          refine E_getfield (v := .ref 1) rfl w0 rfl (by decide) rfl ?_
          refine E_getfield (v := .int (nI (qM s))) rfl w1 rfl (by decide) rfl ?_
          exact E_iret rfl rfl
        · show Ev ab_Z0 3 212 [.ref 65, .int (nI 1)] (ww im lf s d k ls rf rz ra rn rq lt m1 m2 m3 m4 bd fc hd sz el s g fm hm so si sh ce ca td wa kp la bf oo bo pw ow tr) (some (.int (nI (qM s))), (ww im lf s d k ls rf rz ra rn rq lt m1 m2 m3 m4 bd fc hd sz el s g fm hm so si sh ce ca td wa kp la bf oo bo pw ow tr))
          refine Ef.in (md := mX6_status) (L := [some (.ref 65), some (.int (nI 1))]) rfl (Nat.le_of_ble_eq_true rfl) rfl ?_
          refine E_iload_n at_X6_status_0 rfl ?_
          refine E_bipush (x := nI 11) at_X6_status_1 (by decide) ?_
          refine E_ic (t := 22) (b := true) at_X6_status_3 rfl (by decide) ?_
          refine E_iload_n at_X6_status_22 rfl ?_
          refine E_tsIn (off := 58) (t := 81) at_X6_status_23 (by decide) rfl rfl ?_
          refine E_aload_n rfl rfl ?_
          refine E_getfield (v := .int (nI (qM s))) rfl w65 rfl (by decide) rfl ?_
          exact E_iret rfl rfl
        · exact ⟨I, rfl, hf, ⟨⟨d0, d1, d2, d3, d4, d5, d6, d7, d8⟩, ⟨k0, k1, k2, k3, k4, k5, k6, k7, k8⟩, ⟨r0, r1, r2, r3, r4, r5, r6, r7, r8⟩⟩, iM, iT, iS, l_el, l_ls, l_lt, l_bd, l_fc, l_fm, l_hm, l_so, l_si, l_sh, l_ce, l_ca, l_td, l_wa, l_kp, l_la, l_bf, l_oo, l_bo, l_pw, l_ow, l_tr⟩
      · by_cases f3 : a1k = 2
        · subst f3
          have := qPs_in s 99 (i := qN s) (by omega)
          refine ⟨(((((((((nI (qPs s 99 (qN s))) - ((((nI (qPs s 99 (qN s))).toUInt32 >>> ((nI 1).toUInt32 &&& Int32.toUInt32 31)).toInt32) &&& (nI 1431655765))) &&& (nI 858993459)) + (((((nI (qPs s 99 (qN s))) - ((((nI (qPs s 99 (qN s))).toUInt32 >>> ((nI 1).toUInt32 &&& Int32.toUInt32 31)).toInt32) &&& (nI 1431655765))).toUInt32 >>> ((nI 2).toUInt32 &&& Int32.toUInt32 31)).toInt32) &&& (nI 858993459))) + ((((((nI (qPs s 99 (qN s))) - ((((nI (qPs s 99 (qN s))).toUInt32 >>> ((nI 1).toUInt32 &&& Int32.toUInt32 31)).toInt32) &&& (nI 1431655765))) &&& (nI 858993459)) + (((((nI (qPs s 99 (qN s))) - ((((nI (qPs s 99 (qN s))).toUInt32 >>> ((nI 1).toUInt32 &&& Int32.toUInt32 31)).toInt32) &&& (nI 1431655765))).toUInt32 >>> ((nI 2).toUInt32 &&& Int32.toUInt32 31)).toInt32) &&& (nI 858993459))).toUInt32 >>> ((nI 4).toUInt32 &&& Int32.toUInt32 31)).toInt32)) &&& (nI 252645135)) + ((((((((nI (qPs s 99 (qN s))) - ((((nI (qPs s 99 (qN s))).toUInt32 >>> ((nI 1).toUInt32 &&& Int32.toUInt32 31)).toInt32) &&& (nI 1431655765))) &&& (nI 858993459)) + (((((nI (qPs s 99 (qN s))) - ((((nI (qPs s 99 (qN s))).toUInt32 >>> ((nI 1).toUInt32 &&& Int32.toUInt32 31)).toInt32) &&& (nI 1431655765))).toUInt32 >>> ((nI 2).toUInt32 &&& Int32.toUInt32 31)).toInt32) &&& (nI 858993459))) + ((((((nI (qPs s 99 (qN s))) - ((((nI (qPs s 99 (qN s))).toUInt32 >>> ((nI 1).toUInt32 &&& Int32.toUInt32 31)).toInt32) &&& (nI 1431655765))) &&& (nI 858993459)) + (((((nI (qPs s 99 (qN s))) - ((((nI (qPs s 99 (qN s))).toUInt32 >>> ((nI 1).toUInt32 &&& Int32.toUInt32 31)).toInt32) &&& (nI 1431655765))).toUInt32 >>> ((nI 2).toUInt32 &&& Int32.toUInt32 31)).toInt32) &&& (nI 858993459))).toUInt32 >>> ((nI 4).toUInt32 &&& Int32.toUInt32 31)).toInt32)) &&& (nI 252645135)).toUInt32 >>> ((nI 8).toUInt32 &&& Int32.toUInt32 31)).toInt32)) + (((((((((nI (qPs s 99 (qN s))) - ((((nI (qPs s 99 (qN s))).toUInt32 >>> ((nI 1).toUInt32 &&& Int32.toUInt32 31)).toInt32) &&& (nI 1431655765))) &&& (nI 858993459)) + (((((nI (qPs s 99 (qN s))) - ((((nI (qPs s 99 (qN s))).toUInt32 >>> ((nI 1).toUInt32 &&& Int32.toUInt32 31)).toInt32) &&& (nI 1431655765))).toUInt32 >>> ((nI 2).toUInt32 &&& Int32.toUInt32 31)).toInt32) &&& (nI 858993459))) + ((((((nI (qPs s 99 (qN s))) - ((((nI (qPs s 99 (qN s))).toUInt32 >>> ((nI 1).toUInt32 &&& Int32.toUInt32 31)).toInt32) &&& (nI 1431655765))) &&& (nI 858993459)) + (((((nI (qPs s 99 (qN s))) - ((((nI (qPs s 99 (qN s))).toUInt32 >>> ((nI 1).toUInt32 &&& Int32.toUInt32 31)).toInt32) &&& (nI 1431655765))).toUInt32 >>> ((nI 2).toUInt32 &&& Int32.toUInt32 31)).toInt32) &&& (nI 858993459))).toUInt32 >>> ((nI 4).toUInt32 &&& Int32.toUInt32 31)).toInt32)) &&& (nI 252645135)) + ((((((((nI (qPs s 99 (qN s))) - ((((nI (qPs s 99 (qN s))).toUInt32 >>> ((nI 1).toUInt32 &&& Int32.toUInt32 31)).toInt32) &&& (nI 1431655765))) &&& (nI 858993459)) + (((((nI (qPs s 99 (qN s))) - ((((nI (qPs s 99 (qN s))).toUInt32 >>> ((nI 1).toUInt32 &&& Int32.toUInt32 31)).toInt32) &&& (nI 1431655765))).toUInt32 >>> ((nI 2).toUInt32 &&& Int32.toUInt32 31)).toInt32) &&& (nI 858993459))) + ((((((nI (qPs s 99 (qN s))) - ((((nI (qPs s 99 (qN s))).toUInt32 >>> ((nI 1).toUInt32 &&& Int32.toUInt32 31)).toInt32) &&& (nI 1431655765))) &&& (nI 858993459)) + (((((nI (qPs s 99 (qN s))) - ((((nI (qPs s 99 (qN s))).toUInt32 >>> ((nI 1).toUInt32 &&& Int32.toUInt32 31)).toInt32) &&& (nI 1431655765))).toUInt32 >>> ((nI 2).toUInt32 &&& Int32.toUInt32 31)).toInt32) &&& (nI 858993459))).toUInt32 >>> ((nI 4).toUInt32 &&& Int32.toUInt32 31)).toInt32)) &&& (nI 252645135)).toUInt32 >>> ((nI 8).toUInt32 &&& Int32.toUInt32 31)).toInt32)).toUInt32 >>> ((nI 16).toUInt32 &&& Int32.toUInt32 31)).toInt32)) &&& (nI 63)), ((((((((((nI 0) + (((nI (qPs s 99 (qN s))) >>> ((nI 0) &&& 31)) &&& (nI 1))) + (((nI (qPs s 99 (qN s))) >>> ((nI 1) &&& 31)) &&& (nI 1))) + (((nI (qPs s 99 (qN s))) >>> ((nI 2) &&& 31)) &&& (nI 1))) + (((nI (qPs s 99 (qN s))) >>> ((nI 3) &&& 31)) &&& (nI 1))) + (((nI (qPs s 99 (qN s))) >>> ((nI 4) &&& 31)) &&& (nI 1))) + (((nI (qPs s 99 (qN s))) >>> ((nI 5) &&& 31)) &&& (nI 1))) + (((nI (qPs s 99 (qN s))) >>> ((nI 6) &&& 31)) &&& (nI 1))) + (((nI (qPs s 99 (qN s))) >>> ((nI 7) &&& 31)) &&& (nI 1))) + (((nI (qPs s 99 (qN s))) >>> ((nI 8) &&& 31)) &&& (nI 1))), (im, lf, s, d, k, ls, rf, rz, ra, rn, rq, lt, m1, m2, m3, m4, bd, fc, hd, sz, el, s, g, fm, hm, so, si, sh, ce, ca, td, wa, kp, la, bf, oo, bo, pw, ow, tr), (im, lf, s, d, k, ls, rf, rz, ra, rn, rq, lt, m1, m2, m3, m4, bd, fc, hd, sz, el, s, g, fm, hm, so, si, sh, ce, ca, td, wa, kp, la, bf, oo, bo, pw, ow, tr), ?_, ?_, ?_⟩
          · show Ev ab_Z0 3 114 [.ref 0, .int (nI 2)] (ww im lf s d k ls rf rz ra rn rq lt m1 m2 m3 m4 bd fc hd sz el s g fm hm so si sh ce ca td wa kp la bf oo bo pw ow tr) (some (.int (((((((((nI (qPs s 99 (qN s))) - ((((nI (qPs s 99 (qN s))).toUInt32 >>> ((nI 1).toUInt32 &&& Int32.toUInt32 31)).toInt32) &&& (nI 1431655765))) &&& (nI 858993459)) + (((((nI (qPs s 99 (qN s))) - ((((nI (qPs s 99 (qN s))).toUInt32 >>> ((nI 1).toUInt32 &&& Int32.toUInt32 31)).toInt32) &&& (nI 1431655765))).toUInt32 >>> ((nI 2).toUInt32 &&& Int32.toUInt32 31)).toInt32) &&& (nI 858993459))) + ((((((nI (qPs s 99 (qN s))) - ((((nI (qPs s 99 (qN s))).toUInt32 >>> ((nI 1).toUInt32 &&& Int32.toUInt32 31)).toInt32) &&& (nI 1431655765))) &&& (nI 858993459)) + (((((nI (qPs s 99 (qN s))) - ((((nI (qPs s 99 (qN s))).toUInt32 >>> ((nI 1).toUInt32 &&& Int32.toUInt32 31)).toInt32) &&& (nI 1431655765))).toUInt32 >>> ((nI 2).toUInt32 &&& Int32.toUInt32 31)).toInt32) &&& (nI 858993459))).toUInt32 >>> ((nI 4).toUInt32 &&& Int32.toUInt32 31)).toInt32)) &&& (nI 252645135)) + ((((((((nI (qPs s 99 (qN s))) - ((((nI (qPs s 99 (qN s))).toUInt32 >>> ((nI 1).toUInt32 &&& Int32.toUInt32 31)).toInt32) &&& (nI 1431655765))) &&& (nI 858993459)) + (((((nI (qPs s 99 (qN s))) - ((((nI (qPs s 99 (qN s))).toUInt32 >>> ((nI 1).toUInt32 &&& Int32.toUInt32 31)).toInt32) &&& (nI 1431655765))).toUInt32 >>> ((nI 2).toUInt32 &&& Int32.toUInt32 31)).toInt32) &&& (nI 858993459))) + ((((((nI (qPs s 99 (qN s))) - ((((nI (qPs s 99 (qN s))).toUInt32 >>> ((nI 1).toUInt32 &&& Int32.toUInt32 31)).toInt32) &&& (nI 1431655765))) &&& (nI 858993459)) + (((((nI (qPs s 99 (qN s))) - ((((nI (qPs s 99 (qN s))).toUInt32 >>> ((nI 1).toUInt32 &&& Int32.toUInt32 31)).toInt32) &&& (nI 1431655765))).toUInt32 >>> ((nI 2).toUInt32 &&& Int32.toUInt32 31)).toInt32) &&& (nI 858993459))).toUInt32 >>> ((nI 4).toUInt32 &&& Int32.toUInt32 31)).toInt32)) &&& (nI 252645135)).toUInt32 >>> ((nI 8).toUInt32 &&& Int32.toUInt32 31)).toInt32)) + (((((((((nI (qPs s 99 (qN s))) - ((((nI (qPs s 99 (qN s))).toUInt32 >>> ((nI 1).toUInt32 &&& Int32.toUInt32 31)).toInt32) &&& (nI 1431655765))) &&& (nI 858993459)) + (((((nI (qPs s 99 (qN s))) - ((((nI (qPs s 99 (qN s))).toUInt32 >>> ((nI 1).toUInt32 &&& Int32.toUInt32 31)).toInt32) &&& (nI 1431655765))).toUInt32 >>> ((nI 2).toUInt32 &&& Int32.toUInt32 31)).toInt32) &&& (nI 858993459))) + ((((((nI (qPs s 99 (qN s))) - ((((nI (qPs s 99 (qN s))).toUInt32 >>> ((nI 1).toUInt32 &&& Int32.toUInt32 31)).toInt32) &&& (nI 1431655765))) &&& (nI 858993459)) + (((((nI (qPs s 99 (qN s))) - ((((nI (qPs s 99 (qN s))).toUInt32 >>> ((nI 1).toUInt32 &&& Int32.toUInt32 31)).toInt32) &&& (nI 1431655765))).toUInt32 >>> ((nI 2).toUInt32 &&& Int32.toUInt32 31)).toInt32) &&& (nI 858993459))).toUInt32 >>> ((nI 4).toUInt32 &&& Int32.toUInt32 31)).toInt32)) &&& (nI 252645135)) + ((((((((nI (qPs s 99 (qN s))) - ((((nI (qPs s 99 (qN s))).toUInt32 >>> ((nI 1).toUInt32 &&& Int32.toUInt32 31)).toInt32) &&& (nI 1431655765))) &&& (nI 858993459)) + (((((nI (qPs s 99 (qN s))) - ((((nI (qPs s 99 (qN s))).toUInt32 >>> ((nI 1).toUInt32 &&& Int32.toUInt32 31)).toInt32) &&& (nI 1431655765))).toUInt32 >>> ((nI 2).toUInt32 &&& Int32.toUInt32 31)).toInt32) &&& (nI 858993459))) + ((((((nI (qPs s 99 (qN s))) - ((((nI (qPs s 99 (qN s))).toUInt32 >>> ((nI 1).toUInt32 &&& Int32.toUInt32 31)).toInt32) &&& (nI 1431655765))) &&& (nI 858993459)) + (((((nI (qPs s 99 (qN s))) - ((((nI (qPs s 99 (qN s))).toUInt32 >>> ((nI 1).toUInt32 &&& Int32.toUInt32 31)).toInt32) &&& (nI 1431655765))).toUInt32 >>> ((nI 2).toUInt32 &&& Int32.toUInt32 31)).toInt32) &&& (nI 858993459))).toUInt32 >>> ((nI 4).toUInt32 &&& Int32.toUInt32 31)).toInt32)) &&& (nI 252645135)).toUInt32 >>> ((nI 8).toUInt32 &&& Int32.toUInt32 31)).toInt32)).toUInt32 >>> ((nI 16).toUInt32 &&& Int32.toUInt32 31)).toInt32)) &&& (nI 63))), (ww im lf s d k ls rf rz ra rn rq lt m1 m2 m3 m4 bd fc hd sz el s g fm hm so si sh ce ca td wa kp la bf oo bo pw ow tr))
            refine Ef.in (md := mX5_status) (L := [some (.ref 0), some (.int (nI 2))]) rfl (Nat.le_of_ble_eq_true rfl) rfl ?_
            refine E_iload_n at_X5_status_0 rfl ?_
            refine E_tsIn (off := 71) (t := 72) at_X5_status_1 (by decide) rfl rfl ?_
            refine E_aload_n rfl rfl ?_
            refine E_getfield (v := .ref 1) rfl w0 rfl (by decide) rfl ?_
            refine E_callV (v := some (.int (nI (qPs s 99 (qN s))))) (As := [.ref 1]) (r0 := []) (cs2 := (ww im lf s d k ls rf rz ra rn rq lt m1 m2 m3 m4 bd fc hd sz el s g fm hm so si sh ce ca td wa kp la bf oo bo pw ow tr)) rfl rfl rfl (Nat.le_of_ble_eq_true rfl) rfl (ab_rvOf w1 rfl) (sq_basin w_q1 I) (by decide) rfl ?_
            have e1 : Ev ab_Z0 1 213 [.int (nI (qPs s 99 (qN s)))] (ww im lf s d k ls rf rz ra rn rq lt m1 m2 m3 m4 bd fc hd sz el s g fm hm so si sh ce ca td wa kp la bf oo bo pw ow tr) (some (.int (((((((((nI (qPs s 99 (qN s))) - ((((nI (qPs s 99 (qN s))).toUInt32 >>> ((nI 1).toUInt32 &&& Int32.toUInt32 31)).toInt32) &&& (nI 1431655765))) &&& (nI 858993459)) + (((((nI (qPs s 99 (qN s))) - ((((nI (qPs s 99 (qN s))).toUInt32 >>> ((nI 1).toUInt32 &&& Int32.toUInt32 31)).toInt32) &&& (nI 1431655765))).toUInt32 >>> ((nI 2).toUInt32 &&& Int32.toUInt32 31)).toInt32) &&& (nI 858993459))) + ((((((nI (qPs s 99 (qN s))) - ((((nI (qPs s 99 (qN s))).toUInt32 >>> ((nI 1).toUInt32 &&& Int32.toUInt32 31)).toInt32) &&& (nI 1431655765))) &&& (nI 858993459)) + (((((nI (qPs s 99 (qN s))) - ((((nI (qPs s 99 (qN s))).toUInt32 >>> ((nI 1).toUInt32 &&& Int32.toUInt32 31)).toInt32) &&& (nI 1431655765))).toUInt32 >>> ((nI 2).toUInt32 &&& Int32.toUInt32 31)).toInt32) &&& (nI 858993459))).toUInt32 >>> ((nI 4).toUInt32 &&& Int32.toUInt32 31)).toInt32)) &&& (nI 252645135)) + ((((((((nI (qPs s 99 (qN s))) - ((((nI (qPs s 99 (qN s))).toUInt32 >>> ((nI 1).toUInt32 &&& Int32.toUInt32 31)).toInt32) &&& (nI 1431655765))) &&& (nI 858993459)) + (((((nI (qPs s 99 (qN s))) - ((((nI (qPs s 99 (qN s))).toUInt32 >>> ((nI 1).toUInt32 &&& Int32.toUInt32 31)).toInt32) &&& (nI 1431655765))).toUInt32 >>> ((nI 2).toUInt32 &&& Int32.toUInt32 31)).toInt32) &&& (nI 858993459))) + ((((((nI (qPs s 99 (qN s))) - ((((nI (qPs s 99 (qN s))).toUInt32 >>> ((nI 1).toUInt32 &&& Int32.toUInt32 31)).toInt32) &&& (nI 1431655765))) &&& (nI 858993459)) + (((((nI (qPs s 99 (qN s))) - ((((nI (qPs s 99 (qN s))).toUInt32 >>> ((nI 1).toUInt32 &&& Int32.toUInt32 31)).toInt32) &&& (nI 1431655765))).toUInt32 >>> ((nI 2).toUInt32 &&& Int32.toUInt32 31)).toInt32) &&& (nI 858993459))).toUInt32 >>> ((nI 4).toUInt32 &&& Int32.toUInt32 31)).toInt32)) &&& (nI 252645135)).toUInt32 >>> ((nI 8).toUInt32 &&& Int32.toUInt32 31)).toInt32)) + (((((((((nI (qPs s 99 (qN s))) - ((((nI (qPs s 99 (qN s))).toUInt32 >>> ((nI 1).toUInt32 &&& Int32.toUInt32 31)).toInt32) &&& (nI 1431655765))) &&& (nI 858993459)) + (((((nI (qPs s 99 (qN s))) - ((((nI (qPs s 99 (qN s))).toUInt32 >>> ((nI 1).toUInt32 &&& Int32.toUInt32 31)).toInt32) &&& (nI 1431655765))).toUInt32 >>> ((nI 2).toUInt32 &&& Int32.toUInt32 31)).toInt32) &&& (nI 858993459))) + ((((((nI (qPs s 99 (qN s))) - ((((nI (qPs s 99 (qN s))).toUInt32 >>> ((nI 1).toUInt32 &&& Int32.toUInt32 31)).toInt32) &&& (nI 1431655765))) &&& (nI 858993459)) + (((((nI (qPs s 99 (qN s))) - ((((nI (qPs s 99 (qN s))).toUInt32 >>> ((nI 1).toUInt32 &&& Int32.toUInt32 31)).toInt32) &&& (nI 1431655765))).toUInt32 >>> ((nI 2).toUInt32 &&& Int32.toUInt32 31)).toInt32) &&& (nI 858993459))).toUInt32 >>> ((nI 4).toUInt32 &&& Int32.toUInt32 31)).toInt32)) &&& (nI 252645135)) + ((((((((nI (qPs s 99 (qN s))) - ((((nI (qPs s 99 (qN s))).toUInt32 >>> ((nI 1).toUInt32 &&& Int32.toUInt32 31)).toInt32) &&& (nI 1431655765))) &&& (nI 858993459)) + (((((nI (qPs s 99 (qN s))) - ((((nI (qPs s 99 (qN s))).toUInt32 >>> ((nI 1).toUInt32 &&& Int32.toUInt32 31)).toInt32) &&& (nI 1431655765))).toUInt32 >>> ((nI 2).toUInt32 &&& Int32.toUInt32 31)).toInt32) &&& (nI 858993459))) + ((((((nI (qPs s 99 (qN s))) - ((((nI (qPs s 99 (qN s))).toUInt32 >>> ((nI 1).toUInt32 &&& Int32.toUInt32 31)).toInt32) &&& (nI 1431655765))) &&& (nI 858993459)) + (((((nI (qPs s 99 (qN s))) - ((((nI (qPs s 99 (qN s))).toUInt32 >>> ((nI 1).toUInt32 &&& Int32.toUInt32 31)).toInt32) &&& (nI 1431655765))).toUInt32 >>> ((nI 2).toUInt32 &&& Int32.toUInt32 31)).toInt32) &&& (nI 858993459))).toUInt32 >>> ((nI 4).toUInt32 &&& Int32.toUInt32 31)).toInt32)) &&& (nI 252645135)).toUInt32 >>> ((nI 8).toUInt32 &&& Int32.toUInt32 31)).toInt32)).toUInt32 >>> ((nI 16).toUInt32 &&& Int32.toUInt32 31)).toInt32)) &&& (nI 63))), (ww im lf s d k ls rf rz ra rn rq lt m1 m2 m3 m4 bd fc hd sz el s g fm hm so si sh ce ca td wa kp la bf oo bo pw ow tr)) := by
              refine Ef.in (md := mJ6_bitCount_0f7a4) (L := [some (.int (nI (qPs s 99 (qN s))))]) rfl (Nat.le_of_ble_eq_true rfl) rfl ?_
              refine E_iload_n rfl rfl ?_
              refine E_iload_n rfl rfl ?_
              refine E_iconst (x := nI 1) rfl (by decide) ?_
              refine E_iushr (z := ((nI (qPs s 99 (qN s))).toUInt32 >>> ((nI 1).toUInt32 &&& Int32.toUInt32 31)).toInt32) rfl rfl ?_
              refine E_ldc_w (x := nI 1431655765) rfl (by decide) ?_
              refine E_iand (z := (((nI (qPs s 99 (qN s))).toUInt32 >>> ((nI 1).toUInt32 &&& Int32.toUInt32 31)).toInt32) &&& (nI 1431655765)) rfl rfl ?_
              refine E_isub (z := (nI (qPs s 99 (qN s))) - ((((nI (qPs s 99 (qN s))).toUInt32 >>> ((nI 1).toUInt32 &&& Int32.toUInt32 31)).toInt32) &&& (nI 1431655765))) rfl rfl ?_
              refine E_istore_n (L2 := [some (.int ((nI (qPs s 99 (qN s))) - ((((nI (qPs s 99 (qN s))).toUInt32 >>> ((nI 1).toUInt32 &&& Int32.toUInt32 31)).toInt32) &&& (nI 1431655765))))]) rfl rfl ?_
              refine E_iload_n rfl rfl ?_
              refine E_ldc_w (x := nI 858993459) rfl (by decide) ?_
              refine E_iand (z := ((nI (qPs s 99 (qN s))) - ((((nI (qPs s 99 (qN s))).toUInt32 >>> ((nI 1).toUInt32 &&& Int32.toUInt32 31)).toInt32) &&& (nI 1431655765))) &&& (nI 858993459)) rfl rfl ?_
              refine E_iload_n rfl rfl ?_
              refine E_iconst (x := nI 2) rfl (by decide) ?_
              refine E_iushr (z := (((nI (qPs s 99 (qN s))) - ((((nI (qPs s 99 (qN s))).toUInt32 >>> ((nI 1).toUInt32 &&& Int32.toUInt32 31)).toInt32) &&& (nI 1431655765))).toUInt32 >>> ((nI 2).toUInt32 &&& Int32.toUInt32 31)).toInt32) rfl rfl ?_
              refine E_ldc_w (x := nI 858993459) rfl (by decide) ?_
              refine E_iand (z := ((((nI (qPs s 99 (qN s))) - ((((nI (qPs s 99 (qN s))).toUInt32 >>> ((nI 1).toUInt32 &&& Int32.toUInt32 31)).toInt32) &&& (nI 1431655765))).toUInt32 >>> ((nI 2).toUInt32 &&& Int32.toUInt32 31)).toInt32) &&& (nI 858993459)) rfl rfl ?_
              refine E_iadd (z := (((nI (qPs s 99 (qN s))) - ((((nI (qPs s 99 (qN s))).toUInt32 >>> ((nI 1).toUInt32 &&& Int32.toUInt32 31)).toInt32) &&& (nI 1431655765))) &&& (nI 858993459)) + (((((nI (qPs s 99 (qN s))) - ((((nI (qPs s 99 (qN s))).toUInt32 >>> ((nI 1).toUInt32 &&& Int32.toUInt32 31)).toInt32) &&& (nI 1431655765))).toUInt32 >>> ((nI 2).toUInt32 &&& Int32.toUInt32 31)).toInt32) &&& (nI 858993459))) rfl rfl ?_
              refine E_istore_n (L2 := [some (.int ((((nI (qPs s 99 (qN s))) - ((((nI (qPs s 99 (qN s))).toUInt32 >>> ((nI 1).toUInt32 &&& Int32.toUInt32 31)).toInt32) &&& (nI 1431655765))) &&& (nI 858993459)) + (((((nI (qPs s 99 (qN s))) - ((((nI (qPs s 99 (qN s))).toUInt32 >>> ((nI 1).toUInt32 &&& Int32.toUInt32 31)).toInt32) &&& (nI 1431655765))).toUInt32 >>> ((nI 2).toUInt32 &&& Int32.toUInt32 31)).toInt32) &&& (nI 858993459))))]) rfl rfl ?_
              refine E_iload_n rfl rfl ?_
              refine E_iload_n rfl rfl ?_
              refine E_iconst (x := nI 4) rfl (by decide) ?_
              refine E_iushr (z := (((((nI (qPs s 99 (qN s))) - ((((nI (qPs s 99 (qN s))).toUInt32 >>> ((nI 1).toUInt32 &&& Int32.toUInt32 31)).toInt32) &&& (nI 1431655765))) &&& (nI 858993459)) + (((((nI (qPs s 99 (qN s))) - ((((nI (qPs s 99 (qN s))).toUInt32 >>> ((nI 1).toUInt32 &&& Int32.toUInt32 31)).toInt32) &&& (nI 1431655765))).toUInt32 >>> ((nI 2).toUInt32 &&& Int32.toUInt32 31)).toInt32) &&& (nI 858993459))).toUInt32 >>> ((nI 4).toUInt32 &&& Int32.toUInt32 31)).toInt32) rfl rfl ?_
              refine E_iadd (z := ((((nI (qPs s 99 (qN s))) - ((((nI (qPs s 99 (qN s))).toUInt32 >>> ((nI 1).toUInt32 &&& Int32.toUInt32 31)).toInt32) &&& (nI 1431655765))) &&& (nI 858993459)) + (((((nI (qPs s 99 (qN s))) - ((((nI (qPs s 99 (qN s))).toUInt32 >>> ((nI 1).toUInt32 &&& Int32.toUInt32 31)).toInt32) &&& (nI 1431655765))).toUInt32 >>> ((nI 2).toUInt32 &&& Int32.toUInt32 31)).toInt32) &&& (nI 858993459))) + ((((((nI (qPs s 99 (qN s))) - ((((nI (qPs s 99 (qN s))).toUInt32 >>> ((nI 1).toUInt32 &&& Int32.toUInt32 31)).toInt32) &&& (nI 1431655765))) &&& (nI 858993459)) + (((((nI (qPs s 99 (qN s))) - ((((nI (qPs s 99 (qN s))).toUInt32 >>> ((nI 1).toUInt32 &&& Int32.toUInt32 31)).toInt32) &&& (nI 1431655765))).toUInt32 >>> ((nI 2).toUInt32 &&& Int32.toUInt32 31)).toInt32) &&& (nI 858993459))).toUInt32 >>> ((nI 4).toUInt32 &&& Int32.toUInt32 31)).toInt32)) rfl rfl ?_
              refine E_ldc_w (x := nI 252645135) rfl (by decide) ?_
              refine E_iand (z := (((((nI (qPs s 99 (qN s))) - ((((nI (qPs s 99 (qN s))).toUInt32 >>> ((nI 1).toUInt32 &&& Int32.toUInt32 31)).toInt32) &&& (nI 1431655765))) &&& (nI 858993459)) + (((((nI (qPs s 99 (qN s))) - ((((nI (qPs s 99 (qN s))).toUInt32 >>> ((nI 1).toUInt32 &&& Int32.toUInt32 31)).toInt32) &&& (nI 1431655765))).toUInt32 >>> ((nI 2).toUInt32 &&& Int32.toUInt32 31)).toInt32) &&& (nI 858993459))) + ((((((nI (qPs s 99 (qN s))) - ((((nI (qPs s 99 (qN s))).toUInt32 >>> ((nI 1).toUInt32 &&& Int32.toUInt32 31)).toInt32) &&& (nI 1431655765))) &&& (nI 858993459)) + (((((nI (qPs s 99 (qN s))) - ((((nI (qPs s 99 (qN s))).toUInt32 >>> ((nI 1).toUInt32 &&& Int32.toUInt32 31)).toInt32) &&& (nI 1431655765))).toUInt32 >>> ((nI 2).toUInt32 &&& Int32.toUInt32 31)).toInt32) &&& (nI 858993459))).toUInt32 >>> ((nI 4).toUInt32 &&& Int32.toUInt32 31)).toInt32)) &&& (nI 252645135)) rfl rfl ?_
              refine E_istore_n (L2 := [some (.int ((((((nI (qPs s 99 (qN s))) - ((((nI (qPs s 99 (qN s))).toUInt32 >>> ((nI 1).toUInt32 &&& Int32.toUInt32 31)).toInt32) &&& (nI 1431655765))) &&& (nI 858993459)) + (((((nI (qPs s 99 (qN s))) - ((((nI (qPs s 99 (qN s))).toUInt32 >>> ((nI 1).toUInt32 &&& Int32.toUInt32 31)).toInt32) &&& (nI 1431655765))).toUInt32 >>> ((nI 2).toUInt32 &&& Int32.toUInt32 31)).toInt32) &&& (nI 858993459))) + ((((((nI (qPs s 99 (qN s))) - ((((nI (qPs s 99 (qN s))).toUInt32 >>> ((nI 1).toUInt32 &&& Int32.toUInt32 31)).toInt32) &&& (nI 1431655765))) &&& (nI 858993459)) + (((((nI (qPs s 99 (qN s))) - ((((nI (qPs s 99 (qN s))).toUInt32 >>> ((nI 1).toUInt32 &&& Int32.toUInt32 31)).toInt32) &&& (nI 1431655765))).toUInt32 >>> ((nI 2).toUInt32 &&& Int32.toUInt32 31)).toInt32) &&& (nI 858993459))).toUInt32 >>> ((nI 4).toUInt32 &&& Int32.toUInt32 31)).toInt32)) &&& (nI 252645135)))]) rfl rfl ?_
              refine E_iload_n rfl rfl ?_
              refine E_iload_n rfl rfl ?_
              refine E_bipush (x := nI 8) rfl (by decide) ?_
              refine E_iushr (z := (((((((nI (qPs s 99 (qN s))) - ((((nI (qPs s 99 (qN s))).toUInt32 >>> ((nI 1).toUInt32 &&& Int32.toUInt32 31)).toInt32) &&& (nI 1431655765))) &&& (nI 858993459)) + (((((nI (qPs s 99 (qN s))) - ((((nI (qPs s 99 (qN s))).toUInt32 >>> ((nI 1).toUInt32 &&& Int32.toUInt32 31)).toInt32) &&& (nI 1431655765))).toUInt32 >>> ((nI 2).toUInt32 &&& Int32.toUInt32 31)).toInt32) &&& (nI 858993459))) + ((((((nI (qPs s 99 (qN s))) - ((((nI (qPs s 99 (qN s))).toUInt32 >>> ((nI 1).toUInt32 &&& Int32.toUInt32 31)).toInt32) &&& (nI 1431655765))) &&& (nI 858993459)) + (((((nI (qPs s 99 (qN s))) - ((((nI (qPs s 99 (qN s))).toUInt32 >>> ((nI 1).toUInt32 &&& Int32.toUInt32 31)).toInt32) &&& (nI 1431655765))).toUInt32 >>> ((nI 2).toUInt32 &&& Int32.toUInt32 31)).toInt32) &&& (nI 858993459))).toUInt32 >>> ((nI 4).toUInt32 &&& Int32.toUInt32 31)).toInt32)) &&& (nI 252645135)).toUInt32 >>> ((nI 8).toUInt32 &&& Int32.toUInt32 31)).toInt32) rfl rfl ?_
              refine E_iadd (z := ((((((nI (qPs s 99 (qN s))) - ((((nI (qPs s 99 (qN s))).toUInt32 >>> ((nI 1).toUInt32 &&& Int32.toUInt32 31)).toInt32) &&& (nI 1431655765))) &&& (nI 858993459)) + (((((nI (qPs s 99 (qN s))) - ((((nI (qPs s 99 (qN s))).toUInt32 >>> ((nI 1).toUInt32 &&& Int32.toUInt32 31)).toInt32) &&& (nI 1431655765))).toUInt32 >>> ((nI 2).toUInt32 &&& Int32.toUInt32 31)).toInt32) &&& (nI 858993459))) + ((((((nI (qPs s 99 (qN s))) - ((((nI (qPs s 99 (qN s))).toUInt32 >>> ((nI 1).toUInt32 &&& Int32.toUInt32 31)).toInt32) &&& (nI 1431655765))) &&& (nI 858993459)) + (((((nI (qPs s 99 (qN s))) - ((((nI (qPs s 99 (qN s))).toUInt32 >>> ((nI 1).toUInt32 &&& Int32.toUInt32 31)).toInt32) &&& (nI 1431655765))).toUInt32 >>> ((nI 2).toUInt32 &&& Int32.toUInt32 31)).toInt32) &&& (nI 858993459))).toUInt32 >>> ((nI 4).toUInt32 &&& Int32.toUInt32 31)).toInt32)) &&& (nI 252645135)) + ((((((((nI (qPs s 99 (qN s))) - ((((nI (qPs s 99 (qN s))).toUInt32 >>> ((nI 1).toUInt32 &&& Int32.toUInt32 31)).toInt32) &&& (nI 1431655765))) &&& (nI 858993459)) + (((((nI (qPs s 99 (qN s))) - ((((nI (qPs s 99 (qN s))).toUInt32 >>> ((nI 1).toUInt32 &&& Int32.toUInt32 31)).toInt32) &&& (nI 1431655765))).toUInt32 >>> ((nI 2).toUInt32 &&& Int32.toUInt32 31)).toInt32) &&& (nI 858993459))) + ((((((nI (qPs s 99 (qN s))) - ((((nI (qPs s 99 (qN s))).toUInt32 >>> ((nI 1).toUInt32 &&& Int32.toUInt32 31)).toInt32) &&& (nI 1431655765))) &&& (nI 858993459)) + (((((nI (qPs s 99 (qN s))) - ((((nI (qPs s 99 (qN s))).toUInt32 >>> ((nI 1).toUInt32 &&& Int32.toUInt32 31)).toInt32) &&& (nI 1431655765))).toUInt32 >>> ((nI 2).toUInt32 &&& Int32.toUInt32 31)).toInt32) &&& (nI 858993459))).toUInt32 >>> ((nI 4).toUInt32 &&& Int32.toUInt32 31)).toInt32)) &&& (nI 252645135)).toUInt32 >>> ((nI 8).toUInt32 &&& Int32.toUInt32 31)).toInt32)) rfl rfl ?_
              refine E_istore_n (L2 := [some (.int (((((((nI (qPs s 99 (qN s))) - ((((nI (qPs s 99 (qN s))).toUInt32 >>> ((nI 1).toUInt32 &&& Int32.toUInt32 31)).toInt32) &&& (nI 1431655765))) &&& (nI 858993459)) + (((((nI (qPs s 99 (qN s))) - ((((nI (qPs s 99 (qN s))).toUInt32 >>> ((nI 1).toUInt32 &&& Int32.toUInt32 31)).toInt32) &&& (nI 1431655765))).toUInt32 >>> ((nI 2).toUInt32 &&& Int32.toUInt32 31)).toInt32) &&& (nI 858993459))) + ((((((nI (qPs s 99 (qN s))) - ((((nI (qPs s 99 (qN s))).toUInt32 >>> ((nI 1).toUInt32 &&& Int32.toUInt32 31)).toInt32) &&& (nI 1431655765))) &&& (nI 858993459)) + (((((nI (qPs s 99 (qN s))) - ((((nI (qPs s 99 (qN s))).toUInt32 >>> ((nI 1).toUInt32 &&& Int32.toUInt32 31)).toInt32) &&& (nI 1431655765))).toUInt32 >>> ((nI 2).toUInt32 &&& Int32.toUInt32 31)).toInt32) &&& (nI 858993459))).toUInt32 >>> ((nI 4).toUInt32 &&& Int32.toUInt32 31)).toInt32)) &&& (nI 252645135)) + ((((((((nI (qPs s 99 (qN s))) - ((((nI (qPs s 99 (qN s))).toUInt32 >>> ((nI 1).toUInt32 &&& Int32.toUInt32 31)).toInt32) &&& (nI 1431655765))) &&& (nI 858993459)) + (((((nI (qPs s 99 (qN s))) - ((((nI (qPs s 99 (qN s))).toUInt32 >>> ((nI 1).toUInt32 &&& Int32.toUInt32 31)).toInt32) &&& (nI 1431655765))).toUInt32 >>> ((nI 2).toUInt32 &&& Int32.toUInt32 31)).toInt32) &&& (nI 858993459))) + ((((((nI (qPs s 99 (qN s))) - ((((nI (qPs s 99 (qN s))).toUInt32 >>> ((nI 1).toUInt32 &&& Int32.toUInt32 31)).toInt32) &&& (nI 1431655765))) &&& (nI 858993459)) + (((((nI (qPs s 99 (qN s))) - ((((nI (qPs s 99 (qN s))).toUInt32 >>> ((nI 1).toUInt32 &&& Int32.toUInt32 31)).toInt32) &&& (nI 1431655765))).toUInt32 >>> ((nI 2).toUInt32 &&& Int32.toUInt32 31)).toInt32) &&& (nI 858993459))).toUInt32 >>> ((nI 4).toUInt32 &&& Int32.toUInt32 31)).toInt32)) &&& (nI 252645135)).toUInt32 >>> ((nI 8).toUInt32 &&& Int32.toUInt32 31)).toInt32)))]) rfl rfl ?_
              refine E_iload_n rfl rfl ?_
              refine E_iload_n rfl rfl ?_
              refine E_bipush (x := nI 16) rfl (by decide) ?_
              refine E_iushr (z := ((((((((nI (qPs s 99 (qN s))) - ((((nI (qPs s 99 (qN s))).toUInt32 >>> ((nI 1).toUInt32 &&& Int32.toUInt32 31)).toInt32) &&& (nI 1431655765))) &&& (nI 858993459)) + (((((nI (qPs s 99 (qN s))) - ((((nI (qPs s 99 (qN s))).toUInt32 >>> ((nI 1).toUInt32 &&& Int32.toUInt32 31)).toInt32) &&& (nI 1431655765))).toUInt32 >>> ((nI 2).toUInt32 &&& Int32.toUInt32 31)).toInt32) &&& (nI 858993459))) + ((((((nI (qPs s 99 (qN s))) - ((((nI (qPs s 99 (qN s))).toUInt32 >>> ((nI 1).toUInt32 &&& Int32.toUInt32 31)).toInt32) &&& (nI 1431655765))) &&& (nI 858993459)) + (((((nI (qPs s 99 (qN s))) - ((((nI (qPs s 99 (qN s))).toUInt32 >>> ((nI 1).toUInt32 &&& Int32.toUInt32 31)).toInt32) &&& (nI 1431655765))).toUInt32 >>> ((nI 2).toUInt32 &&& Int32.toUInt32 31)).toInt32) &&& (nI 858993459))).toUInt32 >>> ((nI 4).toUInt32 &&& Int32.toUInt32 31)).toInt32)) &&& (nI 252645135)) + ((((((((nI (qPs s 99 (qN s))) - ((((nI (qPs s 99 (qN s))).toUInt32 >>> ((nI 1).toUInt32 &&& Int32.toUInt32 31)).toInt32) &&& (nI 1431655765))) &&& (nI 858993459)) + (((((nI (qPs s 99 (qN s))) - ((((nI (qPs s 99 (qN s))).toUInt32 >>> ((nI 1).toUInt32 &&& Int32.toUInt32 31)).toInt32) &&& (nI 1431655765))).toUInt32 >>> ((nI 2).toUInt32 &&& Int32.toUInt32 31)).toInt32) &&& (nI 858993459))) + ((((((nI (qPs s 99 (qN s))) - ((((nI (qPs s 99 (qN s))).toUInt32 >>> ((nI 1).toUInt32 &&& Int32.toUInt32 31)).toInt32) &&& (nI 1431655765))) &&& (nI 858993459)) + (((((nI (qPs s 99 (qN s))) - ((((nI (qPs s 99 (qN s))).toUInt32 >>> ((nI 1).toUInt32 &&& Int32.toUInt32 31)).toInt32) &&& (nI 1431655765))).toUInt32 >>> ((nI 2).toUInt32 &&& Int32.toUInt32 31)).toInt32) &&& (nI 858993459))).toUInt32 >>> ((nI 4).toUInt32 &&& Int32.toUInt32 31)).toInt32)) &&& (nI 252645135)).toUInt32 >>> ((nI 8).toUInt32 &&& Int32.toUInt32 31)).toInt32)).toUInt32 >>> ((nI 16).toUInt32 &&& Int32.toUInt32 31)).toInt32) rfl rfl ?_
              refine E_iadd (z := (((((((nI (qPs s 99 (qN s))) - ((((nI (qPs s 99 (qN s))).toUInt32 >>> ((nI 1).toUInt32 &&& Int32.toUInt32 31)).toInt32) &&& (nI 1431655765))) &&& (nI 858993459)) + (((((nI (qPs s 99 (qN s))) - ((((nI (qPs s 99 (qN s))).toUInt32 >>> ((nI 1).toUInt32 &&& Int32.toUInt32 31)).toInt32) &&& (nI 1431655765))).toUInt32 >>> ((nI 2).toUInt32 &&& Int32.toUInt32 31)).toInt32) &&& (nI 858993459))) + ((((((nI (qPs s 99 (qN s))) - ((((nI (qPs s 99 (qN s))).toUInt32 >>> ((nI 1).toUInt32 &&& Int32.toUInt32 31)).toInt32) &&& (nI 1431655765))) &&& (nI 858993459)) + (((((nI (qPs s 99 (qN s))) - ((((nI (qPs s 99 (qN s))).toUInt32 >>> ((nI 1).toUInt32 &&& Int32.toUInt32 31)).toInt32) &&& (nI 1431655765))).toUInt32 >>> ((nI 2).toUInt32 &&& Int32.toUInt32 31)).toInt32) &&& (nI 858993459))).toUInt32 >>> ((nI 4).toUInt32 &&& Int32.toUInt32 31)).toInt32)) &&& (nI 252645135)) + ((((((((nI (qPs s 99 (qN s))) - ((((nI (qPs s 99 (qN s))).toUInt32 >>> ((nI 1).toUInt32 &&& Int32.toUInt32 31)).toInt32) &&& (nI 1431655765))) &&& (nI 858993459)) + (((((nI (qPs s 99 (qN s))) - ((((nI (qPs s 99 (qN s))).toUInt32 >>> ((nI 1).toUInt32 &&& Int32.toUInt32 31)).toInt32) &&& (nI 1431655765))).toUInt32 >>> ((nI 2).toUInt32 &&& Int32.toUInt32 31)).toInt32) &&& (nI 858993459))) + ((((((nI (qPs s 99 (qN s))) - ((((nI (qPs s 99 (qN s))).toUInt32 >>> ((nI 1).toUInt32 &&& Int32.toUInt32 31)).toInt32) &&& (nI 1431655765))) &&& (nI 858993459)) + (((((nI (qPs s 99 (qN s))) - ((((nI (qPs s 99 (qN s))).toUInt32 >>> ((nI 1).toUInt32 &&& Int32.toUInt32 31)).toInt32) &&& (nI 1431655765))).toUInt32 >>> ((nI 2).toUInt32 &&& Int32.toUInt32 31)).toInt32) &&& (nI 858993459))).toUInt32 >>> ((nI 4).toUInt32 &&& Int32.toUInt32 31)).toInt32)) &&& (nI 252645135)).toUInt32 >>> ((nI 8).toUInt32 &&& Int32.toUInt32 31)).toInt32)) + (((((((((nI (qPs s 99 (qN s))) - ((((nI (qPs s 99 (qN s))).toUInt32 >>> ((nI 1).toUInt32 &&& Int32.toUInt32 31)).toInt32) &&& (nI 1431655765))) &&& (nI 858993459)) + (((((nI (qPs s 99 (qN s))) - ((((nI (qPs s 99 (qN s))).toUInt32 >>> ((nI 1).toUInt32 &&& Int32.toUInt32 31)).toInt32) &&& (nI 1431655765))).toUInt32 >>> ((nI 2).toUInt32 &&& Int32.toUInt32 31)).toInt32) &&& (nI 858993459))) + ((((((nI (qPs s 99 (qN s))) - ((((nI (qPs s 99 (qN s))).toUInt32 >>> ((nI 1).toUInt32 &&& Int32.toUInt32 31)).toInt32) &&& (nI 1431655765))) &&& (nI 858993459)) + (((((nI (qPs s 99 (qN s))) - ((((nI (qPs s 99 (qN s))).toUInt32 >>> ((nI 1).toUInt32 &&& Int32.toUInt32 31)).toInt32) &&& (nI 1431655765))).toUInt32 >>> ((nI 2).toUInt32 &&& Int32.toUInt32 31)).toInt32) &&& (nI 858993459))).toUInt32 >>> ((nI 4).toUInt32 &&& Int32.toUInt32 31)).toInt32)) &&& (nI 252645135)) + ((((((((nI (qPs s 99 (qN s))) - ((((nI (qPs s 99 (qN s))).toUInt32 >>> ((nI 1).toUInt32 &&& Int32.toUInt32 31)).toInt32) &&& (nI 1431655765))) &&& (nI 858993459)) + (((((nI (qPs s 99 (qN s))) - ((((nI (qPs s 99 (qN s))).toUInt32 >>> ((nI 1).toUInt32 &&& Int32.toUInt32 31)).toInt32) &&& (nI 1431655765))).toUInt32 >>> ((nI 2).toUInt32 &&& Int32.toUInt32 31)).toInt32) &&& (nI 858993459))) + ((((((nI (qPs s 99 (qN s))) - ((((nI (qPs s 99 (qN s))).toUInt32 >>> ((nI 1).toUInt32 &&& Int32.toUInt32 31)).toInt32) &&& (nI 1431655765))) &&& (nI 858993459)) + (((((nI (qPs s 99 (qN s))) - ((((nI (qPs s 99 (qN s))).toUInt32 >>> ((nI 1).toUInt32 &&& Int32.toUInt32 31)).toInt32) &&& (nI 1431655765))).toUInt32 >>> ((nI 2).toUInt32 &&& Int32.toUInt32 31)).toInt32) &&& (nI 858993459))).toUInt32 >>> ((nI 4).toUInt32 &&& Int32.toUInt32 31)).toInt32)) &&& (nI 252645135)).toUInt32 >>> ((nI 8).toUInt32 &&& Int32.toUInt32 31)).toInt32)).toUInt32 >>> ((nI 16).toUInt32 &&& Int32.toUInt32 31)).toInt32)) rfl rfl ?_
              refine E_istore_n (L2 := [some (.int ((((((((nI (qPs s 99 (qN s))) - ((((nI (qPs s 99 (qN s))).toUInt32 >>> ((nI 1).toUInt32 &&& Int32.toUInt32 31)).toInt32) &&& (nI 1431655765))) &&& (nI 858993459)) + (((((nI (qPs s 99 (qN s))) - ((((nI (qPs s 99 (qN s))).toUInt32 >>> ((nI 1).toUInt32 &&& Int32.toUInt32 31)).toInt32) &&& (nI 1431655765))).toUInt32 >>> ((nI 2).toUInt32 &&& Int32.toUInt32 31)).toInt32) &&& (nI 858993459))) + ((((((nI (qPs s 99 (qN s))) - ((((nI (qPs s 99 (qN s))).toUInt32 >>> ((nI 1).toUInt32 &&& Int32.toUInt32 31)).toInt32) &&& (nI 1431655765))) &&& (nI 858993459)) + (((((nI (qPs s 99 (qN s))) - ((((nI (qPs s 99 (qN s))).toUInt32 >>> ((nI 1).toUInt32 &&& Int32.toUInt32 31)).toInt32) &&& (nI 1431655765))).toUInt32 >>> ((nI 2).toUInt32 &&& Int32.toUInt32 31)).toInt32) &&& (nI 858993459))).toUInt32 >>> ((nI 4).toUInt32 &&& Int32.toUInt32 31)).toInt32)) &&& (nI 252645135)) + ((((((((nI (qPs s 99 (qN s))) - ((((nI (qPs s 99 (qN s))).toUInt32 >>> ((nI 1).toUInt32 &&& Int32.toUInt32 31)).toInt32) &&& (nI 1431655765))) &&& (nI 858993459)) + (((((nI (qPs s 99 (qN s))) - ((((nI (qPs s 99 (qN s))).toUInt32 >>> ((nI 1).toUInt32 &&& Int32.toUInt32 31)).toInt32) &&& (nI 1431655765))).toUInt32 >>> ((nI 2).toUInt32 &&& Int32.toUInt32 31)).toInt32) &&& (nI 858993459))) + ((((((nI (qPs s 99 (qN s))) - ((((nI (qPs s 99 (qN s))).toUInt32 >>> ((nI 1).toUInt32 &&& Int32.toUInt32 31)).toInt32) &&& (nI 1431655765))) &&& (nI 858993459)) + (((((nI (qPs s 99 (qN s))) - ((((nI (qPs s 99 (qN s))).toUInt32 >>> ((nI 1).toUInt32 &&& Int32.toUInt32 31)).toInt32) &&& (nI 1431655765))).toUInt32 >>> ((nI 2).toUInt32 &&& Int32.toUInt32 31)).toInt32) &&& (nI 858993459))).toUInt32 >>> ((nI 4).toUInt32 &&& Int32.toUInt32 31)).toInt32)) &&& (nI 252645135)).toUInt32 >>> ((nI 8).toUInt32 &&& Int32.toUInt32 31)).toInt32)) + (((((((((nI (qPs s 99 (qN s))) - ((((nI (qPs s 99 (qN s))).toUInt32 >>> ((nI 1).toUInt32 &&& Int32.toUInt32 31)).toInt32) &&& (nI 1431655765))) &&& (nI 858993459)) + (((((nI (qPs s 99 (qN s))) - ((((nI (qPs s 99 (qN s))).toUInt32 >>> ((nI 1).toUInt32 &&& Int32.toUInt32 31)).toInt32) &&& (nI 1431655765))).toUInt32 >>> ((nI 2).toUInt32 &&& Int32.toUInt32 31)).toInt32) &&& (nI 858993459))) + ((((((nI (qPs s 99 (qN s))) - ((((nI (qPs s 99 (qN s))).toUInt32 >>> ((nI 1).toUInt32 &&& Int32.toUInt32 31)).toInt32) &&& (nI 1431655765))) &&& (nI 858993459)) + (((((nI (qPs s 99 (qN s))) - ((((nI (qPs s 99 (qN s))).toUInt32 >>> ((nI 1).toUInt32 &&& Int32.toUInt32 31)).toInt32) &&& (nI 1431655765))).toUInt32 >>> ((nI 2).toUInt32 &&& Int32.toUInt32 31)).toInt32) &&& (nI 858993459))).toUInt32 >>> ((nI 4).toUInt32 &&& Int32.toUInt32 31)).toInt32)) &&& (nI 252645135)) + ((((((((nI (qPs s 99 (qN s))) - ((((nI (qPs s 99 (qN s))).toUInt32 >>> ((nI 1).toUInt32 &&& Int32.toUInt32 31)).toInt32) &&& (nI 1431655765))) &&& (nI 858993459)) + (((((nI (qPs s 99 (qN s))) - ((((nI (qPs s 99 (qN s))).toUInt32 >>> ((nI 1).toUInt32 &&& Int32.toUInt32 31)).toInt32) &&& (nI 1431655765))).toUInt32 >>> ((nI 2).toUInt32 &&& Int32.toUInt32 31)).toInt32) &&& (nI 858993459))) + ((((((nI (qPs s 99 (qN s))) - ((((nI (qPs s 99 (qN s))).toUInt32 >>> ((nI 1).toUInt32 &&& Int32.toUInt32 31)).toInt32) &&& (nI 1431655765))) &&& (nI 858993459)) + (((((nI (qPs s 99 (qN s))) - ((((nI (qPs s 99 (qN s))).toUInt32 >>> ((nI 1).toUInt32 &&& Int32.toUInt32 31)).toInt32) &&& (nI 1431655765))).toUInt32 >>> ((nI 2).toUInt32 &&& Int32.toUInt32 31)).toInt32) &&& (nI 858993459))).toUInt32 >>> ((nI 4).toUInt32 &&& Int32.toUInt32 31)).toInt32)) &&& (nI 252645135)).toUInt32 >>> ((nI 8).toUInt32 &&& Int32.toUInt32 31)).toInt32)).toUInt32 >>> ((nI 16).toUInt32 &&& Int32.toUInt32 31)).toInt32)))]) rfl rfl ?_
              refine E_iload_n rfl rfl ?_
              refine E_bipush (x := nI 63) rfl (by decide) ?_
              refine E_iand (z := ((((((((nI (qPs s 99 (qN s))) - ((((nI (qPs s 99 (qN s))).toUInt32 >>> ((nI 1).toUInt32 &&& Int32.toUInt32 31)).toInt32) &&& (nI 1431655765))) &&& (nI 858993459)) + (((((nI (qPs s 99 (qN s))) - ((((nI (qPs s 99 (qN s))).toUInt32 >>> ((nI 1).toUInt32 &&& Int32.toUInt32 31)).toInt32) &&& (nI 1431655765))).toUInt32 >>> ((nI 2).toUInt32 &&& Int32.toUInt32 31)).toInt32) &&& (nI 858993459))) + ((((((nI (qPs s 99 (qN s))) - ((((nI (qPs s 99 (qN s))).toUInt32 >>> ((nI 1).toUInt32 &&& Int32.toUInt32 31)).toInt32) &&& (nI 1431655765))) &&& (nI 858993459)) + (((((nI (qPs s 99 (qN s))) - ((((nI (qPs s 99 (qN s))).toUInt32 >>> ((nI 1).toUInt32 &&& Int32.toUInt32 31)).toInt32) &&& (nI 1431655765))).toUInt32 >>> ((nI 2).toUInt32 &&& Int32.toUInt32 31)).toInt32) &&& (nI 858993459))).toUInt32 >>> ((nI 4).toUInt32 &&& Int32.toUInt32 31)).toInt32)) &&& (nI 252645135)) + ((((((((nI (qPs s 99 (qN s))) - ((((nI (qPs s 99 (qN s))).toUInt32 >>> ((nI 1).toUInt32 &&& Int32.toUInt32 31)).toInt32) &&& (nI 1431655765))) &&& (nI 858993459)) + (((((nI (qPs s 99 (qN s))) - ((((nI (qPs s 99 (qN s))).toUInt32 >>> ((nI 1).toUInt32 &&& Int32.toUInt32 31)).toInt32) &&& (nI 1431655765))).toUInt32 >>> ((nI 2).toUInt32 &&& Int32.toUInt32 31)).toInt32) &&& (nI 858993459))) + ((((((nI (qPs s 99 (qN s))) - ((((nI (qPs s 99 (qN s))).toUInt32 >>> ((nI 1).toUInt32 &&& Int32.toUInt32 31)).toInt32) &&& (nI 1431655765))) &&& (nI 858993459)) + (((((nI (qPs s 99 (qN s))) - ((((nI (qPs s 99 (qN s))).toUInt32 >>> ((nI 1).toUInt32 &&& Int32.toUInt32 31)).toInt32) &&& (nI 1431655765))).toUInt32 >>> ((nI 2).toUInt32 &&& Int32.toUInt32 31)).toInt32) &&& (nI 858993459))).toUInt32 >>> ((nI 4).toUInt32 &&& Int32.toUInt32 31)).toInt32)) &&& (nI 252645135)).toUInt32 >>> ((nI 8).toUInt32 &&& Int32.toUInt32 31)).toInt32)) + (((((((((nI (qPs s 99 (qN s))) - ((((nI (qPs s 99 (qN s))).toUInt32 >>> ((nI 1).toUInt32 &&& Int32.toUInt32 31)).toInt32) &&& (nI 1431655765))) &&& (nI 858993459)) + (((((nI (qPs s 99 (qN s))) - ((((nI (qPs s 99 (qN s))).toUInt32 >>> ((nI 1).toUInt32 &&& Int32.toUInt32 31)).toInt32) &&& (nI 1431655765))).toUInt32 >>> ((nI 2).toUInt32 &&& Int32.toUInt32 31)).toInt32) &&& (nI 858993459))) + ((((((nI (qPs s 99 (qN s))) - ((((nI (qPs s 99 (qN s))).toUInt32 >>> ((nI 1).toUInt32 &&& Int32.toUInt32 31)).toInt32) &&& (nI 1431655765))) &&& (nI 858993459)) + (((((nI (qPs s 99 (qN s))) - ((((nI (qPs s 99 (qN s))).toUInt32 >>> ((nI 1).toUInt32 &&& Int32.toUInt32 31)).toInt32) &&& (nI 1431655765))).toUInt32 >>> ((nI 2).toUInt32 &&& Int32.toUInt32 31)).toInt32) &&& (nI 858993459))).toUInt32 >>> ((nI 4).toUInt32 &&& Int32.toUInt32 31)).toInt32)) &&& (nI 252645135)) + ((((((((nI (qPs s 99 (qN s))) - ((((nI (qPs s 99 (qN s))).toUInt32 >>> ((nI 1).toUInt32 &&& Int32.toUInt32 31)).toInt32) &&& (nI 1431655765))) &&& (nI 858993459)) + (((((nI (qPs s 99 (qN s))) - ((((nI (qPs s 99 (qN s))).toUInt32 >>> ((nI 1).toUInt32 &&& Int32.toUInt32 31)).toInt32) &&& (nI 1431655765))).toUInt32 >>> ((nI 2).toUInt32 &&& Int32.toUInt32 31)).toInt32) &&& (nI 858993459))) + ((((((nI (qPs s 99 (qN s))) - ((((nI (qPs s 99 (qN s))).toUInt32 >>> ((nI 1).toUInt32 &&& Int32.toUInt32 31)).toInt32) &&& (nI 1431655765))) &&& (nI 858993459)) + (((((nI (qPs s 99 (qN s))) - ((((nI (qPs s 99 (qN s))).toUInt32 >>> ((nI 1).toUInt32 &&& Int32.toUInt32 31)).toInt32) &&& (nI 1431655765))).toUInt32 >>> ((nI 2).toUInt32 &&& Int32.toUInt32 31)).toInt32) &&& (nI 858993459))).toUInt32 >>> ((nI 4).toUInt32 &&& Int32.toUInt32 31)).toInt32)) &&& (nI 252645135)).toUInt32 >>> ((nI 8).toUInt32 &&& Int32.toUInt32 31)).toInt32)).toUInt32 >>> ((nI 16).toUInt32 &&& Int32.toUInt32 31)).toInt32)) &&& (nI 63)) rfl rfl ?_
              exact E_iret rfl rfl
            refine E_callS (v := some (.int (((((((((nI (qPs s 99 (qN s))) - ((((nI (qPs s 99 (qN s))).toUInt32 >>> ((nI 1).toUInt32 &&& Int32.toUInt32 31)).toInt32) &&& (nI 1431655765))) &&& (nI 858993459)) + (((((nI (qPs s 99 (qN s))) - ((((nI (qPs s 99 (qN s))).toUInt32 >>> ((nI 1).toUInt32 &&& Int32.toUInt32 31)).toInt32) &&& (nI 1431655765))).toUInt32 >>> ((nI 2).toUInt32 &&& Int32.toUInt32 31)).toInt32) &&& (nI 858993459))) + ((((((nI (qPs s 99 (qN s))) - ((((nI (qPs s 99 (qN s))).toUInt32 >>> ((nI 1).toUInt32 &&& Int32.toUInt32 31)).toInt32) &&& (nI 1431655765))) &&& (nI 858993459)) + (((((nI (qPs s 99 (qN s))) - ((((nI (qPs s 99 (qN s))).toUInt32 >>> ((nI 1).toUInt32 &&& Int32.toUInt32 31)).toInt32) &&& (nI 1431655765))).toUInt32 >>> ((nI 2).toUInt32 &&& Int32.toUInt32 31)).toInt32) &&& (nI 858993459))).toUInt32 >>> ((nI 4).toUInt32 &&& Int32.toUInt32 31)).toInt32)) &&& (nI 252645135)) + ((((((((nI (qPs s 99 (qN s))) - ((((nI (qPs s 99 (qN s))).toUInt32 >>> ((nI 1).toUInt32 &&& Int32.toUInt32 31)).toInt32) &&& (nI 1431655765))) &&& (nI 858993459)) + (((((nI (qPs s 99 (qN s))) - ((((nI (qPs s 99 (qN s))).toUInt32 >>> ((nI 1).toUInt32 &&& Int32.toUInt32 31)).toInt32) &&& (nI 1431655765))).toUInt32 >>> ((nI 2).toUInt32 &&& Int32.toUInt32 31)).toInt32) &&& (nI 858993459))) + ((((((nI (qPs s 99 (qN s))) - ((((nI (qPs s 99 (qN s))).toUInt32 >>> ((nI 1).toUInt32 &&& Int32.toUInt32 31)).toInt32) &&& (nI 1431655765))) &&& (nI 858993459)) + (((((nI (qPs s 99 (qN s))) - ((((nI (qPs s 99 (qN s))).toUInt32 >>> ((nI 1).toUInt32 &&& Int32.toUInt32 31)).toInt32) &&& (nI 1431655765))).toUInt32 >>> ((nI 2).toUInt32 &&& Int32.toUInt32 31)).toInt32) &&& (nI 858993459))).toUInt32 >>> ((nI 4).toUInt32 &&& Int32.toUInt32 31)).toInt32)) &&& (nI 252645135)).toUInt32 >>> ((nI 8).toUInt32 &&& Int32.toUInt32 31)).toInt32)) + (((((((((nI (qPs s 99 (qN s))) - ((((nI (qPs s 99 (qN s))).toUInt32 >>> ((nI 1).toUInt32 &&& Int32.toUInt32 31)).toInt32) &&& (nI 1431655765))) &&& (nI 858993459)) + (((((nI (qPs s 99 (qN s))) - ((((nI (qPs s 99 (qN s))).toUInt32 >>> ((nI 1).toUInt32 &&& Int32.toUInt32 31)).toInt32) &&& (nI 1431655765))).toUInt32 >>> ((nI 2).toUInt32 &&& Int32.toUInt32 31)).toInt32) &&& (nI 858993459))) + ((((((nI (qPs s 99 (qN s))) - ((((nI (qPs s 99 (qN s))).toUInt32 >>> ((nI 1).toUInt32 &&& Int32.toUInt32 31)).toInt32) &&& (nI 1431655765))) &&& (nI 858993459)) + (((((nI (qPs s 99 (qN s))) - ((((nI (qPs s 99 (qN s))).toUInt32 >>> ((nI 1).toUInt32 &&& Int32.toUInt32 31)).toInt32) &&& (nI 1431655765))).toUInt32 >>> ((nI 2).toUInt32 &&& Int32.toUInt32 31)).toInt32) &&& (nI 858993459))).toUInt32 >>> ((nI 4).toUInt32 &&& Int32.toUInt32 31)).toInt32)) &&& (nI 252645135)) + ((((((((nI (qPs s 99 (qN s))) - ((((nI (qPs s 99 (qN s))).toUInt32 >>> ((nI 1).toUInt32 &&& Int32.toUInt32 31)).toInt32) &&& (nI 1431655765))) &&& (nI 858993459)) + (((((nI (qPs s 99 (qN s))) - ((((nI (qPs s 99 (qN s))).toUInt32 >>> ((nI 1).toUInt32 &&& Int32.toUInt32 31)).toInt32) &&& (nI 1431655765))).toUInt32 >>> ((nI 2).toUInt32 &&& Int32.toUInt32 31)).toInt32) &&& (nI 858993459))) + ((((((nI (qPs s 99 (qN s))) - ((((nI (qPs s 99 (qN s))).toUInt32 >>> ((nI 1).toUInt32 &&& Int32.toUInt32 31)).toInt32) &&& (nI 1431655765))) &&& (nI 858993459)) + (((((nI (qPs s 99 (qN s))) - ((((nI (qPs s 99 (qN s))).toUInt32 >>> ((nI 1).toUInt32 &&& Int32.toUInt32 31)).toInt32) &&& (nI 1431655765))).toUInt32 >>> ((nI 2).toUInt32 &&& Int32.toUInt32 31)).toInt32) &&& (nI 858993459))).toUInt32 >>> ((nI 4).toUInt32 &&& Int32.toUInt32 31)).toInt32)) &&& (nI 252645135)).toUInt32 >>> ((nI 8).toUInt32 &&& Int32.toUInt32 31)).toInt32)).toUInt32 >>> ((nI 16).toUInt32 &&& Int32.toUInt32 31)).toInt32)) &&& (nI 63)))) (As := [.int (nI (qPs s 99 (qN s)))]) (r0 := []) (cs2 := (ww im lf s d k ls rf rz ra rn rq lt m1 m2 m3 m4 bd fc hd sz el s g fm hm so si sh ce ca td wa kp la bf oo bo pw ow tr)) rfl rfl rfl (Nat.le_of_ble_eq_true rfl) rfl e1 (by decide) rfl ?_
            exact E_iret rfl rfl
          · show Ev ab_Z0 3 212 [.ref 65, .int (nI 2)] (ww im lf s d k ls rf rz ra rn rq lt m1 m2 m3 m4 bd fc hd sz el s g fm hm so si sh ce ca td wa kp la bf oo bo pw ow tr) (some (.int ((((((((((nI 0) + (((nI (qPs s 99 (qN s))) >>> ((nI 0) &&& 31)) &&& (nI 1))) + (((nI (qPs s 99 (qN s))) >>> ((nI 1) &&& 31)) &&& (nI 1))) + (((nI (qPs s 99 (qN s))) >>> ((nI 2) &&& 31)) &&& (nI 1))) + (((nI (qPs s 99 (qN s))) >>> ((nI 3) &&& 31)) &&& (nI 1))) + (((nI (qPs s 99 (qN s))) >>> ((nI 4) &&& 31)) &&& (nI 1))) + (((nI (qPs s 99 (qN s))) >>> ((nI 5) &&& 31)) &&& (nI 1))) + (((nI (qPs s 99 (qN s))) >>> ((nI 6) &&& 31)) &&& (nI 1))) + (((nI (qPs s 99 (qN s))) >>> ((nI 7) &&& 31)) &&& (nI 1))) + (((nI (qPs s 99 (qN s))) >>> ((nI 8) &&& 31)) &&& (nI 1)))), (ww im lf s d k ls rf rz ra rn rq lt m1 m2 m3 m4 bd fc hd sz el s g fm hm so si sh ce ca td wa kp la bf oo bo pw ow tr))
            refine Ef.in (md := mX6_status) (L := [some (.ref 65), some (.int (nI 2))]) rfl (Nat.le_of_ble_eq_true rfl) rfl ?_
            refine E_iload_n at_X6_status_0 rfl ?_
            refine E_bipush (x := nI 11) at_X6_status_1 (by decide) ?_
            refine E_ic (t := 22) (b := true) at_X6_status_3 rfl (by decide) ?_
            refine E_iload_n at_X6_status_22 rfl ?_
            refine E_tsIn (off := 63) (t := 86) at_X6_status_23 (by decide) rfl rfl ?_
            refine E_aload_n rfl rfl ?_
            refine E_aload_n rfl rfl ?_
            refine E_bipush (x := nI 99) rfl (by decide) ?_
            refine E_callV (v := some (.int (nI (qPs s 99 (qN s))))) (As := [.ref 65, .int (nI 99)]) (r0 := [.ref 65]) (cs2 := (ww im lf s d k ls rf rz ra rn rq lt m1 m2 m3 m4 bd fc hd sz el s g fm hm so si sh ce ca td wa kp la bf oo bo pw ow tr)) rfl rfl rfl (Nat.le_of_ble_eq_true rfl) rfl (ab_rvOf w65 rfl) (mo_piecesOf w_m I (by omega)) (by decide) rfl ?_
            have e2 : Ev ab_Z0 1 167 [.ref 65, .int (nI (qPs s 99 (qN s)))] (ww im lf s d k ls rf rz ra rn rq lt m1 m2 m3 m4 bd fc hd sz el s g fm hm so si sh ce ca td wa kp la bf oo bo pw ow tr) (some (.int ((((((((((nI 0) + (((nI (qPs s 99 (qN s))) >>> ((nI 0) &&& 31)) &&& (nI 1))) + (((nI (qPs s 99 (qN s))) >>> ((nI 1) &&& 31)) &&& (nI 1))) + (((nI (qPs s 99 (qN s))) >>> ((nI 2) &&& 31)) &&& (nI 1))) + (((nI (qPs s 99 (qN s))) >>> ((nI 3) &&& 31)) &&& (nI 1))) + (((nI (qPs s 99 (qN s))) >>> ((nI 4) &&& 31)) &&& (nI 1))) + (((nI (qPs s 99 (qN s))) >>> ((nI 5) &&& 31)) &&& (nI 1))) + (((nI (qPs s 99 (qN s))) >>> ((nI 6) &&& 31)) &&& (nI 1))) + (((nI (qPs s 99 (qN s))) >>> ((nI 7) &&& 31)) &&& (nI 1))) + (((nI (qPs s 99 (qN s))) >>> ((nI 8) &&& 31)) &&& (nI 1)))), (ww im lf s d k ls rf rz ra rn rq lt m1 m2 m3 m4 bd fc hd sz el s g fm hm so si sh ce ca td wa kp la bf oo bo pw ow tr)) := by
              refine Ef.in (md := mX6_many) (L := [some (.ref 65), some (.int (nI (qPs s 99 (qN s)))), none, none]) rfl (Nat.le_of_ble_eq_true rfl) rfl ?_
              refine E_iconst (x := nI 0) rfl (by decide) ?_
              refine E_istore_n (L2 := [some (.ref 65), some (.int (nI (qPs s 99 (qN s)))), some (.int (nI 0)), none]) rfl rfl ?_
              refine E_iconst (x := nI 0) rfl (by decide) ?_
              refine E_istore_n (L2 := [some (.ref 65), some (.int (nI (qPs s 99 (qN s)))), some (.int (nI 0)), some (.int (nI 0))]) rfl rfl ?_
              refine E_iload_n at_X6_many_4 rfl ?_
              refine E_bipush (x := nI 9) at_X6_many_5 (by decide) ?_
              refine E_ic (t := 24) (b := false) at_X6_many_7 rfl (by decide) ?_
              refine E_iload_n at_X6_many_10 rfl ?_
              refine E_iload_n at_X6_many_11 rfl ?_
              refine E_iload_n at_X6_many_12 rfl ?_
              refine E_ishr (z := (nI (qPs s 99 (qN s))) >>> ((nI 0) &&& 31)) at_X6_many_13 rfl ?_
              refine E_iconst (x := nI 1) at_X6_many_14 (by decide) ?_
              refine E_iand (z := ((nI (qPs s 99 (qN s))) >>> ((nI 0) &&& 31)) &&& (nI 1)) at_X6_many_15 rfl ?_
              refine E_iadd (z := (nI 0) + (((nI (qPs s 99 (qN s))) >>> ((nI 0) &&& 31)) &&& (nI 1))) at_X6_many_16 rfl ?_
              refine E_istore_n (L2 := [some (.ref 65), some (.int (nI (qPs s 99 (qN s)))), some (.int ((nI 0) + (((nI (qPs s 99 (qN s))) >>> ((nI 0) &&& 31)) &&& (nI 1)))), some (.int (nI 0))]) at_X6_many_17 rfl ?_
              refine E_iinc (y := nI 1) (L2 := [some (.ref 65), some (.int (nI (qPs s 99 (qN s)))), some (.int ((nI 0) + (((nI (qPs s 99 (qN s))) >>> ((nI 0) &&& 31)) &&& (nI 1)))), some (.int (nI 1))]) at_X6_many_18 rfl (by decide) rfl ?_
              refine E_goto (t := 4) at_X6_many_21 rfl ?_
              refine E_iload_n at_X6_many_4 rfl ?_
              refine E_bipush (x := nI 9) at_X6_many_5 (by decide) ?_
              refine E_ic (t := 24) (b := false) at_X6_many_7 rfl (by decide) ?_
              refine E_iload_n at_X6_many_10 rfl ?_
              refine E_iload_n at_X6_many_11 rfl ?_
              refine E_iload_n at_X6_many_12 rfl ?_
              refine E_ishr (z := (nI (qPs s 99 (qN s))) >>> ((nI 1) &&& 31)) at_X6_many_13 rfl ?_
              refine E_iconst (x := nI 1) at_X6_many_14 (by decide) ?_
              refine E_iand (z := ((nI (qPs s 99 (qN s))) >>> ((nI 1) &&& 31)) &&& (nI 1)) at_X6_many_15 rfl ?_
              refine E_iadd (z := ((nI 0) + (((nI (qPs s 99 (qN s))) >>> ((nI 0) &&& 31)) &&& (nI 1))) + (((nI (qPs s 99 (qN s))) >>> ((nI 1) &&& 31)) &&& (nI 1))) at_X6_many_16 rfl ?_
              refine E_istore_n (L2 := [some (.ref 65), some (.int (nI (qPs s 99 (qN s)))), some (.int (((nI 0) + (((nI (qPs s 99 (qN s))) >>> ((nI 0) &&& 31)) &&& (nI 1))) + (((nI (qPs s 99 (qN s))) >>> ((nI 1) &&& 31)) &&& (nI 1)))), some (.int (nI 1))]) at_X6_many_17 rfl ?_
              refine E_iinc (y := nI 2) (L2 := [some (.ref 65), some (.int (nI (qPs s 99 (qN s)))), some (.int (((nI 0) + (((nI (qPs s 99 (qN s))) >>> ((nI 0) &&& 31)) &&& (nI 1))) + (((nI (qPs s 99 (qN s))) >>> ((nI 1) &&& 31)) &&& (nI 1)))), some (.int (nI 2))]) at_X6_many_18 rfl (by decide) rfl ?_
              refine E_goto (t := 4) at_X6_many_21 rfl ?_
              refine E_iload_n at_X6_many_4 rfl ?_
              refine E_bipush (x := nI 9) at_X6_many_5 (by decide) ?_
              refine E_ic (t := 24) (b := false) at_X6_many_7 rfl (by decide) ?_
              refine E_iload_n at_X6_many_10 rfl ?_
              refine E_iload_n at_X6_many_11 rfl ?_
              refine E_iload_n at_X6_many_12 rfl ?_
              refine E_ishr (z := (nI (qPs s 99 (qN s))) >>> ((nI 2) &&& 31)) at_X6_many_13 rfl ?_
              refine E_iconst (x := nI 1) at_X6_many_14 (by decide) ?_
              refine E_iand (z := ((nI (qPs s 99 (qN s))) >>> ((nI 2) &&& 31)) &&& (nI 1)) at_X6_many_15 rfl ?_
              refine E_iadd (z := (((nI 0) + (((nI (qPs s 99 (qN s))) >>> ((nI 0) &&& 31)) &&& (nI 1))) + (((nI (qPs s 99 (qN s))) >>> ((nI 1) &&& 31)) &&& (nI 1))) + (((nI (qPs s 99 (qN s))) >>> ((nI 2) &&& 31)) &&& (nI 1))) at_X6_many_16 rfl ?_
              refine E_istore_n (L2 := [some (.ref 65), some (.int (nI (qPs s 99 (qN s)))), some (.int ((((nI 0) + (((nI (qPs s 99 (qN s))) >>> ((nI 0) &&& 31)) &&& (nI 1))) + (((nI (qPs s 99 (qN s))) >>> ((nI 1) &&& 31)) &&& (nI 1))) + (((nI (qPs s 99 (qN s))) >>> ((nI 2) &&& 31)) &&& (nI 1)))), some (.int (nI 2))]) at_X6_many_17 rfl ?_
              refine E_iinc (y := nI 3) (L2 := [some (.ref 65), some (.int (nI (qPs s 99 (qN s)))), some (.int ((((nI 0) + (((nI (qPs s 99 (qN s))) >>> ((nI 0) &&& 31)) &&& (nI 1))) + (((nI (qPs s 99 (qN s))) >>> ((nI 1) &&& 31)) &&& (nI 1))) + (((nI (qPs s 99 (qN s))) >>> ((nI 2) &&& 31)) &&& (nI 1)))), some (.int (nI 3))]) at_X6_many_18 rfl (by decide) rfl ?_
              refine E_goto (t := 4) at_X6_many_21 rfl ?_
              refine E_iload_n at_X6_many_4 rfl ?_
              refine E_bipush (x := nI 9) at_X6_many_5 (by decide) ?_
              refine E_ic (t := 24) (b := false) at_X6_many_7 rfl (by decide) ?_
              refine E_iload_n at_X6_many_10 rfl ?_
              refine E_iload_n at_X6_many_11 rfl ?_
              refine E_iload_n at_X6_many_12 rfl ?_
              refine E_ishr (z := (nI (qPs s 99 (qN s))) >>> ((nI 3) &&& 31)) at_X6_many_13 rfl ?_
              refine E_iconst (x := nI 1) at_X6_many_14 (by decide) ?_
              refine E_iand (z := ((nI (qPs s 99 (qN s))) >>> ((nI 3) &&& 31)) &&& (nI 1)) at_X6_many_15 rfl ?_
              refine E_iadd (z := ((((nI 0) + (((nI (qPs s 99 (qN s))) >>> ((nI 0) &&& 31)) &&& (nI 1))) + (((nI (qPs s 99 (qN s))) >>> ((nI 1) &&& 31)) &&& (nI 1))) + (((nI (qPs s 99 (qN s))) >>> ((nI 2) &&& 31)) &&& (nI 1))) + (((nI (qPs s 99 (qN s))) >>> ((nI 3) &&& 31)) &&& (nI 1))) at_X6_many_16 rfl ?_
              refine E_istore_n (L2 := [some (.ref 65), some (.int (nI (qPs s 99 (qN s)))), some (.int (((((nI 0) + (((nI (qPs s 99 (qN s))) >>> ((nI 0) &&& 31)) &&& (nI 1))) + (((nI (qPs s 99 (qN s))) >>> ((nI 1) &&& 31)) &&& (nI 1))) + (((nI (qPs s 99 (qN s))) >>> ((nI 2) &&& 31)) &&& (nI 1))) + (((nI (qPs s 99 (qN s))) >>> ((nI 3) &&& 31)) &&& (nI 1)))), some (.int (nI 3))]) at_X6_many_17 rfl ?_
              refine E_iinc (y := nI 4) (L2 := [some (.ref 65), some (.int (nI (qPs s 99 (qN s)))), some (.int (((((nI 0) + (((nI (qPs s 99 (qN s))) >>> ((nI 0) &&& 31)) &&& (nI 1))) + (((nI (qPs s 99 (qN s))) >>> ((nI 1) &&& 31)) &&& (nI 1))) + (((nI (qPs s 99 (qN s))) >>> ((nI 2) &&& 31)) &&& (nI 1))) + (((nI (qPs s 99 (qN s))) >>> ((nI 3) &&& 31)) &&& (nI 1)))), some (.int (nI 4))]) at_X6_many_18 rfl (by decide) rfl ?_
              refine E_goto (t := 4) at_X6_many_21 rfl ?_
              refine E_iload_n at_X6_many_4 rfl ?_
              refine E_bipush (x := nI 9) at_X6_many_5 (by decide) ?_
              refine E_ic (t := 24) (b := false) at_X6_many_7 rfl (by decide) ?_
              refine E_iload_n at_X6_many_10 rfl ?_
              refine E_iload_n at_X6_many_11 rfl ?_
              refine E_iload_n at_X6_many_12 rfl ?_
              refine E_ishr (z := (nI (qPs s 99 (qN s))) >>> ((nI 4) &&& 31)) at_X6_many_13 rfl ?_
              refine E_iconst (x := nI 1) at_X6_many_14 (by decide) ?_
              refine E_iand (z := ((nI (qPs s 99 (qN s))) >>> ((nI 4) &&& 31)) &&& (nI 1)) at_X6_many_15 rfl ?_
              refine E_iadd (z := (((((nI 0) + (((nI (qPs s 99 (qN s))) >>> ((nI 0) &&& 31)) &&& (nI 1))) + (((nI (qPs s 99 (qN s))) >>> ((nI 1) &&& 31)) &&& (nI 1))) + (((nI (qPs s 99 (qN s))) >>> ((nI 2) &&& 31)) &&& (nI 1))) + (((nI (qPs s 99 (qN s))) >>> ((nI 3) &&& 31)) &&& (nI 1))) + (((nI (qPs s 99 (qN s))) >>> ((nI 4) &&& 31)) &&& (nI 1))) at_X6_many_16 rfl ?_
              refine E_istore_n (L2 := [some (.ref 65), some (.int (nI (qPs s 99 (qN s)))), some (.int ((((((nI 0) + (((nI (qPs s 99 (qN s))) >>> ((nI 0) &&& 31)) &&& (nI 1))) + (((nI (qPs s 99 (qN s))) >>> ((nI 1) &&& 31)) &&& (nI 1))) + (((nI (qPs s 99 (qN s))) >>> ((nI 2) &&& 31)) &&& (nI 1))) + (((nI (qPs s 99 (qN s))) >>> ((nI 3) &&& 31)) &&& (nI 1))) + (((nI (qPs s 99 (qN s))) >>> ((nI 4) &&& 31)) &&& (nI 1)))), some (.int (nI 4))]) at_X6_many_17 rfl ?_
              refine E_iinc (y := nI 5) (L2 := [some (.ref 65), some (.int (nI (qPs s 99 (qN s)))), some (.int ((((((nI 0) + (((nI (qPs s 99 (qN s))) >>> ((nI 0) &&& 31)) &&& (nI 1))) + (((nI (qPs s 99 (qN s))) >>> ((nI 1) &&& 31)) &&& (nI 1))) + (((nI (qPs s 99 (qN s))) >>> ((nI 2) &&& 31)) &&& (nI 1))) + (((nI (qPs s 99 (qN s))) >>> ((nI 3) &&& 31)) &&& (nI 1))) + (((nI (qPs s 99 (qN s))) >>> ((nI 4) &&& 31)) &&& (nI 1)))), some (.int (nI 5))]) at_X6_many_18 rfl (by decide) rfl ?_
              refine E_goto (t := 4) at_X6_many_21 rfl ?_
              refine E_iload_n at_X6_many_4 rfl ?_
              refine E_bipush (x := nI 9) at_X6_many_5 (by decide) ?_
              refine E_ic (t := 24) (b := false) at_X6_many_7 rfl (by decide) ?_
              refine E_iload_n at_X6_many_10 rfl ?_
              refine E_iload_n at_X6_many_11 rfl ?_
              refine E_iload_n at_X6_many_12 rfl ?_
              refine E_ishr (z := (nI (qPs s 99 (qN s))) >>> ((nI 5) &&& 31)) at_X6_many_13 rfl ?_
              refine E_iconst (x := nI 1) at_X6_many_14 (by decide) ?_
              refine E_iand (z := ((nI (qPs s 99 (qN s))) >>> ((nI 5) &&& 31)) &&& (nI 1)) at_X6_many_15 rfl ?_
              refine E_iadd (z := ((((((nI 0) + (((nI (qPs s 99 (qN s))) >>> ((nI 0) &&& 31)) &&& (nI 1))) + (((nI (qPs s 99 (qN s))) >>> ((nI 1) &&& 31)) &&& (nI 1))) + (((nI (qPs s 99 (qN s))) >>> ((nI 2) &&& 31)) &&& (nI 1))) + (((nI (qPs s 99 (qN s))) >>> ((nI 3) &&& 31)) &&& (nI 1))) + (((nI (qPs s 99 (qN s))) >>> ((nI 4) &&& 31)) &&& (nI 1))) + (((nI (qPs s 99 (qN s))) >>> ((nI 5) &&& 31)) &&& (nI 1))) at_X6_many_16 rfl ?_
              refine E_istore_n (L2 := [some (.ref 65), some (.int (nI (qPs s 99 (qN s)))), some (.int (((((((nI 0) + (((nI (qPs s 99 (qN s))) >>> ((nI 0) &&& 31)) &&& (nI 1))) + (((nI (qPs s 99 (qN s))) >>> ((nI 1) &&& 31)) &&& (nI 1))) + (((nI (qPs s 99 (qN s))) >>> ((nI 2) &&& 31)) &&& (nI 1))) + (((nI (qPs s 99 (qN s))) >>> ((nI 3) &&& 31)) &&& (nI 1))) + (((nI (qPs s 99 (qN s))) >>> ((nI 4) &&& 31)) &&& (nI 1))) + (((nI (qPs s 99 (qN s))) >>> ((nI 5) &&& 31)) &&& (nI 1)))), some (.int (nI 5))]) at_X6_many_17 rfl ?_
              refine E_iinc (y := nI 6) (L2 := [some (.ref 65), some (.int (nI (qPs s 99 (qN s)))), some (.int (((((((nI 0) + (((nI (qPs s 99 (qN s))) >>> ((nI 0) &&& 31)) &&& (nI 1))) + (((nI (qPs s 99 (qN s))) >>> ((nI 1) &&& 31)) &&& (nI 1))) + (((nI (qPs s 99 (qN s))) >>> ((nI 2) &&& 31)) &&& (nI 1))) + (((nI (qPs s 99 (qN s))) >>> ((nI 3) &&& 31)) &&& (nI 1))) + (((nI (qPs s 99 (qN s))) >>> ((nI 4) &&& 31)) &&& (nI 1))) + (((nI (qPs s 99 (qN s))) >>> ((nI 5) &&& 31)) &&& (nI 1)))), some (.int (nI 6))]) at_X6_many_18 rfl (by decide) rfl ?_
              refine E_goto (t := 4) at_X6_many_21 rfl ?_
              refine E_iload_n at_X6_many_4 rfl ?_
              refine E_bipush (x := nI 9) at_X6_many_5 (by decide) ?_
              refine E_ic (t := 24) (b := false) at_X6_many_7 rfl (by decide) ?_
              refine E_iload_n at_X6_many_10 rfl ?_
              refine E_iload_n at_X6_many_11 rfl ?_
              refine E_iload_n at_X6_many_12 rfl ?_
              refine E_ishr (z := (nI (qPs s 99 (qN s))) >>> ((nI 6) &&& 31)) at_X6_many_13 rfl ?_
              refine E_iconst (x := nI 1) at_X6_many_14 (by decide) ?_
              refine E_iand (z := ((nI (qPs s 99 (qN s))) >>> ((nI 6) &&& 31)) &&& (nI 1)) at_X6_many_15 rfl ?_
              refine E_iadd (z := (((((((nI 0) + (((nI (qPs s 99 (qN s))) >>> ((nI 0) &&& 31)) &&& (nI 1))) + (((nI (qPs s 99 (qN s))) >>> ((nI 1) &&& 31)) &&& (nI 1))) + (((nI (qPs s 99 (qN s))) >>> ((nI 2) &&& 31)) &&& (nI 1))) + (((nI (qPs s 99 (qN s))) >>> ((nI 3) &&& 31)) &&& (nI 1))) + (((nI (qPs s 99 (qN s))) >>> ((nI 4) &&& 31)) &&& (nI 1))) + (((nI (qPs s 99 (qN s))) >>> ((nI 5) &&& 31)) &&& (nI 1))) + (((nI (qPs s 99 (qN s))) >>> ((nI 6) &&& 31)) &&& (nI 1))) at_X6_many_16 rfl ?_
              refine E_istore_n (L2 := [some (.ref 65), some (.int (nI (qPs s 99 (qN s)))), some (.int ((((((((nI 0) + (((nI (qPs s 99 (qN s))) >>> ((nI 0) &&& 31)) &&& (nI 1))) + (((nI (qPs s 99 (qN s))) >>> ((nI 1) &&& 31)) &&& (nI 1))) + (((nI (qPs s 99 (qN s))) >>> ((nI 2) &&& 31)) &&& (nI 1))) + (((nI (qPs s 99 (qN s))) >>> ((nI 3) &&& 31)) &&& (nI 1))) + (((nI (qPs s 99 (qN s))) >>> ((nI 4) &&& 31)) &&& (nI 1))) + (((nI (qPs s 99 (qN s))) >>> ((nI 5) &&& 31)) &&& (nI 1))) + (((nI (qPs s 99 (qN s))) >>> ((nI 6) &&& 31)) &&& (nI 1)))), some (.int (nI 6))]) at_X6_many_17 rfl ?_
              refine E_iinc (y := nI 7) (L2 := [some (.ref 65), some (.int (nI (qPs s 99 (qN s)))), some (.int ((((((((nI 0) + (((nI (qPs s 99 (qN s))) >>> ((nI 0) &&& 31)) &&& (nI 1))) + (((nI (qPs s 99 (qN s))) >>> ((nI 1) &&& 31)) &&& (nI 1))) + (((nI (qPs s 99 (qN s))) >>> ((nI 2) &&& 31)) &&& (nI 1))) + (((nI (qPs s 99 (qN s))) >>> ((nI 3) &&& 31)) &&& (nI 1))) + (((nI (qPs s 99 (qN s))) >>> ((nI 4) &&& 31)) &&& (nI 1))) + (((nI (qPs s 99 (qN s))) >>> ((nI 5) &&& 31)) &&& (nI 1))) + (((nI (qPs s 99 (qN s))) >>> ((nI 6) &&& 31)) &&& (nI 1)))), some (.int (nI 7))]) at_X6_many_18 rfl (by decide) rfl ?_
              refine E_goto (t := 4) at_X6_many_21 rfl ?_
              refine E_iload_n at_X6_many_4 rfl ?_
              refine E_bipush (x := nI 9) at_X6_many_5 (by decide) ?_
              refine E_ic (t := 24) (b := false) at_X6_many_7 rfl (by decide) ?_
              refine E_iload_n at_X6_many_10 rfl ?_
              refine E_iload_n at_X6_many_11 rfl ?_
              refine E_iload_n at_X6_many_12 rfl ?_
              refine E_ishr (z := (nI (qPs s 99 (qN s))) >>> ((nI 7) &&& 31)) at_X6_many_13 rfl ?_
              refine E_iconst (x := nI 1) at_X6_many_14 (by decide) ?_
              refine E_iand (z := ((nI (qPs s 99 (qN s))) >>> ((nI 7) &&& 31)) &&& (nI 1)) at_X6_many_15 rfl ?_
              refine E_iadd (z := ((((((((nI 0) + (((nI (qPs s 99 (qN s))) >>> ((nI 0) &&& 31)) &&& (nI 1))) + (((nI (qPs s 99 (qN s))) >>> ((nI 1) &&& 31)) &&& (nI 1))) + (((nI (qPs s 99 (qN s))) >>> ((nI 2) &&& 31)) &&& (nI 1))) + (((nI (qPs s 99 (qN s))) >>> ((nI 3) &&& 31)) &&& (nI 1))) + (((nI (qPs s 99 (qN s))) >>> ((nI 4) &&& 31)) &&& (nI 1))) + (((nI (qPs s 99 (qN s))) >>> ((nI 5) &&& 31)) &&& (nI 1))) + (((nI (qPs s 99 (qN s))) >>> ((nI 6) &&& 31)) &&& (nI 1))) + (((nI (qPs s 99 (qN s))) >>> ((nI 7) &&& 31)) &&& (nI 1))) at_X6_many_16 rfl ?_
              refine E_istore_n (L2 := [some (.ref 65), some (.int (nI (qPs s 99 (qN s)))), some (.int (((((((((nI 0) + (((nI (qPs s 99 (qN s))) >>> ((nI 0) &&& 31)) &&& (nI 1))) + (((nI (qPs s 99 (qN s))) >>> ((nI 1) &&& 31)) &&& (nI 1))) + (((nI (qPs s 99 (qN s))) >>> ((nI 2) &&& 31)) &&& (nI 1))) + (((nI (qPs s 99 (qN s))) >>> ((nI 3) &&& 31)) &&& (nI 1))) + (((nI (qPs s 99 (qN s))) >>> ((nI 4) &&& 31)) &&& (nI 1))) + (((nI (qPs s 99 (qN s))) >>> ((nI 5) &&& 31)) &&& (nI 1))) + (((nI (qPs s 99 (qN s))) >>> ((nI 6) &&& 31)) &&& (nI 1))) + (((nI (qPs s 99 (qN s))) >>> ((nI 7) &&& 31)) &&& (nI 1)))), some (.int (nI 7))]) at_X6_many_17 rfl ?_
              refine E_iinc (y := nI 8) (L2 := [some (.ref 65), some (.int (nI (qPs s 99 (qN s)))), some (.int (((((((((nI 0) + (((nI (qPs s 99 (qN s))) >>> ((nI 0) &&& 31)) &&& (nI 1))) + (((nI (qPs s 99 (qN s))) >>> ((nI 1) &&& 31)) &&& (nI 1))) + (((nI (qPs s 99 (qN s))) >>> ((nI 2) &&& 31)) &&& (nI 1))) + (((nI (qPs s 99 (qN s))) >>> ((nI 3) &&& 31)) &&& (nI 1))) + (((nI (qPs s 99 (qN s))) >>> ((nI 4) &&& 31)) &&& (nI 1))) + (((nI (qPs s 99 (qN s))) >>> ((nI 5) &&& 31)) &&& (nI 1))) + (((nI (qPs s 99 (qN s))) >>> ((nI 6) &&& 31)) &&& (nI 1))) + (((nI (qPs s 99 (qN s))) >>> ((nI 7) &&& 31)) &&& (nI 1)))), some (.int (nI 8))]) at_X6_many_18 rfl (by decide) rfl ?_
              refine E_goto (t := 4) at_X6_many_21 rfl ?_
              refine E_iload_n at_X6_many_4 rfl ?_
              refine E_bipush (x := nI 9) at_X6_many_5 (by decide) ?_
              refine E_ic (t := 24) (b := false) at_X6_many_7 rfl (by decide) ?_
              refine E_iload_n at_X6_many_10 rfl ?_
              refine E_iload_n at_X6_many_11 rfl ?_
              refine E_iload_n at_X6_many_12 rfl ?_
              refine E_ishr (z := (nI (qPs s 99 (qN s))) >>> ((nI 8) &&& 31)) at_X6_many_13 rfl ?_
              refine E_iconst (x := nI 1) at_X6_many_14 (by decide) ?_
              refine E_iand (z := ((nI (qPs s 99 (qN s))) >>> ((nI 8) &&& 31)) &&& (nI 1)) at_X6_many_15 rfl ?_
              refine E_iadd (z := (((((((((nI 0) + (((nI (qPs s 99 (qN s))) >>> ((nI 0) &&& 31)) &&& (nI 1))) + (((nI (qPs s 99 (qN s))) >>> ((nI 1) &&& 31)) &&& (nI 1))) + (((nI (qPs s 99 (qN s))) >>> ((nI 2) &&& 31)) &&& (nI 1))) + (((nI (qPs s 99 (qN s))) >>> ((nI 3) &&& 31)) &&& (nI 1))) + (((nI (qPs s 99 (qN s))) >>> ((nI 4) &&& 31)) &&& (nI 1))) + (((nI (qPs s 99 (qN s))) >>> ((nI 5) &&& 31)) &&& (nI 1))) + (((nI (qPs s 99 (qN s))) >>> ((nI 6) &&& 31)) &&& (nI 1))) + (((nI (qPs s 99 (qN s))) >>> ((nI 7) &&& 31)) &&& (nI 1))) + (((nI (qPs s 99 (qN s))) >>> ((nI 8) &&& 31)) &&& (nI 1))) at_X6_many_16 rfl ?_
              refine E_istore_n (L2 := [some (.ref 65), some (.int (nI (qPs s 99 (qN s)))), some (.int ((((((((((nI 0) + (((nI (qPs s 99 (qN s))) >>> ((nI 0) &&& 31)) &&& (nI 1))) + (((nI (qPs s 99 (qN s))) >>> ((nI 1) &&& 31)) &&& (nI 1))) + (((nI (qPs s 99 (qN s))) >>> ((nI 2) &&& 31)) &&& (nI 1))) + (((nI (qPs s 99 (qN s))) >>> ((nI 3) &&& 31)) &&& (nI 1))) + (((nI (qPs s 99 (qN s))) >>> ((nI 4) &&& 31)) &&& (nI 1))) + (((nI (qPs s 99 (qN s))) >>> ((nI 5) &&& 31)) &&& (nI 1))) + (((nI (qPs s 99 (qN s))) >>> ((nI 6) &&& 31)) &&& (nI 1))) + (((nI (qPs s 99 (qN s))) >>> ((nI 7) &&& 31)) &&& (nI 1))) + (((nI (qPs s 99 (qN s))) >>> ((nI 8) &&& 31)) &&& (nI 1)))), some (.int (nI 8))]) at_X6_many_17 rfl ?_
              refine E_iinc (y := nI 9) (L2 := [some (.ref 65), some (.int (nI (qPs s 99 (qN s)))), some (.int ((((((((((nI 0) + (((nI (qPs s 99 (qN s))) >>> ((nI 0) &&& 31)) &&& (nI 1))) + (((nI (qPs s 99 (qN s))) >>> ((nI 1) &&& 31)) &&& (nI 1))) + (((nI (qPs s 99 (qN s))) >>> ((nI 2) &&& 31)) &&& (nI 1))) + (((nI (qPs s 99 (qN s))) >>> ((nI 3) &&& 31)) &&& (nI 1))) + (((nI (qPs s 99 (qN s))) >>> ((nI 4) &&& 31)) &&& (nI 1))) + (((nI (qPs s 99 (qN s))) >>> ((nI 5) &&& 31)) &&& (nI 1))) + (((nI (qPs s 99 (qN s))) >>> ((nI 6) &&& 31)) &&& (nI 1))) + (((nI (qPs s 99 (qN s))) >>> ((nI 7) &&& 31)) &&& (nI 1))) + (((nI (qPs s 99 (qN s))) >>> ((nI 8) &&& 31)) &&& (nI 1)))), some (.int (nI 9))]) at_X6_many_18 rfl (by decide) rfl ?_
              refine E_goto (t := 4) at_X6_many_21 rfl ?_
              refine E_iload_n at_X6_many_4 rfl ?_
              refine E_bipush (x := nI 9) at_X6_many_5 (by decide) ?_
              refine E_ic (t := 24) (b := true) at_X6_many_7 rfl (by decide) ?_
              refine E_iload_n rfl rfl ?_
              exact E_iret rfl rfl
            refine E_callV (v := some (.int ((((((((((nI 0) + (((nI (qPs s 99 (qN s))) >>> ((nI 0) &&& 31)) &&& (nI 1))) + (((nI (qPs s 99 (qN s))) >>> ((nI 1) &&& 31)) &&& (nI 1))) + (((nI (qPs s 99 (qN s))) >>> ((nI 2) &&& 31)) &&& (nI 1))) + (((nI (qPs s 99 (qN s))) >>> ((nI 3) &&& 31)) &&& (nI 1))) + (((nI (qPs s 99 (qN s))) >>> ((nI 4) &&& 31)) &&& (nI 1))) + (((nI (qPs s 99 (qN s))) >>> ((nI 5) &&& 31)) &&& (nI 1))) + (((nI (qPs s 99 (qN s))) >>> ((nI 6) &&& 31)) &&& (nI 1))) + (((nI (qPs s 99 (qN s))) >>> ((nI 7) &&& 31)) &&& (nI 1))) + (((nI (qPs s 99 (qN s))) >>> ((nI 8) &&& 31)) &&& (nI 1))))) (As := [.ref 65, .int (nI (qPs s 99 (qN s)))]) (r0 := []) (cs2 := (ww im lf s d k ls rf rz ra rn rq lt m1 m2 m3 m4 bd fc hd sz el s g fm hm so si sh ce ca td wa kp la bf oo bo pw ow tr)) rfl rfl rfl (Nat.le_of_ble_eq_true rfl) rfl (ab_rvOf w65 rfl) e2 (by decide) rfl ?_
            exact E_iret rfl rfl
          · exact ⟨I, rfl, hf, ⟨⟨d0, d1, d2, d3, d4, d5, d6, d7, d8⟩, ⟨k0, k1, k2, k3, k4, k5, k6, k7, k8⟩, ⟨r0, r1, r2, r3, r4, r5, r6, r7, r8⟩⟩, iM, iT, iS, l_el, l_ls, l_lt, l_bd, l_fc, l_fm, l_hm, l_so, l_si, l_sh, l_ce, l_ca, l_td, l_wa, l_kp, l_la, l_bf, l_oo, l_bo, l_pw, l_ow, l_tr⟩
        · by_cases f4 : a1k = 3
          · subst f4
            have := qPs_in s 99 (i := qN s) (by omega)
            refine ⟨(nI (qWs s (qPs s 99 (qN s)) (qN s))), (nI (qWs s (qPs s 99 (qN s)) (qN s))), (im, lf, s, d, k, ls, rf, rz, ra, rn, rq, lt, m1, m2, m3, m4, bd, fc, hd, sz, el, s, g, fm, hm, so, si, sh, ce, ca, td, wa, kp, la, bf, oo, bo, pw, ow, tr), (im, lf, s, d, k, ls, rf, rz, ra, rn, rq, lt, m1, m2, m3, m4, bd, fc, hd, sz, el, s, g, fm, hm, so, si, sh, ce, ca, td, wa, kp, la, bf, oo, bo, pw, ow, tr), ?_, ?_, ?_⟩
            · show Ev ab_Z0 3 114 [.ref 0, .int (nI 3)] (ww im lf s d k ls rf rz ra rn rq lt m1 m2 m3 m4 bd fc hd sz el s g fm hm so si sh ce ca td wa kp la bf oo bo pw ow tr) (some (.int (nI (qWs s (qPs s 99 (qN s)) (qN s)))), (ww im lf s d k ls rf rz ra rn rq lt m1 m2 m3 m4 bd fc hd sz el s g fm hm so si sh ce ca td wa kp la bf oo bo pw ow tr))
              refine Ef.in (md := mX5_status) (L := [some (.ref 0), some (.int (nI 3))]) rfl (Nat.le_of_ble_eq_true rfl) rfl ?_
              refine E_iload_n at_X5_status_0 rfl ?_
              refine E_tsIn (off := 82) (t := 83) at_X5_status_1 (by decide) rfl rfl ?_
              refine E_aload_n rfl rfl ?_
              refine E_getfield (v := .ref 1) rfl w0 rfl (by decide) rfl ?_
              refine E_aload_n rfl rfl ?_
              refine E_getfield (v := .ref 1) rfl w0 rfl (by decide) rfl ?_
              refine E_callV (v := some (.int (nI (qPs s 99 (qN s))))) (As := [.ref 1]) (r0 := [.ref 1]) (cs2 := (ww im lf s d k ls rf rz ra rn rq lt m1 m2 m3 m4 bd fc hd sz el s g fm hm so si sh ce ca td wa kp la bf oo bo pw ow tr)) rfl rfl rfl (Nat.le_of_ble_eq_true rfl) rfl (ab_rvOf w1 rfl) (sq_basin w_q1 I) (by decide) rfl ?_
              refine E_callV (v := some (.int (nI (qWs s (qPs s 99 (qN s)) (qN s))))) (As := [.ref 1, .int (nI (qPs s 99 (qN s)))]) (r0 := []) (cs2 := (ww im lf s d k ls rf rz ra rn rq lt m1 m2 m3 m4 bd fc hd sz el s g fm hm so si sh ce ca td wa kp la bf oo bo pw ow tr)) rfl rfl rfl (Nat.le_of_ble_eq_true rfl) rfl (ab_rvOf w1 rfl) (sq_worthOfBits w_q1 I (by omega)) (by decide) rfl ?_
              exact E_iret rfl rfl
            · show Ev ab_Z0 3 212 [.ref 65, .int (nI 3)] (ww im lf s d k ls rf rz ra rn rq lt m1 m2 m3 m4 bd fc hd sz el s g fm hm so si sh ce ca td wa kp la bf oo bo pw ow tr) (some (.int (nI (qWs s (qPs s 99 (qN s)) (qN s)))), (ww im lf s d k ls rf rz ra rn rq lt m1 m2 m3 m4 bd fc hd sz el s g fm hm so si sh ce ca td wa kp la bf oo bo pw ow tr))
              refine Ef.in (md := mX6_status) (L := [some (.ref 65), some (.int (nI 3))]) rfl (Nat.le_of_ble_eq_true rfl) rfl ?_
              refine E_iload_n at_X6_status_0 rfl ?_
              refine E_bipush (x := nI 11) at_X6_status_1 (by decide) ?_
              refine E_ic (t := 22) (b := true) at_X6_status_3 rfl (by decide) ?_
              refine E_iload_n at_X6_status_22 rfl ?_
              refine E_tsIn (off := 74) (t := 97) at_X6_status_23 (by decide) rfl rfl ?_
              refine E_aload_n rfl rfl ?_
              refine E_aload_n rfl rfl ?_
              refine E_bipush (x := nI 99) rfl (by decide) ?_
              refine E_callV (v := some (.int (nI (qPs s 99 (qN s))))) (As := [.ref 65, .int (nI 99)]) (r0 := [.ref 65]) (cs2 := (ww im lf s d k ls rf rz ra rn rq lt m1 m2 m3 m4 bd fc hd sz el s g fm hm so si sh ce ca td wa kp la bf oo bo pw ow tr)) rfl rfl rfl (Nat.le_of_ble_eq_true rfl) rfl (ab_rvOf w65 rfl) (mo_piecesOf w_m I (by omega)) (by decide) rfl ?_
              refine E_callV (v := some (.int (nI (qWs s (qPs s 99 (qN s)) (qN s))))) (As := [.ref 65, .int (nI (qPs s 99 (qN s)))]) (r0 := []) (cs2 := (ww im lf s d k ls rf rz ra rn rq lt m1 m2 m3 m4 bd fc hd sz el s g fm hm so si sh ce ca td wa kp la bf oo bo pw ow tr)) rfl rfl rfl (Nat.le_of_ble_eq_true rfl) rfl (ab_rvOf w65 rfl) (mo_worthOf w_m I (by omega)) (by decide) rfl ?_
              exact E_iret rfl rfl
            · exact ⟨I, rfl, hf, ⟨⟨d0, d1, d2, d3, d4, d5, d6, d7, d8⟩, ⟨k0, k1, k2, k3, k4, k5, k6, k7, k8⟩, ⟨r0, r1, r2, r3, r4, r5, r6, r7, r8⟩⟩, iM, iT, iS, l_el, l_ls, l_lt, l_bd, l_fc, l_fm, l_hm, l_so, l_si, l_sh, l_ce, l_ca, l_td, l_wa, l_kp, l_la, l_bf, l_oo, l_bo, l_pw, l_ow, l_tr⟩
          · by_cases f5 : a1k = 4
            · subst f5
              refine ⟨(qR s), (qR s), (im, lf, s, d, k, ls, rf, rz, ra, rn, rq, lt, m1, m2, m3, m4, bd, fc, hd, sz, el, s, g, fm, hm, so, si, sh, ce, ca, td, wa, kp, la, bf, oo, bo, pw, ow, tr), (im, lf, s, d, k, ls, rf, rz, ra, rn, rq, lt, m1, m2, m3, m4, bd, fc, hd, sz, el, s, g, fm, hm, so, si, sh, ce, ca, td, wa, kp, la, bf, oo, bo, pw, ow, tr), ?_, ?_, ?_⟩
              · show Ev ab_Z0 3 114 [.ref 0, .int (nI 4)] (ww im lf s d k ls rf rz ra rn rq lt m1 m2 m3 m4 bd fc hd sz el s g fm hm so si sh ce ca td wa kp la bf oo bo pw ow tr) (some (.int (qR s)), (ww im lf s d k ls rf rz ra rn rq lt m1 m2 m3 m4 bd fc hd sz el s g fm hm so si sh ce ca td wa kp la bf oo bo pw ow tr))
                refine Ef.in (md := mX5_status) (L := [some (.ref 0), some (.int (nI 4))]) rfl (Nat.le_of_ble_eq_true rfl) rfl ?_
                refine E_iload_n at_X5_status_0 rfl ?_
                refine E_tsIn (off := 97) (t := 98) at_X5_status_1 (by decide) rfl rfl ?_
                refine E_aload_n rfl rfl ?_
                refine E_getfield (v := .ref 1) rfl w0 rfl (by decide) rfl ?_
                refine E_getfield (v := .int (qR s)) rfl w1 rfl (by decide) rfl ?_
                exact E_iret rfl rfl
              · show Ev ab_Z0 3 212 [.ref 65, .int (nI 4)] (ww im lf s d k ls rf rz ra rn rq lt m1 m2 m3 m4 bd fc hd sz el s g fm hm so si sh ce ca td wa kp la bf oo bo pw ow tr) (some (.int (qR s)), (ww im lf s d k ls rf rz ra rn rq lt m1 m2 m3 m4 bd fc hd sz el s g fm hm so si sh ce ca td wa kp la bf oo bo pw ow tr))
                refine Ef.in (md := mX6_status) (L := [some (.ref 65), some (.int (nI 4))]) rfl (Nat.le_of_ble_eq_true rfl) rfl ?_
                refine E_iload_n at_X6_status_0 rfl ?_
                refine E_bipush (x := nI 11) at_X6_status_1 (by decide) ?_
                refine E_ic (t := 22) (b := true) at_X6_status_3 rfl (by decide) ?_
                refine E_iload_n at_X6_status_22 rfl ?_
                refine E_tsIn (off := 85) (t := 108) at_X6_status_23 (by decide) rfl rfl ?_
                refine E_aload_n rfl rfl ?_
                refine E_getfield (v := .int (qR s)) rfl w65 rfl (by decide) rfl ?_
                exact E_iret rfl rfl
              · exact ⟨I, rfl, hf, ⟨⟨d0, d1, d2, d3, d4, d5, d6, d7, d8⟩, ⟨k0, k1, k2, k3, k4, k5, k6, k7, k8⟩, ⟨r0, r1, r2, r3, r4, r5, r6, r7, r8⟩⟩, iM, iT, iS, l_el, l_ls, l_lt, l_bd, l_fc, l_fm, l_hm, l_so, l_si, l_sh, l_ce, l_ca, l_td, l_wa, l_kp, l_la, l_bf, l_oo, l_bo, l_pw, l_ow, l_tr⟩
            · by_cases f6 : a1k = 5
              · subst f6
                refine ⟨(qY s), (qY s), (im, lf, s, d, k, ls, rf, rz, ra, rn, rq, lt, m1, m2, m3, m4, bd, fc, hd, sz, el, s, g, fm, hm, so, si, sh, ce, ca, td, wa, kp, la, bf, oo, bo, pw, ow, tr), (im, lf, s, d, k, ls, rf, rz, ra, rn, rq, lt, m1, m2, m3, m4, bd, fc, hd, sz, el, s, g, fm, hm, so, si, sh, ce, ca, td, wa, kp, la, bf, oo, bo, pw, ow, tr), ?_, ?_, ?_⟩
                · show Ev ab_Z0 3 114 [.ref 0, .int (nI 5)] (ww im lf s d k ls rf rz ra rn rq lt m1 m2 m3 m4 bd fc hd sz el s g fm hm so si sh ce ca td wa kp la bf oo bo pw ow tr) (some (.int (qY s)), (ww im lf s d k ls rf rz ra rn rq lt m1 m2 m3 m4 bd fc hd sz el s g fm hm so si sh ce ca td wa kp la bf oo bo pw ow tr))
                  refine Ef.in (md := mX5_status) (L := [some (.ref 0), some (.int (nI 5))]) rfl (Nat.le_of_ble_eq_true rfl) rfl ?_
                  refine E_iload_n at_X5_status_0 rfl ?_
                  refine E_tsIn (off := 105) (t := 106) at_X5_status_1 (by decide) rfl rfl ?_
                  refine E_aload_n rfl rfl ?_
                  refine E_getfield (v := .ref 1) rfl w0 rfl (by decide) rfl ?_
                  refine E_getfield (v := .int (qY s)) rfl w1 rfl (by decide) rfl ?_
                  exact E_iret rfl rfl
                · show Ev ab_Z0 3 212 [.ref 65, .int (nI 5)] (ww im lf s d k ls rf rz ra rn rq lt m1 m2 m3 m4 bd fc hd sz el s g fm hm so si sh ce ca td wa kp la bf oo bo pw ow tr) (some (.int (qY s)), (ww im lf s d k ls rf rz ra rn rq lt m1 m2 m3 m4 bd fc hd sz el s g fm hm so si sh ce ca td wa kp la bf oo bo pw ow tr))
                  refine Ef.in (md := mX6_status) (L := [some (.ref 65), some (.int (nI 5))]) rfl (Nat.le_of_ble_eq_true rfl) rfl ?_
                  refine E_iload_n at_X6_status_0 rfl ?_
                  refine E_bipush (x := nI 11) at_X6_status_1 (by decide) ?_
                  refine E_ic (t := 22) (b := true) at_X6_status_3 rfl (by decide) ?_
                  refine E_iload_n at_X6_status_22 rfl ?_
                  refine E_tsIn (off := 90) (t := 113) at_X6_status_23 (by decide) rfl rfl ?_
                  refine E_aload_n rfl rfl ?_
                  refine E_getfield (v := .int (qY s)) rfl w65 rfl (by decide) rfl ?_
                  exact E_iret rfl rfl
                · exact ⟨I, rfl, hf, ⟨⟨d0, d1, d2, d3, d4, d5, d6, d7, d8⟩, ⟨k0, k1, k2, k3, k4, k5, k6, k7, k8⟩, ⟨r0, r1, r2, r3, r4, r5, r6, r7, r8⟩⟩, iM, iT, iS, l_el, l_ls, l_lt, l_bd, l_fc, l_fm, l_hm, l_so, l_si, l_sh, l_ce, l_ca, l_td, l_wa, l_kp, l_la, l_bf, l_oo, l_bo, l_pw, l_ow, l_tr⟩
              · by_cases f7 : a1k = 6
                · subst f7
                  refine ⟨(qD s), (qD s), (im, lf, s, d, k, ls, rf, rz, ra, rn, rq, lt, m1, m2, m3, m4, bd, fc, hd, sz, el, s, g, fm, hm, so, si, sh, ce, ca, td, wa, kp, la, bf, oo, bo, pw, ow, tr), (im, lf, s, d, k, ls, rf, rz, ra, rn, rq, lt, m1, m2, m3, m4, bd, fc, hd, sz, el, s, g, fm, hm, so, si, sh, ce, ca, td, wa, kp, la, bf, oo, bo, pw, ow, tr), ?_, ?_, ?_⟩
                  · show Ev ab_Z0 3 114 [.ref 0, .int (nI 6)] (ww im lf s d k ls rf rz ra rn rq lt m1 m2 m3 m4 bd fc hd sz el s g fm hm so si sh ce ca td wa kp la bf oo bo pw ow tr) (some (.int (qD s)), (ww im lf s d k ls rf rz ra rn rq lt m1 m2 m3 m4 bd fc hd sz el s g fm hm so si sh ce ca td wa kp la bf oo bo pw ow tr))
                    refine Ef.in (md := mX5_status) (L := [some (.ref 0), some (.int (nI 6))]) rfl (Nat.le_of_ble_eq_true rfl) rfl ?_
                    refine E_iload_n at_X5_status_0 rfl ?_
                    refine E_tsIn (off := 113) (t := 114) at_X5_status_1 (by decide) rfl rfl ?_
                    refine E_aload_n rfl rfl ?_
                    refine E_getfield (v := .ref 1) rfl w0 rfl (by decide) rfl ?_
                    refine E_getfield (v := .int (qD s)) rfl w1 rfl (by decide) rfl ?_
                    exact E_iret rfl rfl
                  · show Ev ab_Z0 3 212 [.ref 65, .int (nI 6)] (ww im lf s d k ls rf rz ra rn rq lt m1 m2 m3 m4 bd fc hd sz el s g fm hm so si sh ce ca td wa kp la bf oo bo pw ow tr) (some (.int (qD s)), (ww im lf s d k ls rf rz ra rn rq lt m1 m2 m3 m4 bd fc hd sz el s g fm hm so si sh ce ca td wa kp la bf oo bo pw ow tr))
                    refine Ef.in (md := mX6_status) (L := [some (.ref 65), some (.int (nI 6))]) rfl (Nat.le_of_ble_eq_true rfl) rfl ?_
                    refine E_iload_n at_X6_status_0 rfl ?_
                    refine E_bipush (x := nI 11) at_X6_status_1 (by decide) ?_
                    refine E_ic (t := 22) (b := true) at_X6_status_3 rfl (by decide) ?_
                    refine E_iload_n at_X6_status_22 rfl ?_
                    refine E_tsIn (off := 95) (t := 118) at_X6_status_23 (by decide) rfl rfl ?_
                    refine E_aload_n rfl rfl ?_
                    refine E_getfield (v := .int (qD s)) rfl w65 rfl (by decide) rfl ?_
                    exact E_iret rfl rfl
                  · exact ⟨I, rfl, hf, ⟨⟨d0, d1, d2, d3, d4, d5, d6, d7, d8⟩, ⟨k0, k1, k2, k3, k4, k5, k6, k7, k8⟩, ⟨r0, r1, r2, r3, r4, r5, r6, r7, r8⟩⟩, iM, iT, iS, l_el, l_ls, l_lt, l_bd, l_fc, l_fm, l_hm, l_so, l_si, l_sh, l_ce, l_ca, l_td, l_wa, l_kp, l_la, l_bf, l_oo, l_bo, l_pw, l_ow, l_tr⟩
                · by_cases f8 : a1k = 7
                  · subst f8
                    refine ⟨(qGs s (qM s)), (qGs s (qM s)), (im, lf, s, d, k, ls, rf, rz, ra, rn, rq, lt, m1, m2, m3, m4, bd, fc, hd, sz, el, s, g, fm, hm, so, si, sh, ce, ca, td, wa, kp, la, bf, oo, bo, pw, ow, tr), (im, lf, s, d, k, ls, rf, rz, ra, rn, rq, lt, m1, m2, m3, m4, bd, fc, hd, sz, el, s, g, fm, hm, so, si, sh, ce, ca, td, wa, kp, la, bf, oo, bo, pw, ow, tr), ?_, ?_, ?_⟩
                    · show Ev ab_Z0 3 114 [.ref 0, .int (nI 7)] (ww im lf s d k ls rf rz ra rn rq lt m1 m2 m3 m4 bd fc hd sz el s g fm hm so si sh ce ca td wa kp la bf oo bo pw ow tr) (some (.int (qGs s (qM s))), (ww im lf s d k ls rf rz ra rn rq lt m1 m2 m3 m4 bd fc hd sz el s g fm hm so si sh ce ca td wa kp la bf oo bo pw ow tr))
                      refine Ef.in (md := mX5_status) (L := [some (.ref 0), some (.int (nI 7))]) rfl (Nat.le_of_ble_eq_true rfl) rfl ?_
                      refine E_iload_n at_X5_status_0 rfl ?_
                      refine E_tsIn (off := 121) (t := 122) at_X5_status_1 (by decide) rfl rfl ?_
                      refine E_aload_n rfl rfl ?_
                      refine E_getfield (v := .ref 1) rfl w0 rfl (by decide) rfl ?_
                      refine E_callV (v := some (.int (qGs s (qM s)))) (As := [.ref 1]) (r0 := []) (cs2 := (ww im lf s d k ls rf rz ra rn rq lt m1 m2 m3 m4 bd fc hd sz el s g fm hm so si sh ce ca td wa kp la bf oo bo pw ow tr)) rfl rfl rfl (Nat.le_of_ble_eq_true rfl) rfl (ab_rvOf w1 rfl) (sq_grantedTogether w_q1 I) (by decide) rfl ?_
                      exact E_iret rfl rfl
                    · show Ev ab_Z0 3 212 [.ref 65, .int (nI 7)] (ww im lf s d k ls rf rz ra rn rq lt m1 m2 m3 m4 bd fc hd sz el s g fm hm so si sh ce ca td wa kp la bf oo bo pw ow tr) (some (.int (qGs s (qM s))), (ww im lf s d k ls rf rz ra rn rq lt m1 m2 m3 m4 bd fc hd sz el s g fm hm so si sh ce ca td wa kp la bf oo bo pw ow tr))
                      refine Ef.in (md := mX6_status) (L := [some (.ref 65), some (.int (nI 7))]) rfl (Nat.le_of_ble_eq_true rfl) rfl ?_
                      refine E_iload_n at_X6_status_0 rfl ?_
                      refine E_bipush (x := nI 11) at_X6_status_1 (by decide) ?_
                      refine E_ic (t := 22) (b := true) at_X6_status_3 rfl (by decide) ?_
                      refine E_iload_n at_X6_status_22 rfl ?_
                      refine E_tsIn (off := 100) (t := 123) at_X6_status_23 (by decide) rfl rfl ?_
                      refine E_aload_n rfl rfl ?_
                      refine E_callV (v := some (.int (qGs s (qM s)))) (As := [.ref 65]) (r0 := []) (cs2 := (ww im lf s d k ls rf rz ra rn rq lt m1 m2 m3 m4 bd fc hd sz el s g fm hm so si sh ce ca td wa kp la bf oo bo pw ow tr)) rfl rfl rfl (Nat.le_of_ble_eq_true rfl) rfl (ab_rvOf w65 rfl) (mo_allGranted w_m I) (by decide) rfl ?_
                      exact E_iret rfl rfl
                    · exact ⟨I, rfl, hf, ⟨⟨d0, d1, d2, d3, d4, d5, d6, d7, d8⟩, ⟨k0, k1, k2, k3, k4, k5, k6, k7, k8⟩, ⟨r0, r1, r2, r3, r4, r5, r6, r7, r8⟩⟩, iM, iT, iS, l_el, l_ls, l_lt, l_bd, l_fc, l_fm, l_hm, l_so, l_si, l_sh, l_ce, l_ca, l_td, l_wa, l_kp, l_la, l_bf, l_oo, l_bo, l_pw, l_ow, l_tr⟩
                  · by_cases f9 : a1k = 8
                    · subst f9
                      refine ⟨(qS s), (qS s), (im, lf, s, d, k, ls, rf, rz, ra, rn, rq, lt, m1, m2, m3, m4, bd, fc, hd, sz, el, s, g, fm, hm, so, si, sh, ce, ca, td, wa, kp, la, bf, oo, bo, pw, ow, tr), (im, lf, s, d, k, ls, rf, rz, ra, rn, rq, lt, m1, m2, m3, m4, bd, fc, hd, sz, el, s, g, fm, hm, so, si, sh, ce, ca, td, wa, kp, la, bf, oo, bo, pw, ow, tr), ?_, ?_, ?_⟩
                      · show Ev ab_Z0 3 114 [.ref 0, .int (nI 8)] (ww im lf s d k ls rf rz ra rn rq lt m1 m2 m3 m4 bd fc hd sz el s g fm hm so si sh ce ca td wa kp la bf oo bo pw ow tr) (some (.int (qS s)), (ww im lf s d k ls rf rz ra rn rq lt m1 m2 m3 m4 bd fc hd sz el s g fm hm so si sh ce ca td wa kp la bf oo bo pw ow tr))
                        refine Ef.in (md := mX5_status) (L := [some (.ref 0), some (.int (nI 8))]) rfl (Nat.le_of_ble_eq_true rfl) rfl ?_
                        refine E_iload_n at_X5_status_0 rfl ?_
                        refine E_tsIn (off := 129) (t := 130) at_X5_status_1 (by decide) rfl rfl ?_
                        refine E_aload_n rfl rfl ?_
                        refine E_getfield (v := .ref 1) rfl w0 rfl (by decide) rfl ?_
                        refine E_getfield (v := .int (qS s)) rfl w1 rfl (by decide) rfl ?_
                        exact E_iret rfl rfl
                      · show Ev ab_Z0 3 212 [.ref 65, .int (nI 8)] (ww im lf s d k ls rf rz ra rn rq lt m1 m2 m3 m4 bd fc hd sz el s g fm hm so si sh ce ca td wa kp la bf oo bo pw ow tr) (some (.int (qS s)), (ww im lf s d k ls rf rz ra rn rq lt m1 m2 m3 m4 bd fc hd sz el s g fm hm so si sh ce ca td wa kp la bf oo bo pw ow tr))
                        refine Ef.in (md := mX6_status) (L := [some (.ref 65), some (.int (nI 8))]) rfl (Nat.le_of_ble_eq_true rfl) rfl ?_
                        refine E_iload_n at_X6_status_0 rfl ?_
                        refine E_bipush (x := nI 11) at_X6_status_1 (by decide) ?_
                        refine E_ic (t := 22) (b := true) at_X6_status_3 rfl (by decide) ?_
                        refine E_iload_n at_X6_status_22 rfl ?_
                        refine E_tsIn (off := 105) (t := 128) at_X6_status_23 (by decide) rfl rfl ?_
                        refine E_aload_n rfl rfl ?_
                        refine E_getfield (v := .int (qS s)) rfl w65 rfl (by decide) rfl ?_
                        exact E_iret rfl rfl
                      · exact ⟨I, rfl, hf, ⟨⟨d0, d1, d2, d3, d4, d5, d6, d7, d8⟩, ⟨k0, k1, k2, k3, k4, k5, k6, k7, k8⟩, ⟨r0, r1, r2, r3, r4, r5, r6, r7, r8⟩⟩, iM, iT, iS, l_el, l_ls, l_lt, l_bd, l_fc, l_fm, l_hm, l_so, l_si, l_sh, l_ce, l_ca, l_td, l_wa, l_kp, l_la, l_bf, l_oo, l_bo, l_pw, l_ow, l_tr⟩
                    · by_cases f10 : a1k = 9
                      · subst f10
                        refine ⟨m1, (g 47), (im, lf, s, d, k, ls, rf, rz, ra, rn, rq, lt, m1, m2, m3, m4, bd, fc, hd, sz, el, s, g, fm, hm, so, si, sh, ce, ca, td, wa, kp, la, bf, oo, bo, pw, ow, tr), (im, lf, s, d, k, ls, rf, rz, ra, rn, rq, lt, m1, m2, m3, m4, bd, fc, hd, sz, el, s, g, fm, hm, so, si, sh, ce, ca, td, wa, kp, la, bf, oo, bo, pw, ow, tr), ?_, ?_, ?_⟩
                        · show Ev ab_Z0 3 114 [.ref 0, .int (nI 9)] (ww im lf s d k ls rf rz ra rn rq lt m1 m2 m3 m4 bd fc hd sz el s g fm hm so si sh ce ca td wa kp la bf oo bo pw ow tr) (some (.int m1), (ww im lf s d k ls rf rz ra rn rq lt m1 m2 m3 m4 bd fc hd sz el s g fm hm so si sh ce ca td wa kp la bf oo bo pw ow tr))
                          refine Ef.in (md := mX5_status) (L := [some (.ref 0), some (.int (nI 9))]) rfl (Nat.le_of_ble_eq_true rfl) rfl ?_
                          refine E_iload_n at_X5_status_0 rfl ?_
                          refine E_tsIn (off := 137) (t := 138) at_X5_status_1 (by decide) rfl rfl ?_
                          refine E_aload_n rfl rfl ?_
                          refine E_getfield (v := .ref 46) rfl w0 rfl (by decide) rfl ?_
                          refine E_getfield (v := .int m1) rfl w46 rfl (by decide) rfl ?_
                          exact E_iret rfl rfl
                        · show Ev ab_Z0 3 212 [.ref 65, .int (nI 9)] (ww im lf s d k ls rf rz ra rn rq lt m1 m2 m3 m4 bd fc hd sz el s g fm hm so si sh ce ca td wa kp la bf oo bo pw ow tr) (some (.int (g 47)), (ww im lf s d k ls rf rz ra rn rq lt m1 m2 m3 m4 bd fc hd sz el s g fm hm so si sh ce ca td wa kp la bf oo bo pw ow tr))
                          refine Ef.in (md := mX6_status) (L := [some (.ref 65), some (.int (nI 9))]) rfl (Nat.le_of_ble_eq_true rfl) rfl ?_
                          refine E_iload_n at_X6_status_0 rfl ?_
                          refine E_bipush (x := nI 11) at_X6_status_1 (by decide) ?_
                          refine E_ic (t := 22) (b := true) at_X6_status_3 rfl (by decide) ?_
                          refine E_iload_n at_X6_status_22 rfl ?_
                          refine E_tsIn (off := 110) (t := 133) at_X6_status_23 (by decide) rfl rfl ?_
                          refine E_aload_n rfl rfl ?_
                          refine E_getfield (v := .int (g 47)) rfl w65 rfl (by decide) rfl ?_
                          exact E_iret rfl rfl
                        · exact ⟨I, rfl, hf, ⟨⟨d0, d1, d2, d3, d4, d5, d6, d7, d8⟩, ⟨k0, k1, k2, k3, k4, k5, k6, k7, k8⟩, ⟨r0, r1, r2, r3, r4, r5, r6, r7, r8⟩⟩, iM, iT, iS, l_el, l_ls, l_lt, l_bd, l_fc, l_fm, l_hm, l_so, l_si, l_sh, l_ce, l_ca, l_td, l_wa, l_kp, l_la, l_bf, l_oo, l_bo, l_pw, l_ow, l_tr⟩
                      · by_cases f11 : a1k < 11
                        · refine ⟨(-1), (-1), (im, lf, s, d, k, ls, rf, rz, ra, rn, rq, lt, m1, m2, m3, m4, bd, fc, hd, sz, el, s, g, fm, hm, so, si, sh, ce, ca, td, wa, kp, la, bf, oo, bo, pw, ow, tr), (im, lf, s, d, k, ls, rf, rz, ra, rn, rq, lt, m1, m2, m3, m4, bd, fc, hd, sz, el, s, g, fm, hm, so, si, sh, ce, ca, td, wa, kp, la, bf, oo, bo, pw, ow, tr), ?_, ?_, ?_⟩
                          · show Ev ab_Z0 3 114 [.ref 0, .int (nI a1k)] (ww im lf s d k ls rf rz ra rn rq lt m1 m2 m3 m4 bd fc hd sz el s g fm hm so si sh ce ca td wa kp la bf oo bo pw ow tr) (some (.int (-1)), (ww im lf s d k ls rf rz ra rn rq lt m1 m2 m3 m4 bd fc hd sz el s g fm hm so si sh ce ca td wa kp la bf oo bo pw ow tr))
                            refine Ef.in (md := mX5_status) (L := [some (.ref 0), some (.int (nI a1k))]) rfl (Nat.le_of_ble_eq_true rfl) rfl ?_
                            refine E_iload_n at_X5_status_0 rfl ?_
                            refine E_tsOut (t := 146) at_X5_status_1 (ab_tsO (nI_toInt (by omega)) (by omega)) rfl ?_
                            refine E_iload_n at_X5_status_146 rfl ?_
                            refine E_bipush (x := nI 11) at_X5_status_147 (by decide) ?_
                            refine E_bipush (x := nI 17) at_X5_status_149 (by decide) ?_
                            refine E_callS (v := some (.int (nI 0))) (As := [.int (nI a1k), .int (nI 11), .int (nI 17)]) (r0 := []) (cs2 := (ww im lf s d k ls rf rz ra rn rq lt m1 m2 m3 m4 bd fc hd sz el s g fm hm so si sh ce ca td wa kp la bf oo bo pw ow tr)) at_X5_status_151 rfl rfl (Nat.le_of_ble_eq_true rfl) rfl (L92_X5_isFrom (by omega) (by omega)) (by decide) rfl ?_
                            refine E_if (t := 169) (b := true) at_X5_status_154 rfl (by decide) ?_
                            refine E_iconst (x := (-1)) rfl (by decide) ?_
                            exact E_iret at_X5_status_170 rfl
                          · show Ev ab_Z0 3 212 [.ref 65, .int (nI a1k)] (ww im lf s d k ls rf rz ra rn rq lt m1 m2 m3 m4 bd fc hd sz el s g fm hm so si sh ce ca td wa kp la bf oo bo pw ow tr) (some (.int (-1)), (ww im lf s d k ls rf rz ra rn rq lt m1 m2 m3 m4 bd fc hd sz el s g fm hm so si sh ce ca td wa kp la bf oo bo pw ow tr))
                            refine Ef.in (md := mX6_status) (L := [some (.ref 65), some (.int (nI a1k))]) rfl (Nat.le_of_ble_eq_true rfl) rfl ?_
                            refine E_iload_n at_X6_status_0 rfl ?_
                            refine E_bipush (x := nI 11) at_X6_status_1 (by decide) ?_
                            refine E_ic (t := 22) (b := true) at_X6_status_3 rfl ((cn_lt (nI_toInt (by omega)) (nI_toInt (by omega))).trans (decide_eq_true (by omega))) ?_
                            refine E_iload_n at_X6_status_22 rfl ?_
                            refine E_tsOut (t := 138) at_X6_status_23 (ab_tsO (nI_toInt (by omega)) (by omega)) rfl ?_
                            refine E_iconst (x := (-1)) rfl (by decide) ?_
                            exact E_iret rfl rfl
                          · exact ⟨I, rfl, hf, ⟨⟨d0, d1, d2, d3, d4, d5, d6, d7, d8⟩, ⟨k0, k1, k2, k3, k4, k5, k6, k7, k8⟩, ⟨r0, r1, r2, r3, r4, r5, r6, r7, r8⟩⟩, iM, iT, iS, l_el, l_ls, l_lt, l_bd, l_fc, l_fm, l_hm, l_so, l_si, l_sh, l_ce, l_ca, l_td, l_wa, l_kp, l_la, l_bf, l_oo, l_bo, l_pw, l_ow, l_tr⟩
                        · by_cases f12 : 17 < a1k
                          · refine ⟨(-1), (-1), (im, lf, s, d, k, ls, rf, rz, ra, rn, rq, lt, m1, m2, m3, m4, bd, fc, hd, sz, el, s, g, fm, hm, so, si, sh, ce, ca, td, wa, kp, la, bf, oo, bo, pw, ow, tr), (im, lf, s, d, k, ls, rf, rz, ra, rn, rq, lt, m1, m2, m3, m4, bd, fc, hd, sz, el, s, g, fm, hm, so, si, sh, ce, ca, td, wa, kp, la, bf, oo, bo, pw, ow, tr), ?_, ?_, ?_⟩
                            · show Ev ab_Z0 3 114 [.ref 0, .int (nI a1k)] (ww im lf s d k ls rf rz ra rn rq lt m1 m2 m3 m4 bd fc hd sz el s g fm hm so si sh ce ca td wa kp la bf oo bo pw ow tr) (some (.int (-1)), (ww im lf s d k ls rf rz ra rn rq lt m1 m2 m3 m4 bd fc hd sz el s g fm hm so si sh ce ca td wa kp la bf oo bo pw ow tr))
                              refine Ef.in (md := mX5_status) (L := [some (.ref 0), some (.int (nI a1k))]) rfl (Nat.le_of_ble_eq_true rfl) rfl ?_
                              refine E_iload_n at_X5_status_0 rfl ?_
                              refine E_tsOut (t := 146) at_X5_status_1 (ab_tsO (nI_toInt (by omega)) (by omega)) rfl ?_
                              refine E_iload_n at_X5_status_146 rfl ?_
                              refine E_bipush (x := nI 11) at_X5_status_147 (by decide) ?_
                              refine E_bipush (x := nI 17) at_X5_status_149 (by decide) ?_
                              refine E_callS (v := some (.int (nI 0))) (As := [.int (nI a1k), .int (nI 11), .int (nI 17)]) (r0 := []) (cs2 := (ww im lf s d k ls rf rz ra rn rq lt m1 m2 m3 m4 bd fc hd sz el s g fm hm so si sh ce ca td wa kp la bf oo bo pw ow tr)) at_X5_status_151 rfl rfl (Nat.le_of_ble_eq_true rfl) rfl (L93_X5_isFrom (by omega) (by omega) (by omega)) (by decide) rfl ?_
                              refine E_if (t := 169) (b := true) at_X5_status_154 rfl (by decide) ?_
                              refine E_iconst (x := (-1)) rfl (by decide) ?_
                              exact E_iret at_X5_status_170 rfl
                            · show Ev ab_Z0 3 212 [.ref 65, .int (nI a1k)] (ww im lf s d k ls rf rz ra rn rq lt m1 m2 m3 m4 bd fc hd sz el s g fm hm so si sh ce ca td wa kp la bf oo bo pw ow tr) (some (.int (-1)), (ww im lf s d k ls rf rz ra rn rq lt m1 m2 m3 m4 bd fc hd sz el s g fm hm so si sh ce ca td wa kp la bf oo bo pw ow tr))
                              refine Ef.in (md := mX6_status) (L := [some (.ref 65), some (.int (nI a1k))]) rfl (Nat.le_of_ble_eq_true rfl) rfl ?_
                              refine E_iload_n at_X6_status_0 rfl ?_
                              refine E_bipush (x := nI 11) at_X6_status_1 (by decide) ?_
                              refine E_ic (t := 22) (b := false) at_X6_status_3 rfl ((cn_lt (nI_toInt (by omega)) (nI_toInt (by omega))).trans (decide_eq_false (by omega))) ?_
                              refine E_iload_n rfl rfl ?_
                              refine E_bipush (x := nI 17) rfl (by decide) ?_
                              refine E_ic (t := 22) (b := true) rfl rfl ((cn_gt (nI_toInt (by omega)) (nI_toInt (by omega))).trans (decide_eq_true (by omega))) ?_
                              refine E_iload_n at_X6_status_22 rfl ?_
                              refine E_tsOut (t := 138) at_X6_status_23 (ab_tsO (nI_toInt (by omega)) (by omega)) rfl ?_
                              refine E_iconst (x := (-1)) rfl (by decide) ?_
                              exact E_iret rfl rfl
                            · exact ⟨I, rfl, hf, ⟨⟨d0, d1, d2, d3, d4, d5, d6, d7, d8⟩, ⟨k0, k1, k2, k3, k4, k5, k6, k7, k8⟩, ⟨r0, r1, r2, r3, r4, r5, r6, r7, r8⟩⟩, iM, iT, iS, l_el, l_ls, l_lt, l_bd, l_fc, l_fm, l_hm, l_so, l_si, l_sh, l_ce, l_ca, l_td, l_wa, l_kp, l_la, l_bf, l_oo, l_bo, l_pw, l_ow, l_tr⟩
                          · refine ⟨(fc.getD (a1k - 10) 0), (fm.getD (a1k - 10) 0), (im, lf, s, d, k, ls, rf, rz, ra, rn, rq, lt, m1, m2, m3, m4, bd, fc, hd, sz, el, s, g, fm, hm, so, si, sh, ce, ca, td, wa, kp, la, bf, oo, bo, pw, ow, tr), (im, lf, s, d, k, ls, rf, rz, ra, rn, rq, lt, m1, m2, m3, m4, bd, fc, hd, sz, el, s, g, fm, hm, so, si, sh, ce, ca, td, wa, kp, la, bf, oo, bo, pw, ow, tr), ?_, ?_, ?_⟩
                            · show Ev ab_Z0 3 114 [.ref 0, .int (nI a1k)] (ww im lf s d k ls rf rz ra rn rq lt m1 m2 m3 m4 bd fc hd sz el s g fm hm so si sh ce ca td wa kp la bf oo bo pw ow tr) (some (.int (fc.getD (a1k - 10) 0)), (ww im lf s d k ls rf rz ra rn rq lt m1 m2 m3 m4 bd fc hd sz el s g fm hm so si sh ce ca td wa kp la bf oo bo pw ow tr))
                              refine Ef.in (md := mX5_status) (L := [some (.ref 0), some (.int (nI a1k))]) rfl (Nat.le_of_ble_eq_true rfl) rfl ?_
                              refine E_iload_n at_X5_status_0 rfl ?_
                              refine E_tsOut (t := 146) at_X5_status_1 (ab_tsO (nI_toInt (by omega)) (by omega)) rfl ?_
                              refine E_iload_n at_X5_status_146 rfl ?_
                              refine E_bipush (x := nI 11) at_X5_status_147 (by decide) ?_
                              refine E_bipush (x := nI 17) at_X5_status_149 (by decide) ?_
                              refine E_callS (v := some (.int (nI 1))) (As := [.int (nI a1k), .int (nI 11), .int (nI 17)]) (r0 := []) (cs2 := (ww im lf s d k ls rf rz ra rn rq lt m1 m2 m3 m4 bd fc hd sz el s g fm hm so si sh ce ca td wa kp la bf oo bo pw ow tr)) at_X5_status_151 rfl rfl (Nat.le_of_ble_eq_true rfl) rfl (L94_X5_isFrom (by omega) (by omega) (by omega)) (by decide) rfl ?_
                              refine E_if (t := 169) (b := false) at_X5_status_154 rfl (by decide) ?_
                              refine E_aload_n rfl rfl ?_
                              refine E_getfield (v := .ref 48) rfl w0 rfl (by decide) rfl ?_
                              refine E_iload_n rfl rfl ?_
                              refine E_bipush (x := nI 10) rfl (by decide) ?_
                              refine E_isub (z := nI (a1k - 10)) rfl (pk_sub (by omega)) ?_
                              refine E_ialI (l := fc) (v := fc.getD (a1k - 10) 0) rfl w48 (by omega) (by omega) rfl ?_
                              refine E_goto (t := 170) rfl rfl ?_
                              exact E_iret at_X5_status_170 rfl
                            · show Ev ab_Z0 3 212 [.ref 65, .int (nI a1k)] (ww im lf s d k ls rf rz ra rn rq lt m1 m2 m3 m4 bd fc hd sz el s g fm hm so si sh ce ca td wa kp la bf oo bo pw ow tr) (some (.int (fm.getD (a1k - 10) 0)), (ww im lf s d k ls rf rz ra rn rq lt m1 m2 m3 m4 bd fc hd sz el s g fm hm so si sh ce ca td wa kp la bf oo bo pw ow tr))
                              refine Ef.in (md := mX6_status) (L := [some (.ref 65), some (.int (nI a1k))]) rfl (Nat.le_of_ble_eq_true rfl) rfl ?_
                              refine E_iload_n at_X6_status_0 rfl ?_
                              refine E_bipush (x := nI 11) at_X6_status_1 (by decide) ?_
                              refine E_ic (t := 22) (b := false) at_X6_status_3 rfl ((cn_lt (nI_toInt (by omega)) (nI_toInt (by omega))).trans (decide_eq_false (by omega))) ?_
                              refine E_iload_n rfl rfl ?_
                              refine E_bipush (x := nI 17) rfl (by decide) ?_
                              refine E_ic (t := 22) (b := false) rfl rfl ((cn_gt (nI_toInt (by omega)) (nI_toInt (by omega))).trans (decide_eq_false (by omega))) ?_
                              refine E_aload_n rfl rfl ?_
                              refine E_getfield (v := .ref 66) rfl w65 rfl (by decide) rfl ?_
                              refine E_iload_n rfl rfl ?_
                              refine E_bipush (x := nI 10) rfl (by decide) ?_
                              refine E_isub (z := nI (a1k - 10)) rfl (pk_sub (by omega)) ?_
                              refine E_ialI (l := fm) (v := fm.getD (a1k - 10) 0) rfl w66 (by omega) (by omega) rfl ?_
                              exact E_iret rfl rfl
                            · exact ⟨I, rfl, hf, ⟨⟨d0, d1, d2, d3, d4, d5, d6, d7, d8⟩, ⟨k0, k1, k2, k3, k4, k5, k6, k7, k8⟩, ⟨r0, r1, r2, r3, r4, r5, r6, r7, r8⟩⟩, iM, iT, iS, l_el, l_ls, l_lt, l_bd, l_fc, l_fm, l_hm, l_so, l_si, l_sh, l_ce, l_ca, l_td, l_wa, l_kp, l_la, l_bf, l_oo, l_bo, l_pw, l_ow, l_tr⟩
  · refine ⟨(-1), (-1), (im, lf, s, d, k, ls, rf, rz, ra, rn, rq, lt, m1, m2, m3, m4, bd, fc, hd, sz, el, s, g, fm, hm, so, si, sh, ce, ca, td, wa, kp, la, bf, oo, bo, pw, ow, tr), (im, lf, s, d, k, ls, rf, rz, ra, rn, rq, lt, m1, m2, m3, m4, bd, fc, hd, sz, el, s, g, fm, hm, so, si, sh, ce, ca, td, wa, kp, la, bf, oo, bo, pw, ow, tr), ?_, ?_, ?_⟩
    · show Ev ab_Z0 3 114 [.ref 0, .int a1] (ww im lf s d k ls rf rz ra rn rq lt m1 m2 m3 m4 bd fc hd sz el s g fm hm so si sh ce ca td wa kp la bf oo bo pw ow tr) (some (.int (-1)), (ww im lf s d k ls rf rz ra rn rq lt m1 m2 m3 m4 bd fc hd sz el s g fm hm so si sh ce ca td wa kp la bf oo bo pw ow tr))
      refine Ef.in (md := mX5_status) (L := [some (.ref 0), some (.int a1)]) rfl (Nat.le_of_ble_eq_true rfl) rfl ?_
      refine E_iload_n at_X5_status_0 rfl ?_
      refine E_tsOut (t := 146) at_X5_status_1 (ab_tsO rfl (by omega)) rfl ?_
      refine E_iload_n at_X5_status_146 rfl ?_
      refine E_bipush (x := nI 11) at_X5_status_147 (by decide) ?_
      refine E_bipush (x := nI 17) at_X5_status_149 (by decide) ?_
      refine E_callS (v := some (.int (nI 0))) (As := [.int a1, .int (nI 11), .int (nI 17)]) (r0 := []) (cs2 := (ww im lf s d k ls rf rz ra rn rq lt m1 m2 m3 m4 bd fc hd sz el s g fm hm so si sh ce ca td wa kp la bf oo bo pw ow tr)) at_X5_status_151 rfl rfl (Nat.le_of_ble_eq_true rfl) rfl (L95_X5_isFrom (by omega) (by omega)) (by decide) rfl ?_
      refine E_if (t := 169) (b := true) at_X5_status_154 rfl (by decide) ?_
      refine E_iconst (x := (-1)) rfl (by decide) ?_
      exact E_iret at_X5_status_170 rfl
    · show Ev ab_Z0 3 212 [.ref 65, .int a1] (ww im lf s d k ls rf rz ra rn rq lt m1 m2 m3 m4 bd fc hd sz el s g fm hm so si sh ce ca td wa kp la bf oo bo pw ow tr) (some (.int (-1)), (ww im lf s d k ls rf rz ra rn rq lt m1 m2 m3 m4 bd fc hd sz el s g fm hm so si sh ce ca td wa kp la bf oo bo pw ow tr))
      refine Ef.in (md := mX6_status) (L := [some (.ref 65), some (.int a1)]) rfl (Nat.le_of_ble_eq_true rfl) rfl ?_
      refine E_iload_n at_X6_status_0 rfl ?_
      refine E_bipush (x := nI 11) at_X6_status_1 (by decide) ?_
      refine E_ic (t := 22) (b := true) at_X6_status_3 rfl ((cn_lt rfl (nI_toInt (by omega))).trans (decide_eq_true (by omega))) ?_
      refine E_iload_n at_X6_status_22 rfl ?_
      refine E_tsOut (t := 138) at_X6_status_23 (ab_tsO rfl (by omega)) rfl ?_
      refine E_iconst (x := (-1)) rfl (by decide) ?_
      exact E_iret rfl rfl
    · exact ⟨I, rfl, hf, ⟨⟨d0, d1, d2, d3, d4, d5, d6, d7, d8⟩, ⟨k0, k1, k2, k3, k4, k5, k6, k7, k8⟩, ⟨r0, r1, r2, r3, r4, r5, r6, r7, r8⟩⟩, iM, iT, iS, l_el, l_ls, l_lt, l_bd, l_fc, l_fm, l_hm, l_so, l_si, l_sh, l_ce, l_ca, l_td, l_wa, l_kp, l_la, l_bf, l_oo, l_bo, l_pw, l_ow, l_tr⟩
