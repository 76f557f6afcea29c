/-! one item, the reference; by program (wip/tools/mksq.py) -/
section SE
variable {im : Int32} {lf : Int32} {s : ab_q} {d : ab_q} {k : ab_q} {ls : List Int32} {rf : Int32} {rz : Int32} {ra : Int32} {rn : Int32} {rq : ab_q} {lt : List Int32} {m1 : Int32} {m2 : Int32} {m3 : Int32} {m4 : Int32} {bd : List Int32} {fc : List Int32} {hd : Nat → Int32} {sz : Nat → Int32} {el : Nat → List Int64} {t : ab_q} {g : Nat → Int32} {fm : List Int32} {hm : List Nat} {so : List Nat} {si : List Nat} {sh : List Int32} {ce : List Int64} {ca : List Int64} {td : List Int32} {wa : List Int32} {kp : List Int32} {la : List Int32} {bf : List Int32} {oo : List Int32} {bo : List Int32} {pw : List Int32} {ow : List Int32} {tr : List Int32}
set_option maxHeartbeats 1000000 in
theorem mc00 {e : List Int64} {n a j : Nat} {x30 x31 : Int32} {q : ab_q} (hj : j < 8) (hn : n ≤ 160) (ha : a ≤ n) (Iq : qI q) (l_td : td.length = 3) (l_ce : ce.length = 1280) (hce : ∀ p, p < 160 → e.getD p 0 = ce.getD (160 * j + p) 0) {x3 : Option Value} (hb : chB e n a 32 = true) (hdg : dgB e n (a + 1) = true) (ho0 : 0 ≤ nuV e n (a + 1)) (ho1 : nuV e n (a + 1) < 7) {r : Option Value × List ab_C} (K : Ef ab_Z0 2 mX6_item (57, [some (.ref 65), some (.int (nI 0)), some (.int (nI 1)), some (.int (nI (a + 1)))], [], (ww im lf s d k ls rf rz ra rn rq lt m1 m2 m3 m4 bd fc hd sz el q (fUp (fUp (fUp (fUp (fUp (fUp g 27 (nI (160 * j))) 29 (nI n)) 6 (-1)) 28 (nI (cnE e n a))) 30 (nI (nuV e n (a + 1)))) 31 x31) fm hm so si sh ce ca (td.set 0 (nI (nuV e n (a + 1)))) wa kp la bf oo bo pw ow tr)) r) : Ef ab_Z0 2 mX6_item (57, [some (.ref 65), some (.int (nI 0)), some (.int (nI 0)), x3], [], (ww im lf s d k ls rf rz ra rn rq lt m1 m2 m3 m4 bd fc hd sz el q (fUp (fUp (fUp (fUp (fUp (fUp g 27 (nI (160 * j))) 29 (nI n)) 6 (-1)) 28 (nI (a + 1))) 30 x30) 31 x31) fm hm so si sh ce ca td wa kp la bf oo bo pw ow tr)) r := by
  obtain ⟨⟨i0, i1, i2, i3⟩, ⟨i4, i5, i6, i7, i8⟩, ⟨i9, i10⟩, I1_, I2_, I3_, I4_⟩ := id Iq
  have hb_ := chB_t hb
  have hd_ := dgB_t hdg
  have h99 := nuV_99 hdg
  have hcn := cnE_n hdg
  have : ([3, 3, 2, 2, 1, 0, 0] : List Nat).length = 7 := rfl
  have : ([6, 9, 50, 99, 9, 7, 7, 60] : List Nat).length = 8 := rfl
  refine E_iload_n at_X6_item_57 rfl ?_
  refine E_aload_n at_X6_item_58 rfl ?_
  refine E_getfield (v := .ref 83) at_X6_item_59 w65 rfl (by decide) rfl ?_
  refine E_iload_n at_X6_item_62 rfl ?_
  refine E_ialN (l := [3, 3, 2, 2, 1, 0, 0]) (v := 3) at_X6_item_63 w83 (by omega) (by omega) rfl ?_
  refine E_ic (t := 166) (b := false) at_X6_item_64 rfl (by decide) ?_
  refine E_iload_n at_X6_item_67 rfl ?_
  refine E_if (t := 121) (b := true) at_X6_item_68 rfl (by decide) ?_
  refine E_aload_n at_X6_item_121 rfl ?_
  refine E_getfield (v := .int (nI (a + 1))) at_X6_item_122 w65 rfl (by decide) rfl ?_
  refine E_istore_n (L2 := [some (.ref 65), some (.int (nI 0)), some (.int (nI 0)), some (.int (nI (a + 1)))]) at_X6_item_125 rfl ?_
  refine E_aload_n at_X6_item_126 rfl ?_
  refine E_callV (v := some (.int (nI 1))) (As := [.ref 65]) (r0 := []) (cs2 := (ww im lf s d k ls rf rz ra rn rq lt m1 m2 m3 m4 bd fc hd sz el q (fUp (fUp (fUp (fUp (fUp (fUp g 27 (nI (160 * j))) 29 (nI n)) 6 (-1)) 28 (nI (cnE e n a))) 30 (nI (nuV e n (a + 1)))) 31 x31) fm hm so si sh ce ca td wa kp la bf oo bo pw ow tr)) at_X6_item_127 rfl rfl (Nat.le_of_ble_eq_true rfl) rfl (ab_rvOf w65 rfl) (m_rd1 hj hn (by omega) l_ce hce hdg) (by decide) w_lens ?_
  refine E_if (t := 135) (b := true) at_X6_item_130 rfl (by decide) ?_
  refine E_aload_n at_X6_item_135 rfl ?_
  refine E_iload_n at_X6_item_136 rfl ?_
  refine E_iload_n at_X6_item_137 rfl ?_
  have e2 : Ev ab_Z0 2 161 [.ref 65, .int (nI 0), .int (nI 0)] (ww im lf s d k ls rf rz ra rn rq lt m1 m2 m3 m4 bd fc hd sz el q (fUp (fUp (fUp (fUp (fUp (fUp g 27 (nI (160 * j))) 29 (nI n)) 6 (-1)) 28 (nI (cnE e n a))) 30 (nI (nuV e n (a + 1)))) 31 x31) fm hm so si sh ce ca td wa kp la bf oo bo pw ow tr) (some (.int (nI 1)), (ww im lf s d k ls rf rz ra rn rq lt m1 m2 m3 m4 bd fc hd sz el q (fUp (fUp (fUp (fUp (fUp (fUp g 27 (nI (160 * j))) 29 (nI n)) 6 (-1)) 28 (nI (cnE e n a))) 30 (nI (nuV e n (a + 1)))) 31 x31) fm hm so si sh ce ca td wa kp la bf oo bo pw ow tr)) := by
    refine Ef.in (md := mX6_isSo) (L := [some (.ref 65), some (.int (nI 0)), some (.int (nI 0))]) rfl (Nat.le_of_ble_eq_true rfl) rfl ?_
    refine E_iload_n at_X6_isSo_0 rfl ?_
    refine E_iconst (x := nI 3) at_X6_isSo_1 (by decide) ?_
    refine E_ic (t := 48) (b := false) at_X6_isSo_2 rfl (by decide) ?_
    refine E_aload_n at_X6_isSo_5 rfl ?_
    refine E_aload_n at_X6_isSo_6 rfl ?_
    refine E_getfield (v := .int (nI (nuV e n (a + 1)))) at_X6_isSo_7 w65 rfl (by decide) rfl ?_
    refine E_iload_n at_X6_isSo_10 rfl ?_
    refine E_if (t := 19) (b := false) at_X6_isSo_11 rfl (by decide) ?_
    refine E_iload_n at_X6_isSo_14 rfl ?_
    refine E_iconst (x := nI 2) at_X6_isSo_15 (by decide) ?_
    refine E_ic (t := 29) (b := false) at_X6_isSo_16 rfl (by decide) ?_
    refine E_iload_n at_X6_isSo_19 rfl ?_
    refine E_iconst (x := nI 2) at_X6_isSo_20 (by decide) ?_
    refine E_ic (t := 33) (b := true) at_X6_isSo_21 rfl (by decide) ?_
    refine E_iconst (x := nI 0) at_X6_isSo_33 (by decide) ?_
    refine E_aload_n at_X6_isSo_34 rfl ?_
    refine E_getfield (v := .ref 84) at_X6_isSo_35 w65 rfl (by decide) rfl ?_
    refine E_iconst (x := nI 3) at_X6_isSo_38 (by decide) ?_
    refine E_iload_n at_X6_isSo_39 rfl ?_
    refine E_imul (z := nI 0) at_X6_isSo_40 (by decide) ?_
    refine E_iload_n at_X6_isSo_41 rfl ?_
    refine E_iadd (z := nI 0) at_X6_isSo_42 (by decide) ?_
    refine E_ialN (l := [6, 9, 50, 99, 9, 7, 7, 60]) (v := 6) at_X6_isSo_43 w84 (by omega) (by omega) rfl ?_
    have e1 : Ev ab_Z0 1 134 [.ref 65, .int (nI (nuV e n (a + 1))), .int (nI 0), .int (nI 6)] (ww im lf s d k ls rf rz ra rn rq lt m1 m2 m3 m4 bd fc hd sz el q (fUp (fUp (fUp (fUp (fUp (fUp g 27 (nI (160 * j))) 29 (nI n)) 6 (-1)) 28 (nI (cnE e n a))) 30 (nI (nuV e n (a + 1)))) 31 x31) fm hm so si sh ce ca td wa kp la bf oo bo pw ow tr) (some (.int (nI 1)), (ww im lf s d k ls rf rz ra rn rq lt m1 m2 m3 m4 bd fc hd sz el q (fUp (fUp (fUp (fUp (fUp (fUp g 27 (nI (160 * j))) 29 (nI n)) 6 (-1)) 28 (nI (cnE e n a))) 30 (nI (nuV e n (a + 1)))) 31 x31) fm hm so si sh ce ca td wa kp la bf oo bo pw ow tr)) := by
      refine Ef.in (md := mX6_isFrom) (L := [some (.ref 65), some (.int (nI (nuV e n (a + 1)))), some (.int (nI 0)), some (.int (nI 6))]) rfl (Nat.le_of_ble_eq_true rfl) rfl ?_
      refine E_iload_n at_X6_isFrom_0 rfl ?_
      refine E_iload_n at_X6_isFrom_1 rfl ?_
      refine E_ic (t := 14) (b := false) at_X6_isFrom_2 rfl ((cn_lt (nI_toInt (by omega)) (nI_toInt (by omega))).trans (decide_eq_false (by omega))) ?_
      refine E_iload_n at_X6_isFrom_5 rfl ?_
      refine E_iload_n at_X6_isFrom_6 rfl ?_
      refine E_ic (t := 14) (b := false) at_X6_isFrom_7 rfl ((cn_gt (nI_toInt (by omega)) (nI_toInt (by omega))).trans (decide_eq_false (by omega))) ?_
      refine E_iconst (x := nI 1) at_X6_isFrom_10 (by decide) ?_
      refine E_goto (t := 15) at_X6_isFrom_11 rfl ?_
      exact E_iret at_X6_isFrom_15 rfl
    refine E_callV (v := some (.int (nI 1))) (As := [.ref 65, .int (nI (nuV e n (a + 1))), .int (nI 0), .int (nI 6)]) (r0 := []) (cs2 := (ww im lf s d k ls rf rz ra rn rq lt m1 m2 m3 m4 bd fc hd sz el q (fUp (fUp (fUp (fUp (fUp (fUp g 27 (nI (160 * j))) 29 (nI n)) 6 (-1)) 28 (nI (cnE e n a))) 30 (nI (nuV e n (a + 1)))) 31 x31) fm hm so si sh ce ca td wa kp la bf oo bo pw ow tr)) at_X6_isSo_44 rfl rfl (Nat.le_of_ble_eq_true rfl) rfl (ab_rvOf w65 rfl) e1 (by decide) rfl ?_
    exact E_iret at_X6_isSo_47 rfl
  refine E_callV (v := some (.int (nI 1))) (As := [.ref 65, .int (nI 0), .int (nI 0)]) (r0 := []) (cs2 := (ww im lf s d k ls rf rz ra rn rq lt m1 m2 m3 m4 bd fc hd sz el q (fUp (fUp (fUp (fUp (fUp (fUp g 27 (nI (160 * j))) 29 (nI n)) 6 (-1)) 28 (nI (cnE e n a))) 30 (nI (nuV e n (a + 1)))) 31 x31) fm hm so si sh ce ca td wa kp la bf oo bo pw ow tr)) at_X6_item_138 rfl rfl (Nat.le_of_ble_eq_true rfl) rfl (ab_rvOf w65 rfl) e2 (by decide) rfl ?_
  refine E_if (t := 150) (b := true) at_X6_item_141 rfl (by decide) ?_
  refine E_aload_n at_X6_item_150 rfl ?_
  refine E_getfield (v := .ref 85) at_X6_item_151 w65 rfl (by decide) rfl ?_
  refine E_iload_n at_X6_item_154 rfl ?_
  refine E_aload_n at_X6_item_155 rfl ?_
  refine E_getfield (v := .int (nI (nuV e n (a + 1)))) at_X6_item_156 w65 rfl (by decide) rfl ?_
  refine E_iasI (l := td) (cs2 := (ww im lf s d k ls rf rz ra rn rq lt m1 m2 m3 m4 bd fc hd sz el q (fUp (fUp (fUp (fUp (fUp (fUp g 27 (nI (160 * j))) 29 (nI n)) 6 (-1)) 28 (nI (cnE e n a))) 30 (nI (nuV e n (a + 1)))) 31 x31) fm hm so si sh ce ca (td.set 0 (nI (nuV e n (a + 1)))) wa kp la bf oo bo pw ow tr)) at_X6_item_159 w85 (by omega) (by omega) rfl ?_
  refine E_iinc (y := nI 1) (L2 := [some (.ref 65), some (.int (nI 0)), some (.int (nI 1)), some (.int (nI (a + 1)))]) at_X6_item_160 rfl (by decide) rfl ?_
  refine E_goto (t := 57) at_X6_item_163 rfl ?_
  exact K
set_option maxHeartbeats 1000000 in
theorem mb00 {e : List Int64} {n a j : Nat} {x30 x31 : Int32} {q : ab_q} (hj : j < 8) (hn : n ≤ 160) (ha : a ≤ n) (Iq : qI q) (l_td : td.length = 3) (l_ce : ce.length = 1280) (hce : ∀ p, p < 160 → e.getD p 0 = ce.getD (160 * j + p) 0) {x3 : Option Value} (hb : chB e n a 32 = true) (hdg : dgB e n (a + 1) = false) : Ef ab_Z0 2 mX6_item (57, [some (.ref 65), some (.int (nI 0)), some (.int (nI 0)), x3], [], (ww im lf s d k ls rf rz ra rn rq lt m1 m2 m3 m4 bd fc hd sz el q (fUp (fUp (fUp (fUp (fUp (fUp g 27 (nI (160 * j))) 29 (nI n)) 6 (-1)) 28 (nI (a + 1))) 30 x30) 31 x31) fm hm so si sh ce ca td wa kp la bf oo bo pw ow tr)) (some (.int (nI 0)), (ww im lf s d k ls rf rz ra rn rq lt m1 m2 m3 m4 bd fc hd sz el q (fUp (fUp (fUp (fUp (fUp (fUp g 27 (nI (160 * j))) 29 (nI n)) 6 (-1)) 28 (nI (a + 1))) 30 (nI 0)) 31 (nI (a + 1))) fm hm so si sh ce ca td wa kp la bf oo bo pw ow tr)) := by
  have hb_ := chB_t hb
  have : ([3, 3, 2, 2, 1, 0, 0] : List Nat).length = 7 := rfl
  refine E_iload_n at_X6_item_57 rfl ?_
  refine E_aload_n at_X6_item_58 rfl ?_
  refine E_getfield (v := .ref 83) at_X6_item_59 w65 rfl (by decide) rfl ?_
  refine E_iload_n at_X6_item_62 rfl ?_
  refine E_ialN (l := [3, 3, 2, 2, 1, 0, 0]) (v := 3) at_X6_item_63 w83 (by omega) (by omega) rfl ?_
  refine E_ic (t := 166) (b := false) at_X6_item_64 rfl (by decide) ?_
  refine E_iload_n at_X6_item_67 rfl ?_
  refine E_if (t := 121) (b := true) at_X6_item_68 rfl (by decide) ?_
  refine E_aload_n at_X6_item_121 rfl ?_
  refine E_getfield (v := .int (nI (a + 1))) at_X6_item_122 w65 rfl (by decide) rfl ?_
  refine E_istore_n (L2 := [some (.ref 65), some (.int (nI 0)), some (.int (nI 0)), some (.int (nI (a + 1)))]) at_X6_item_125 rfl ?_
  refine E_aload_n at_X6_item_126 rfl ?_
  refine E_callV (v := some (.int (nI 0))) (As := [.ref 65]) (r0 := []) (cs2 := (ww im lf s d k ls rf rz ra rn rq lt m1 m2 m3 m4 bd fc hd sz el q (fUp (fUp (fUp (fUp (fUp (fUp g 27 (nI (160 * j))) 29 (nI n)) 6 (-1)) 28 (nI (a + 1))) 30 (nI 0)) 31 (nI (a + 1))) fm hm so si sh ce ca td wa kp la bf oo bo pw ow tr)) at_X6_item_127 rfl rfl (Nat.le_of_ble_eq_true rfl) rfl (ab_rvOf w65 rfl) (m_rd0 hj hn (by omega) l_ce hce hdg) (by decide) w_lens ?_
  refine E_if (t := 135) (b := false) at_X6_item_130 rfl (by decide) ?_
  refine E_iconst (x := nI 0) at_X6_item_133 (by decide) ?_
  exact E_iret at_X6_item_134 rfl
set_option maxHeartbeats 1000000 in
theorem md000 {e : List Int64} {n a j : Nat} {x30 x31 : Int32} {q : ab_q} (hj : j < 8) (hn : n ≤ 160) (ha : a ≤ n) (Iq : qI q) (l_td : td.length = 3) (l_ce : ce.length = 1280) (hce : ∀ p, p < 160 → e.getD p 0 = ce.getD (160 * j + p) 0) {x3 : Option Value} (hb : chB e n a 32 = true) (hdg : dgB e n (a + 1) = true) (hr : 7 ≤ nuV e n (a + 1)) : Ef ab_Z0 2 mX6_item (57, [some (.ref 65), some (.int (nI 0)), some (.int (nI 0)), x3], [], (ww im lf s d k ls rf rz ra rn rq lt m1 m2 m3 m4 bd fc hd sz el q (fUp (fUp (fUp (fUp (fUp (fUp g 27 (nI (160 * j))) 29 (nI n)) 6 (-1)) 28 (nI (a + 1))) 30 x30) 31 x31) fm hm so si sh ce ca td wa kp la bf oo bo pw ow tr)) (some (.int (nI 0)), (ww im lf s d k ls rf rz ra rn rq lt m1 m2 m3 m4 bd fc hd sz el q (fUp (fUp (fUp (fUp (fUp (fUp g 27 (nI (160 * j))) 29 (nI n)) 6 (-1)) 28 (nI (cnE e n a))) 30 (nI (nuV e n (a + 1)))) 31 (nI (a + 1))) fm hm so si sh ce ca td wa kp la bf oo bo pw ow tr)) := by
  obtain ⟨⟨i0, i1, i2, i3⟩, ⟨i4, i5, i6, i7, i8⟩, ⟨i9, i10⟩, I1_, I2_, I3_, I4_⟩ := id Iq
  have hb_ := chB_t hb
  have hd_ := dgB_t hdg
  have h99 := nuV_99 hdg
  have hcn := cnE_n hdg
  have : ([3, 3, 2, 2, 1, 0, 0] : List Nat).length = 7 := rfl
  have : ([6, 9, 50, 99, 9, 7, 7, 60] : List Nat).length = 8 := rfl
  refine E_iload_n at_X6_item_57 rfl ?_
  refine E_aload_n at_X6_item_58 rfl ?_
  refine E_getfield (v := .ref 83) at_X6_item_59 w65 rfl (by decide) rfl ?_
  refine E_iload_n at_X6_item_62 rfl ?_
  refine E_ialN (l := [3, 3, 2, 2, 1, 0, 0]) (v := 3) at_X6_item_63 w83 (by omega) (by omega) rfl ?_
  refine E_ic (t := 166) (b := false) at_X6_item_64 rfl (by decide) ?_
  refine E_iload_n at_X6_item_67 rfl ?_
  refine E_if (t := 121) (b := true) at_X6_item_68 rfl (by decide) ?_
  refine E_aload_n at_X6_item_121 rfl ?_
  refine E_getfield (v := .int (nI (a + 1))) at_X6_item_122 w65 rfl (by decide) rfl ?_
  refine E_istore_n (L2 := [some (.ref 65), some (.int (nI 0)), some (.int (nI 0)), some (.int (nI (a + 1)))]) at_X6_item_125 rfl ?_
  refine E_aload_n at_X6_item_126 rfl ?_
  refine E_callV (v := some (.int (nI 1))) (As := [.ref 65]) (r0 := []) (cs2 := (ww im lf s d k ls rf rz ra rn rq lt m1 m2 m3 m4 bd fc hd sz el q (fUp (fUp (fUp (fUp (fUp (fUp g 27 (nI (160 * j))) 29 (nI n)) 6 (-1)) 28 (nI (cnE e n a))) 30 (nI (nuV e n (a + 1)))) 31 x31) fm hm so si sh ce ca td wa kp la bf oo bo pw ow tr)) at_X6_item_127 rfl rfl (Nat.le_of_ble_eq_true rfl) rfl (ab_rvOf w65 rfl) (m_rd1 hj hn (by omega) l_ce hce hdg) (by decide) w_lens ?_
  refine E_if (t := 135) (b := true) at_X6_item_130 rfl (by decide) ?_
  refine E_aload_n at_X6_item_135 rfl ?_
  refine E_iload_n at_X6_item_136 rfl ?_
  refine E_iload_n at_X6_item_137 rfl ?_
  have e2 : Ev ab_Z0 2 161 [.ref 65, .int (nI 0), .int (nI 0)] (ww im lf s d k ls rf rz ra rn rq lt m1 m2 m3 m4 bd fc hd sz el q (fUp (fUp (fUp (fUp (fUp (fUp g 27 (nI (160 * j))) 29 (nI n)) 6 (-1)) 28 (nI (cnE e n a))) 30 (nI (nuV e n (a + 1)))) 31 x31) fm hm so si sh ce ca td wa kp la bf oo bo pw ow tr) (some (.int (nI 0)), (ww im lf s d k ls rf rz ra rn rq lt m1 m2 m3 m4 bd fc hd sz el q (fUp (fUp (fUp (fUp (fUp (fUp g 27 (nI (160 * j))) 29 (nI n)) 6 (-1)) 28 (nI (cnE e n a))) 30 (nI (nuV e n (a + 1)))) 31 x31) fm hm so si sh ce ca td wa kp la bf oo bo pw ow tr)) := by
    refine Ef.in (md := mX6_isSo) (L := [some (.ref 65), some (.int (nI 0)), some (.int (nI 0))]) rfl (Nat.le_of_ble_eq_true rfl) rfl ?_
    refine E_iload_n at_X6_isSo_0 rfl ?_
    refine E_iconst (x := nI 3) at_X6_isSo_1 (by decide) ?_
    refine E_ic (t := 48) (b := false) at_X6_isSo_2 rfl (by decide) ?_
    refine E_aload_n at_X6_isSo_5 rfl ?_
    refine E_aload_n at_X6_isSo_6 rfl ?_
    refine E_getfield (v := .int (nI (nuV e n (a + 1)))) at_X6_isSo_7 w65 rfl (by decide) rfl ?_
    refine E_iload_n at_X6_isSo_10 rfl ?_
    refine E_if (t := 19) (b := false) at_X6_isSo_11 rfl (by decide) ?_
    refine E_iload_n at_X6_isSo_14 rfl ?_
    refine E_iconst (x := nI 2) at_X6_isSo_15 (by decide) ?_
    refine E_ic (t := 29) (b := false) at_X6_isSo_16 rfl (by decide) ?_
    refine E_iload_n at_X6_isSo_19 rfl ?_
    refine E_iconst (x := nI 2) at_X6_isSo_20 (by decide) ?_
    refine E_ic (t := 33) (b := true) at_X6_isSo_21 rfl (by decide) ?_
    refine E_iconst (x := nI 0) at_X6_isSo_33 (by decide) ?_
    refine E_aload_n at_X6_isSo_34 rfl ?_
    refine E_getfield (v := .ref 84) at_X6_isSo_35 w65 rfl (by decide) rfl ?_
    refine E_iconst (x := nI 3) at_X6_isSo_38 (by decide) ?_
    refine E_iload_n at_X6_isSo_39 rfl ?_
    refine E_imul (z := nI 0) at_X6_isSo_40 (by decide) ?_
    refine E_iload_n at_X6_isSo_41 rfl ?_
    refine E_iadd (z := nI 0) at_X6_isSo_42 (by decide) ?_
    refine E_ialN (l := [6, 9, 50, 99, 9, 7, 7, 60]) (v := 6) at_X6_isSo_43 w84 (by omega) (by omega) rfl ?_
    have e1 : Ev ab_Z0 1 134 [.ref 65, .int (nI (nuV e n (a + 1))), .int (nI 0), .int (nI 6)] (ww im lf s d k ls rf rz ra rn rq lt m1 m2 m3 m4 bd fc hd sz el q (fUp (fUp (fUp (fUp (fUp (fUp g 27 (nI (160 * j))) 29 (nI n)) 6 (-1)) 28 (nI (cnE e n a))) 30 (nI (nuV e n (a + 1)))) 31 x31) fm hm so si sh ce ca td wa kp la bf oo bo pw ow tr) (some (.int (nI 0)), (ww im lf s d k ls rf rz ra rn rq lt m1 m2 m3 m4 bd fc hd sz el q (fUp (fUp (fUp (fUp (fUp (fUp g 27 (nI (160 * j))) 29 (nI n)) 6 (-1)) 28 (nI (cnE e n a))) 30 (nI (nuV e n (a + 1)))) 31 x31) fm hm so si sh ce ca td wa kp la bf oo bo pw ow tr)) := by
      refine Ef.in (md := mX6_isFrom) (L := [some (.ref 65), some (.int (nI (nuV e n (a + 1)))), some (.int (nI 0)), some (.int (nI 6))]) rfl (Nat.le_of_ble_eq_true rfl) rfl ?_
      refine E_iload_n at_X6_isFrom_0 rfl ?_
      refine E_iload_n at_X6_isFrom_1 rfl ?_
      refine E_ic (t := 14) (b := false) at_X6_isFrom_2 rfl ((cn_lt (nI_toInt (by omega)) (nI_toInt (by omega))).trans (decide_eq_false (by omega))) ?_
      refine E_iload_n at_X6_isFrom_5 rfl ?_
      refine E_iload_n at_X6_isFrom_6 rfl ?_
      refine E_ic (t := 14) (b := true) at_X6_isFrom_7 rfl ((cn_gt (nI_toInt (by omega)) (nI_toInt (by omega))).trans (decide_eq_true (by omega))) ?_
      refine E_iconst (x := nI 0) at_X6_isFrom_14 (by decide) ?_
      exact E_iret at_X6_isFrom_15 rfl
    refine E_callV (v := some (.int (nI 0))) (As := [.ref 65, .int (nI (nuV e n (a + 1))), .int (nI 0), .int (nI 6)]) (r0 := []) (cs2 := (ww im lf s d k ls rf rz ra rn rq lt m1 m2 m3 m4 bd fc hd sz el q (fUp (fUp (fUp (fUp (fUp (fUp g 27 (nI (160 * j))) 29 (nI n)) 6 (-1)) 28 (nI (cnE e n a))) 30 (nI (nuV e n (a + 1)))) 31 x31) fm hm so si sh ce ca td wa kp la bf oo bo pw ow tr)) at_X6_isSo_44 rfl rfl (Nat.le_of_ble_eq_true rfl) rfl (ab_rvOf w65 rfl) e1 (by decide) rfl ?_
    exact E_iret at_X6_isSo_47 rfl
  refine E_callV (v := some (.int (nI 0))) (As := [.ref 65, .int (nI 0), .int (nI 0)]) (r0 := []) (cs2 := (ww im lf s d k ls rf rz ra rn rq lt m1 m2 m3 m4 bd fc hd sz el q (fUp (fUp (fUp (fUp (fUp (fUp g 27 (nI (160 * j))) 29 (nI n)) 6 (-1)) 28 (nI (cnE e n a))) 30 (nI (nuV e n (a + 1)))) 31 x31) fm hm so si sh ce ca td wa kp la bf oo bo pw ow tr)) at_X6_item_138 rfl rfl (Nat.le_of_ble_eq_true rfl) rfl (ab_rvOf w65 rfl) e2 (by decide) rfl ?_
  refine E_if (t := 150) (b := false) at_X6_item_141 rfl (by decide) ?_
  refine E_aload_n at_X6_item_144 rfl ?_
  refine E_iload_n at_X6_item_145 rfl ?_
  have e3 : Ev ab_Z0 1 156 [.ref 65, .int (nI (a + 1))] (ww im lf s d k ls rf rz ra rn rq lt m1 m2 m3 m4 bd fc hd sz el q (fUp (fUp (fUp (fUp (fUp (fUp g 27 (nI (160 * j))) 29 (nI n)) 6 (-1)) 28 (nI (cnE e n a))) 30 (nI (nuV e n (a + 1)))) 31 x31) fm hm so si sh ce ca td wa kp la bf oo bo pw ow tr) (some (.int (nI 0)), (ww im lf s d k ls rf rz ra rn rq lt m1 m2 m3 m4 bd fc hd sz el q (fUp (fUp (fUp (fUp (fUp (fUp g 27 (nI (160 * j))) 29 (nI n)) 6 (-1)) 28 (nI (cnE e n a))) 30 (nI (nuV e n (a + 1)))) 31 (nI (a + 1))) fm hm so si sh ce ca td wa kp la bf oo bo pw ow tr)) := by
    refine Ef.in (md := mX6_wrong) (L := [some (.ref 65), some (.int (nI (a + 1)))]) rfl (Nat.le_of_ble_eq_true rfl) rfl ?_
    refine E_aload_n at_X6_wrong_0 rfl ?_
    refine E_iload_n at_X6_wrong_1 rfl ?_
    refine E_putfield (cs2 := (ww im lf s d k ls rf rz ra rn rq lt m1 m2 m3 m4 bd fc hd sz el q (fUp (fUp (fUp (fUp (fUp (fUp g 27 (nI (160 * j))) 29 (nI n)) 6 (-1)) 28 (nI (cnE e n a))) 30 (nI (nuV e n (a + 1)))) 31 (nI (a + 1))) fm hm so si sh ce ca td wa kp la bf oo bo pw ow tr)) at_X6_wrong_2 w65 rfl (by decide) (Nat.le_of_ble_eq_true rfl) rfl rfl rfl (w_pt65_31.trans (by rw [gn31])) ?_
    refine E_iconst (x := nI 0) at_X6_wrong_5 (by decide) ?_
    exact E_iret at_X6_wrong_6 rfl
  refine E_callV (v := some (.int (nI 0))) (As := [.ref 65, .int (nI (a + 1))]) (r0 := []) (cs2 := (ww im lf s d k ls rf rz ra rn rq lt m1 m2 m3 m4 bd fc hd sz el q (fUp (fUp (fUp (fUp (fUp (fUp g 27 (nI (160 * j))) 29 (nI n)) 6 (-1)) 28 (nI (cnE e n a))) 30 (nI (nuV e n (a + 1)))) 31 (nI (a + 1))) fm hm so si sh ce ca td wa kp la bf oo bo pw ow tr)) at_X6_item_146 rfl rfl (Nat.le_of_ble_eq_true rfl) rfl (ab_rvOf w65 rfl) e3 (by decide) w_lens ?_
  exact E_iret at_X6_item_149 rfl
set_option maxHeartbeats 1000000 in
theorem mc01 {e : List Int64} {n a j : Nat} {x30 x31 : Int32} {q : ab_q} (hj : j < 8) (hn : n ≤ 160) (ha : a ≤ n) (Iq : qI q) (l_td : td.length = 3) (l_ce : ce.length = 1280) (hce : ∀ p, p < 160 → e.getD p 0 = ce.getD (160 * j + p) 0) {x3 : Option Value} (hb : chB e n a 32 = true) (hdg : dgB e n (a + 1) = true) (ho0 : 0 ≤ nuV e n (a + 1)) (ho1 : nuV e n (a + 1) < 10) {r : Option Value × List ab_C} (K : Ef ab_Z0 2 mX6_item (57, [some (.ref 65), some (.int (nI 0)), some (.int (nI 2)), some (.int (nI (a + 1)))], [], (ww im lf s d k ls rf rz ra rn rq lt m1 m2 m3 m4 bd fc hd sz el q (fUp (fUp (fUp (fUp (fUp (fUp g 27 (nI (160 * j))) 29 (nI n)) 6 (-1)) 28 (nI (cnE e n a))) 30 (nI (nuV e n (a + 1)))) 31 x31) fm hm so si sh ce ca (td.set 1 (nI (nuV e n (a + 1)))) wa kp la bf oo bo pw ow tr)) r) : Ef ab_Z0 2 mX6_item (57, [some (.ref 65), some (.int (nI 0)), some (.int (nI 1)), x3], [], (ww im lf s d k ls rf rz ra rn rq lt m1 m2 m3 m4 bd fc hd sz el q (fUp (fUp (fUp (fUp (fUp (fUp g 27 (nI (160 * j))) 29 (nI n)) 6 (-1)) 28 (nI a)) 30 x30) 31 x31) fm hm so si sh ce ca td wa kp la bf oo bo pw ow tr)) r := by
  obtain ⟨⟨i0, i1, i2, i3⟩, ⟨i4, i5, i6, i7, i8⟩, ⟨i9, i10⟩, I1_, I2_, I3_, I4_⟩ := id Iq
  have hb_ := chB_t hb
  have hd_ := dgB_t hdg
  have h99 := nuV_99 hdg
  have hcn := cnE_n hdg
  have : ([3, 3, 2, 2, 1, 0, 0] : List Nat).length = 7 := rfl
  have : ([6, 9, 50, 99, 9, 7, 7, 60] : List Nat).length = 8 := rfl
  refine E_iload_n at_X6_item_57 rfl ?_
  refine E_aload_n at_X6_item_58 rfl ?_
  refine E_getfield (v := .ref 83) at_X6_item_59 w65 rfl (by decide) rfl ?_
  refine E_iload_n at_X6_item_62 rfl ?_
  refine E_ialN (l := [3, 3, 2, 2, 1, 0, 0]) (v := 3) at_X6_item_63 w83 (by omega) (by omega) rfl ?_
  refine E_ic (t := 166) (b := false) at_X6_item_64 rfl (by decide) ?_
  refine E_iload_n at_X6_item_67 rfl ?_
  refine E_if (t := 121) (b := false) at_X6_item_68 rfl (by decide) ?_
  refine E_aload_n at_X6_item_71 rfl ?_
  refine E_getfield (v := .int (nI a)) at_X6_item_72 w65 rfl (by decide) rfl ?_
  refine E_aload_n at_X6_item_75 rfl ?_
  refine E_getfield (v := .int (nI n)) at_X6_item_76 w65 rfl (by decide) rfl ?_
  refine E_ic (t := 102) (b := false) at_X6_item_79 rfl ((cn_ge (nI_toInt (by omega)) (nI_toInt (by omega))).trans (decide_eq_false (by omega))) ?_
  refine E_aload_n at_X6_item_82 rfl ?_
  refine E_getfield (v := .ref 80) at_X6_item_83 w65 rfl (by decide) rfl ?_
  refine E_aload_n at_X6_item_86 rfl ?_
  refine E_getfield (v := .int (nI (160 * j))) at_X6_item_87 w65 rfl (by decide) rfl ?_
  refine E_aload_n at_X6_item_90 rfl ?_
  refine E_getfield (v := .int (nI a)) at_X6_item_91 w65 rfl (by decide) rfl ?_
  refine E_iadd (z := nI ((160 * j) + a)) at_X6_item_94 (nI_add _ _) ?_
  refine E_lalL (l := ce) (v := ce.getD ((160 * j) + a) 0) at_X6_item_95 w80 (by omega) (by omega) rfl ?_
  refine E_l2i (z := tw e a) at_X6_item_96 (by unfold tw; rw [hce a (by omega)]) ?_
  refine E_bipush (x := nI 32) at_X6_item_97 (by decide) ?_
  refine E_ic (t := 111) (b := true) at_X6_item_99 rfl ((cn_eq rfl (nI_toInt (by omega))).trans (decide_eq_true (by omega))) ?_
  refine E_aload_n at_X6_item_111 rfl ?_
  refine E_dup at_X6_item_112 rfl ?_
  refine E_getfield (v := .int (nI a)) at_X6_item_113 w65 rfl (by decide) rfl ?_
  refine E_iconst (x := nI 1) at_X6_item_116 (by decide) ?_
  refine E_iadd (z := nI (a + 1)) at_X6_item_117 (nI_add _ _) ?_
  refine E_putfield (cs2 := (ww im lf s d k ls rf rz ra rn rq lt m1 m2 m3 m4 bd fc hd sz el q (fUp (fUp (fUp (fUp (fUp (fUp g 27 (nI (160 * j))) 29 (nI n)) 6 (-1)) 28 (nI (a + 1))) 30 x30) 31 x31) fm hm so si sh ce ca td wa kp la bf oo bo pw ow tr)) at_X6_item_118 w65 rfl (by decide) (Nat.le_of_ble_eq_true rfl) rfl rfl rfl (w_pt65_28.trans (by rw [gn28])) ?_
  refine E_aload_n at_X6_item_121 rfl ?_
  refine E_getfield (v := .int (nI (a + 1))) at_X6_item_122 w65 rfl (by decide) rfl ?_
  refine E_istore_n (L2 := [some (.ref 65), some (.int (nI 0)), some (.int (nI 1)), some (.int (nI (a + 1)))]) at_X6_item_125 rfl ?_
  refine E_aload_n at_X6_item_126 rfl ?_
  refine E_callV (v := some (.int (nI 1))) (As := [.ref 65]) (r0 := []) (cs2 := (ww im lf s d k ls rf rz ra rn rq lt m1 m2 m3 m4 bd fc hd sz el q (fUp (fUp (fUp (fUp (fUp (fUp g 27 (nI (160 * j))) 29 (nI n)) 6 (-1)) 28 (nI (cnE e n a))) 30 (nI (nuV e n (a + 1)))) 31 x31) fm hm so si sh ce ca td wa kp la bf oo bo pw ow tr)) at_X6_item_127 rfl rfl (Nat.le_of_ble_eq_true rfl) rfl (ab_rvOf w65 rfl) (m_rd1 hj hn (by omega) l_ce hce hdg) (by decide) w_lens ?_
  refine E_if (t := 135) (b := true) at_X6_item_130 rfl (by decide) ?_
  refine E_aload_n at_X6_item_135 rfl ?_
  refine E_iload_n at_X6_item_136 rfl ?_
  refine E_iload_n at_X6_item_137 rfl ?_
  have e2 : Ev ab_Z0 2 161 [.ref 65, .int (nI 0), .int (nI 1)] (ww im lf s d k ls rf rz ra rn rq lt m1 m2 m3 m4 bd fc hd sz el q (fUp (fUp (fUp (fUp (fUp (fUp g 27 (nI (160 * j))) 29 (nI n)) 6 (-1)) 28 (nI (cnE e n a))) 30 (nI (nuV e n (a + 1)))) 31 x31) fm hm so si sh ce ca td wa kp la bf oo bo pw ow tr) (some (.int (nI 1)), (ww im lf s d k ls rf rz ra rn rq lt m1 m2 m3 m4 bd fc hd sz el q (fUp (fUp (fUp (fUp (fUp (fUp g 27 (nI (160 * j))) 29 (nI n)) 6 (-1)) 28 (nI (cnE e n a))) 30 (nI (nuV e n (a + 1)))) 31 x31) fm hm so si sh ce ca td wa kp la bf oo bo pw ow tr)) := by
    refine Ef.in (md := mX6_isSo) (L := [some (.ref 65), some (.int (nI 0)), some (.int (nI 1))]) rfl (Nat.le_of_ble_eq_true rfl) rfl ?_
    refine E_iload_n at_X6_isSo_0 rfl ?_
    refine E_iconst (x := nI 3) at_X6_isSo_1 (by decide) ?_
    refine E_ic (t := 48) (b := false) at_X6_isSo_2 rfl (by decide) ?_
    refine E_aload_n at_X6_isSo_5 rfl ?_
    refine E_aload_n at_X6_isSo_6 rfl ?_
    refine E_getfield (v := .int (nI (nuV e n (a + 1)))) at_X6_isSo_7 w65 rfl (by decide) rfl ?_
    refine E_iload_n at_X6_isSo_10 rfl ?_
    refine E_if (t := 19) (b := false) at_X6_isSo_11 rfl (by decide) ?_
    refine E_iload_n at_X6_isSo_14 rfl ?_
    refine E_iconst (x := nI 2) at_X6_isSo_15 (by decide) ?_
    refine E_ic (t := 29) (b := false) at_X6_isSo_16 rfl (by decide) ?_
    refine E_iload_n at_X6_isSo_19 rfl ?_
    refine E_iconst (x := nI 2) at_X6_isSo_20 (by decide) ?_
    refine E_ic (t := 33) (b := true) at_X6_isSo_21 rfl (by decide) ?_
    refine E_iconst (x := nI 0) at_X6_isSo_33 (by decide) ?_
    refine E_aload_n at_X6_isSo_34 rfl ?_
    refine E_getfield (v := .ref 84) at_X6_isSo_35 w65 rfl (by decide) rfl ?_
    refine E_iconst (x := nI 3) at_X6_isSo_38 (by decide) ?_
    refine E_iload_n at_X6_isSo_39 rfl ?_
    refine E_imul (z := nI 0) at_X6_isSo_40 (by decide) ?_
    refine E_iload_n at_X6_isSo_41 rfl ?_
    refine E_iadd (z := nI 1) at_X6_isSo_42 (by decide) ?_
    refine E_ialN (l := [6, 9, 50, 99, 9, 7, 7, 60]) (v := 9) at_X6_isSo_43 w84 (by omega) (by omega) rfl ?_
    have e1 : Ev ab_Z0 1 134 [.ref 65, .int (nI (nuV e n (a + 1))), .int (nI 0), .int (nI 9)] (ww im lf s d k ls rf rz ra rn rq lt m1 m2 m3 m4 bd fc hd sz el q (fUp (fUp (fUp (fUp (fUp (fUp g 27 (nI (160 * j))) 29 (nI n)) 6 (-1)) 28 (nI (cnE e n a))) 30 (nI (nuV e n (a + 1)))) 31 x31) fm hm so si sh ce ca td wa kp la bf oo bo pw ow tr) (some (.int (nI 1)), (ww im lf s d k ls rf rz ra rn rq lt m1 m2 m3 m4 bd fc hd sz el q (fUp (fUp (fUp (fUp (fUp (fUp g 27 (nI (160 * j))) 29 (nI n)) 6 (-1)) 28 (nI (cnE e n a))) 30 (nI (nuV e n (a + 1)))) 31 x31) fm hm so si sh ce ca td wa kp la bf oo bo pw ow tr)) := by
      refine Ef.in (md := mX6_isFrom) (L := [some (.ref 65), some (.int (nI (nuV e n (a + 1)))), some (.int (nI 0)), some (.int (nI 9))]) rfl (Nat.le_of_ble_eq_true rfl) rfl ?_
      refine E_iload_n at_X6_isFrom_0 rfl ?_
      refine E_iload_n at_X6_isFrom_1 rfl ?_
      refine E_ic (t := 14) (b := false) at_X6_isFrom_2 rfl ((cn_lt (nI_toInt (by omega)) (nI_toInt (by omega))).trans (decide_eq_false (by omega))) ?_
      refine E_iload_n at_X6_isFrom_5 rfl ?_
      refine E_iload_n at_X6_isFrom_6 rfl ?_
      refine E_ic (t := 14) (b := false) at_X6_isFrom_7 rfl ((cn_gt (nI_toInt (by omega)) (nI_toInt (by omega))).trans (decide_eq_false (by omega))) ?_
      refine E_iconst (x := nI 1) at_X6_isFrom_10 (by decide) ?_
      refine E_goto (t := 15) at_X6_isFrom_11 rfl ?_
      exact E_iret at_X6_isFrom_15 rfl
    refine E_callV (v := some (.int (nI 1))) (As := [.ref 65, .int (nI (nuV e n (a + 1))), .int (nI 0), .int (nI 9)]) (r0 := []) (cs2 := (ww im lf s d k ls rf rz ra rn rq lt m1 m2 m3 m4 bd fc hd sz el q (fUp (fUp (fUp (fUp (fUp (fUp g 27 (nI (160 * j))) 29 (nI n)) 6 (-1)) 28 (nI (cnE e n a))) 30 (nI (nuV e n (a + 1)))) 31 x31) fm hm so si sh ce ca td wa kp la bf oo bo pw ow tr)) at_X6_isSo_44 rfl rfl (Nat.le_of_ble_eq_true rfl) rfl (ab_rvOf w65 rfl) e1 (by decide) rfl ?_
    exact E_iret at_X6_isSo_47 rfl
  refine E_callV (v := some (.int (nI 1))) (As := [.ref 65, .int (nI 0), .int (nI 1)]) (r0 := []) (cs2 := (ww im lf s d k ls rf rz ra rn rq lt m1 m2 m3 m4 bd fc hd sz el q (fUp (fUp (fUp (fUp (fUp (fUp g 27 (nI (160 * j))) 29 (nI n)) 6 (-1)) 28 (nI (cnE e n a))) 30 (nI (nuV e n (a + 1)))) 31 x31) fm hm so si sh ce ca td wa kp la bf oo bo pw ow tr)) at_X6_item_138 rfl rfl (Nat.le_of_ble_eq_true rfl) rfl (ab_rvOf w65 rfl) e2 (by decide) rfl ?_
  refine E_if (t := 150) (b := true) at_X6_item_141 rfl (by decide) ?_
  refine E_aload_n at_X6_item_150 rfl ?_
  refine E_getfield (v := .ref 85) at_X6_item_151 w65 rfl (by decide) rfl ?_
  refine E_iload_n at_X6_item_154 rfl ?_
  refine E_aload_n at_X6_item_155 rfl ?_
  refine E_getfield (v := .int (nI (nuV e n (a + 1)))) at_X6_item_156 w65 rfl (by decide) rfl ?_
  refine E_iasI (l := td) (cs2 := (ww im lf s d k ls rf rz ra rn rq lt m1 m2 m3 m4 bd fc hd sz el q (fUp (fUp (fUp (fUp (fUp (fUp g 27 (nI (160 * j))) 29 (nI n)) 6 (-1)) 28 (nI (cnE e n a))) 30 (nI (nuV e n (a + 1)))) 31 x31) fm hm so si sh ce ca (td.set 1 (nI (nuV e n (a + 1)))) wa kp la bf oo bo pw ow tr)) at_X6_item_159 w85 (by omega) (by omega) rfl ?_
  refine E_iinc (y := nI 2) (L2 := [some (.ref 65), some (.int (nI 0)), some (.int (nI 2)), some (.int (nI (a + 1)))]) at_X6_item_160 rfl (by decide) rfl ?_
  refine E_goto (t := 57) at_X6_item_163 rfl ?_
  exact K
set_option maxHeartbeats 1000000 in
theorem ma01 {e : List Int64} {n a j : Nat} {x30 x31 : Int32} {q : ab_q} (hj : j < 8) (hn : n ≤ 160) (ha : a ≤ n) (Iq : qI q) (l_td : td.length = 3) (l_ce : ce.length = 1280) (hce : ∀ p, p < 160 → e.getD p 0 = ce.getD (160 * j + p) 0) {x3 : Option Value} (hb : chB e n a 32 = false) : Ef ab_Z0 2 mX6_item (57, [some (.ref 65), some (.int (nI 0)), some (.int (nI 1)), x3], [], (ww im lf s d k ls rf rz ra rn rq lt m1 m2 m3 m4 bd fc hd sz el q (fUp (fUp (fUp (fUp (fUp (fUp g 27 (nI (160 * j))) 29 (nI n)) 6 (-1)) 28 (nI a)) 30 x30) 31 x31) fm hm so si sh ce ca td wa kp la bf oo bo pw ow tr)) (some (.int (nI 0)), (ww im lf s d k ls rf rz ra rn rq lt m1 m2 m3 m4 bd fc hd sz el q (fUp (fUp (fUp (fUp (fUp (fUp g 27 (nI (160 * j))) 29 (nI n)) 6 (-1)) 28 (nI a)) 30 x30) 31 (nI a)) fm hm so si sh ce ca td wa kp la bf oo bo pw ow tr)) := by
  rcases chB_f hb with h3 | h3
  · have : ([3, 3, 2, 2, 1, 0, 0] : List Nat).length = 7 := rfl
    refine E_iload_n at_X6_item_57 rfl ?_
    refine E_aload_n at_X6_item_58 rfl ?_
    refine E_getfield (v := .ref 83) at_X6_item_59 w65 rfl (by decide) rfl ?_
    refine E_iload_n at_X6_item_62 rfl ?_
    refine E_ialN (l := [3, 3, 2, 2, 1, 0, 0]) (v := 3) at_X6_item_63 w83 (by omega) (by omega) rfl ?_
    refine E_ic (t := 166) (b := false) at_X6_item_64 rfl (by decide) ?_
    refine E_iload_n at_X6_item_67 rfl ?_
    refine E_if (t := 121) (b := false) at_X6_item_68 rfl (by decide) ?_
    refine E_aload_n at_X6_item_71 rfl ?_
    refine E_getfield (v := .int (nI a)) at_X6_item_72 w65 rfl (by decide) rfl ?_
    refine E_aload_n at_X6_item_75 rfl ?_
    refine E_getfield (v := .int (nI n)) at_X6_item_76 w65 rfl (by decide) rfl ?_
    refine E_ic (t := 102) (b := true) at_X6_item_79 rfl ((cn_ge (nI_toInt (by omega)) (nI_toInt (by omega))).trans (decide_eq_true (by omega))) ?_
    refine E_aload_n at_X6_item_102 rfl ?_
    refine E_aload_n at_X6_item_103 rfl ?_
    refine E_getfield (v := .int (nI a)) at_X6_item_104 w65 rfl (by decide) rfl ?_
    have e1 : Ev ab_Z0 1 156 [.ref 65, .int (nI a)] (ww im lf s d k ls rf rz ra rn rq lt m1 m2 m3 m4 bd fc hd sz el q (fUp (fUp (fUp (fUp (fUp (fUp g 27 (nI (160 * j))) 29 (nI n)) 6 (-1)) 28 (nI a)) 30 x30) 31 x31) fm hm so si sh ce ca td wa kp la bf oo bo pw ow tr) (some (.int (nI 0)), (ww im lf s d k ls rf rz ra rn rq lt m1 m2 m3 m4 bd fc hd sz el q (fUp (fUp (fUp (fUp (fUp (fUp g 27 (nI (160 * j))) 29 (nI n)) 6 (-1)) 28 (nI a)) 30 x30) 31 (nI a)) fm hm so si sh ce ca td wa kp la bf oo bo pw ow tr)) := by
      refine Ef.in (md := mX6_wrong) (L := [some (.ref 65), some (.int (nI a))]) rfl (Nat.le_of_ble_eq_true rfl) rfl ?_
      refine E_aload_n at_X6_wrong_0 rfl ?_
      refine E_iload_n at_X6_wrong_1 rfl ?_
      refine E_putfield (cs2 := (ww im lf s d k ls rf rz ra rn rq lt m1 m2 m3 m4 bd fc hd sz el q (fUp (fUp (fUp (fUp (fUp (fUp g 27 (nI (160 * j))) 29 (nI n)) 6 (-1)) 28 (nI a)) 30 x30) 31 (nI a)) fm hm so si sh ce ca td wa kp la bf oo bo pw ow tr)) at_X6_wrong_2 w65 rfl (by decide) (Nat.le_of_ble_eq_true rfl) rfl rfl rfl (w_pt65_31.trans (by rw [gn31])) ?_
      refine E_iconst (x := nI 0) at_X6_wrong_5 (by decide) ?_
      exact E_iret at_X6_wrong_6 rfl
    refine E_callV (v := some (.int (nI 0))) (As := [.ref 65, .int (nI a)]) (r0 := []) (cs2 := (ww im lf s d k ls rf rz ra rn rq lt m1 m2 m3 m4 bd fc hd sz el q (fUp (fUp (fUp (fUp (fUp (fUp g 27 (nI (160 * j))) 29 (nI n)) 6 (-1)) 28 (nI a)) 30 x30) 31 (nI a)) fm hm so si sh ce ca td wa kp la bf oo bo pw ow tr)) at_X6_item_107 rfl rfl (Nat.le_of_ble_eq_true rfl) rfl (ab_rvOf w65 rfl) e1 (by decide) w_lens ?_
    exact E_iret at_X6_item_110 rfl
  · have : ([3, 3, 2, 2, 1, 0, 0] : List Nat).length = 7 := rfl
    refine E_iload_n at_X6_item_57 rfl ?_
    refine E_aload_n at_X6_item_58 rfl ?_
    refine E_getfield (v := .ref 83) at_X6_item_59 w65 rfl (by decide) rfl ?_
    refine E_iload_n at_X6_item_62 rfl ?_
    refine E_ialN (l := [3, 3, 2, 2, 1, 0, 0]) (v := 3) at_X6_item_63 w83 (by omega) (by omega) rfl ?_
    refine E_ic (t := 166) (b := false) at_X6_item_64 rfl (by decide) ?_
    refine E_iload_n at_X6_item_67 rfl ?_
    refine E_if (t := 121) (b := false) at_X6_item_68 rfl (by decide) ?_
    refine E_aload_n at_X6_item_71 rfl ?_
    refine E_getfield (v := .int (nI a)) at_X6_item_72 w65 rfl (by decide) rfl ?_
    refine E_aload_n at_X6_item_75 rfl ?_
    refine E_getfield (v := .int (nI n)) at_X6_item_76 w65 rfl (by decide) rfl ?_
    refine E_ic (t := 102) (b := false) at_X6_item_79 rfl ((cn_ge (nI_toInt (by omega)) (nI_toInt (by omega))).trans (decide_eq_false (by omega))) ?_
    refine E_aload_n at_X6_item_82 rfl ?_
    refine E_getfield (v := .ref 80) at_X6_item_83 w65 rfl (by decide) rfl ?_
    refine E_aload_n at_X6_item_86 rfl ?_
    refine E_getfield (v := .int (nI (160 * j))) at_X6_item_87 w65 rfl (by decide) rfl ?_
    refine E_aload_n at_X6_item_90 rfl ?_
    refine E_getfield (v := .int (nI a)) at_X6_item_91 w65 rfl (by decide) rfl ?_
    refine E_iadd (z := nI ((160 * j) + a)) at_X6_item_94 (nI_add _ _) ?_
    refine E_lalL (l := ce) (v := ce.getD ((160 * j) + a) 0) at_X6_item_95 w80 (by omega) (by omega) rfl ?_
    refine E_l2i (z := tw e a) at_X6_item_96 (by unfold tw; rw [hce a (by omega)]) ?_
    refine E_bipush (x := nI 32) at_X6_item_97 (by decide) ?_
    refine E_ic (t := 111) (b := false) at_X6_item_99 rfl ((cn_eq rfl (nI_toInt (by omega))).trans (decide_eq_false (by omega))) ?_
    refine E_aload_n at_X6_item_102 rfl ?_
    refine E_aload_n at_X6_item_103 rfl ?_
    refine E_getfield (v := .int (nI a)) at_X6_item_104 w65 rfl (by decide) rfl ?_
    have e1 : Ev ab_Z0 1 156 [.ref 65, .int (nI a)] (ww im lf s d k ls rf rz ra rn rq lt m1 m2 m3 m4 bd fc hd sz el q (fUp (fUp (fUp (fUp (fUp (fUp g 27 (nI (160 * j))) 29 (nI n)) 6 (-1)) 28 (nI a)) 30 x30) 31 x31) fm hm so si sh ce ca td wa kp la bf oo bo pw ow tr) (some (.int (nI 0)), (ww im lf s d k ls rf rz ra rn rq lt m1 m2 m3 m4 bd fc hd sz el q (fUp (fUp (fUp (fUp (fUp (fUp g 27 (nI (160 * j))) 29 (nI n)) 6 (-1)) 28 (nI a)) 30 x30) 31 (nI a)) fm hm so si sh ce ca td wa kp la bf oo bo pw ow tr)) := by
      refine Ef.in (md := mX6_wrong) (L := [some (.ref 65), some (.int (nI a))]) rfl (Nat.le_of_ble_eq_true rfl) rfl ?_
      refine E_aload_n at_X6_wrong_0 rfl ?_
      refine E_iload_n at_X6_wrong_1 rfl ?_
      refine E_putfield (cs2 := (ww im lf s d k ls rf rz ra rn rq lt m1 m2 m3 m4 bd fc hd sz el q (fUp (fUp (fUp (fUp (fUp (fUp g 27 (nI (160 * j))) 29 (nI n)) 6 (-1)) 28 (nI a)) 30 x30) 31 (nI a)) fm hm so si sh ce ca td wa kp la bf oo bo pw ow tr)) at_X6_wrong_2 w65 rfl (by decide) (Nat.le_of_ble_eq_true rfl) rfl rfl rfl (w_pt65_31.trans (by rw [gn31])) ?_
      refine E_iconst (x := nI 0) at_X6_wrong_5 (by decide) ?_
      exact E_iret at_X6_wrong_6 rfl
    refine E_callV (v := some (.int (nI 0))) (As := [.ref 65, .int (nI a)]) (r0 := []) (cs2 := (ww im lf s d k ls rf rz ra rn rq lt m1 m2 m3 m4 bd fc hd sz el q (fUp (fUp (fUp (fUp (fUp (fUp g 27 (nI (160 * j))) 29 (nI n)) 6 (-1)) 28 (nI a)) 30 x30) 31 (nI a)) fm hm so si sh ce ca td wa kp la bf oo bo pw ow tr)) at_X6_item_107 rfl rfl (Nat.le_of_ble_eq_true rfl) rfl (ab_rvOf w65 rfl) e1 (by decide) w_lens ?_
    exact E_iret at_X6_item_110 rfl
set_option maxHeartbeats 1000000 in
theorem mb01 {e : List Int64} {n a j : Nat} {x30 x31 : Int32} {q : ab_q} (hj : j < 8) (hn : n ≤ 160) (ha : a ≤ n) (Iq : qI q) (l_td : td.length = 3) (l_ce : ce.length = 1280) (hce : ∀ p, p < 160 → e.getD p 0 = ce.getD (160 * j + p) 0) {x3 : Option Value} (hb : chB e n a 32 = true) (hdg : dgB e n (a + 1) = false) : Ef ab_Z0 2 mX6_item (57, [some (.ref 65), some (.int (nI 0)), some (.int (nI 1)), x3], [], (ww im lf s d k ls rf rz ra rn rq lt m1 m2 m3 m4 bd fc hd sz el q (fUp (fUp (fUp (fUp (fUp (fUp g 27 (nI (160 * j))) 29 (nI n)) 6 (-1)) 28 (nI a)) 30 x30) 31 x31) fm hm so si sh ce ca td wa kp la bf oo bo pw ow tr)) (some (.int (nI 0)), (ww im lf s d k ls rf rz ra rn rq lt m1 m2 m3 m4 bd fc hd sz el q (fUp (fUp (fUp (fUp (fUp (fUp g 27 (nI (160 * j))) 29 (nI n)) 6 (-1)) 28 (nI (a + 1))) 30 (nI 0)) 31 (nI (a + 1))) fm hm so si sh ce ca td wa kp la bf oo bo pw ow tr)) := by
  have hb_ := chB_t hb
  have : ([3, 3, 2, 2, 1, 0, 0] : List Nat).length = 7 := rfl
  refine E_iload_n at_X6_item_57 rfl ?_
  refine E_aload_n at_X6_item_58 rfl ?_
  refine E_getfield (v := .ref 83) at_X6_item_59 w65 rfl (by decide) rfl ?_
  refine E_iload_n at_X6_item_62 rfl ?_
  refine E_ialN (l := [3, 3, 2, 2, 1, 0, 0]) (v := 3) at_X6_item_63 w83 (by omega) (by omega) rfl ?_
  refine E_ic (t := 166) (b := false) at_X6_item_64 rfl (by decide) ?_
  refine E_iload_n at_X6_item_67 rfl ?_
  refine E_if (t := 121) (b := false) at_X6_item_68 rfl (by decide) ?_
  refine E_aload_n at_X6_item_71 rfl ?_
  refine E_getfield (v := .int (nI a)) at_X6_item_72 w65 rfl (by decide) rfl ?_
  refine E_aload_n at_X6_item_75 rfl ?_
  refine E_getfield (v := .int (nI n)) at_X6_item_76 w65 rfl (by decide) rfl ?_
  refine E_ic (t := 102) (b := false) at_X6_item_79 rfl ((cn_ge (nI_toInt (by omega)) (nI_toInt (by omega))).trans (decide_eq_false (by omega))) ?_
  refine E_aload_n at_X6_item_82 rfl ?_
  refine E_getfield (v := .ref 80) at_X6_item_83 w65 rfl (by decide) rfl ?_
  refine E_aload_n at_X6_item_86 rfl ?_
  refine E_getfield (v := .int (nI (160 * j))) at_X6_item_87 w65 rfl (by decide) rfl ?_
  refine E_aload_n at_X6_item_90 rfl ?_
  refine E_getfield (v := .int (nI a)) at_X6_item_91 w65 rfl (by decide) rfl ?_
  refine E_iadd (z := nI ((160 * j) + a)) at_X6_item_94 (nI_add _ _) ?_
  refine E_lalL (l := ce) (v := ce.getD ((160 * j) + a) 0) at_X6_item_95 w80 (by omega) (by omega) rfl ?_
  refine E_l2i (z := tw e a) at_X6_item_96 (by unfold tw; rw [hce a (by omega)]) ?_
  refine E_bipush (x := nI 32) at_X6_item_97 (by decide) ?_
  refine E_ic (t := 111) (b := true) at_X6_item_99 rfl ((cn_eq rfl (nI_toInt (by omega))).trans (decide_eq_true (by omega))) ?_
  refine E_aload_n at_X6_item_111 rfl ?_
  refine E_dup at_X6_item_112 rfl ?_
  refine E_getfield (v := .int (nI a)) at_X6_item_113 w65 rfl (by decide) rfl ?_
  refine E_iconst (x := nI 1) at_X6_item_116 (by decide) ?_
  refine E_iadd (z := nI (a + 1)) at_X6_item_117 (nI_add _ _) ?_
  refine E_putfield (cs2 := (ww im lf s d k ls rf rz ra rn rq lt m1 m2 m3 m4 bd fc hd sz el q (fUp (fUp (fUp (fUp (fUp (fUp g 27 (nI (160 * j))) 29 (nI n)) 6 (-1)) 28 (nI (a + 1))) 30 x30) 31 x31) fm hm so si sh ce ca td wa kp la bf oo bo pw ow tr)) at_X6_item_118 w65 rfl (by decide) (Nat.le_of_ble_eq_true rfl) rfl rfl rfl (w_pt65_28.trans (by rw [gn28])) ?_
  refine E_aload_n at_X6_item_121 rfl ?_
  refine E_getfield (v := .int (nI (a + 1))) at_X6_item_122 w65 rfl (by decide) rfl ?_
  refine E_istore_n (L2 := [some (.ref 65), some (.int (nI 0)), some (.int (nI 1)), some (.int (nI (a + 1)))]) at_X6_item_125 rfl ?_
  refine E_aload_n at_X6_item_126 rfl ?_
  refine E_callV (v := some (.int (nI 0))) (As := [.ref 65]) (r0 := []) (cs2 := (ww im lf s d k ls rf rz ra rn rq lt m1 m2 m3 m4 bd fc hd sz el q (fUp (fUp (fUp (fUp (fUp (fUp g 27 (nI (160 * j))) 29 (nI n)) 6 (-1)) 28 (nI (a + 1))) 30 (nI 0)) 31 (nI (a + 1))) fm hm so si sh ce ca td wa kp la bf oo bo pw ow tr)) at_X6_item_127 rfl rfl (Nat.le_of_ble_eq_true rfl) rfl (ab_rvOf w65 rfl) (m_rd0 hj hn (by omega) l_ce hce hdg) (by decide) w_lens ?_
  refine E_if (t := 135) (b := false) at_X6_item_130 rfl (by decide) ?_
  refine E_iconst (x := nI 0) at_X6_item_133 (by decide) ?_
  exact E_iret at_X6_item_134 rfl
set_option maxHeartbeats 1000000 in
theorem md010 {e : List Int64} {n a j : Nat} {x30 x31 : Int32} {q : ab_q} (hj : j < 8) (hn : n ≤ 160) (ha : a ≤ n) (Iq : qI q) (l_td : td.length = 3) (l_ce : ce.length = 1280) (hce : ∀ p, p < 160 → e.getD p 0 = ce.getD (160 * j + p) 0) {x3 : Option Value} (hb : chB e n a 32 = true) (hdg : dgB e n (a + 1) = true) (hr : 10 ≤ nuV e n (a + 1)) : Ef ab_Z0 2 mX6_item (57, [some (.ref 65), some (.int (nI 0)), some (.int (nI 1)), x3], [], (ww im lf s d k ls rf rz ra rn rq lt m1 m2 m3 m4 bd fc hd sz el q (fUp (fUp (fUp (fUp (fUp (fUp g 27 (nI (160 * j))) 29 (nI n)) 6 (-1)) 28 (nI a)) 30 x30) 31 x31) fm hm so si sh ce ca td wa kp la bf oo bo pw ow tr)) (some (.int (nI 0)), (ww im lf s d k ls rf rz ra rn rq lt m1 m2 m3 m4 bd fc hd sz el q (fUp (fUp (fUp (fUp (fUp (fUp g 27 (nI (160 * j))) 29 (nI n)) 6 (-1)) 28 (nI (cnE e n a))) 30 (nI (nuV e n (a + 1)))) 31 (nI (a + 1))) fm hm so si sh ce ca td wa kp la bf oo bo pw ow tr)) := by
  obtain ⟨⟨i0, i1, i2, i3⟩, ⟨i4, i5, i6, i7, i8⟩, ⟨i9, i10⟩, I1_, I2_, I3_, I4_⟩ := id Iq
  have hb_ := chB_t hb
  have hd_ := dgB_t hdg
  have h99 := nuV_99 hdg
  have hcn := cnE_n hdg
  have : ([3, 3, 2, 2, 1, 0, 0] : List Nat).length = 7 := rfl
  have : ([6, 9, 50, 99, 9, 7, 7, 60] : List Nat).length = 8 := rfl
  refine E_iload_n at_X6_item_57 rfl ?_
  refine E_aload_n at_X6_item_58 rfl ?_
  refine E_getfield (v := .ref 83) at_X6_item_59 w65 rfl (by decide) rfl ?_
  refine E_iload_n at_X6_item_62 rfl ?_
  refine E_ialN (l := [3, 3, 2, 2, 1, 0, 0]) (v := 3) at_X6_item_63 w83 (by omega) (by omega) rfl ?_
  refine E_ic (t := 166) (b := false) at_X6_item_64 rfl (by decide) ?_
  refine E_iload_n at_X6_item_67 rfl ?_
  refine E_if (t := 121) (b := false) at_X6_item_68 rfl (by decide) ?_
  refine E_aload_n at_X6_item_71 rfl ?_
  refine E_getfield (v := .int (nI a)) at_X6_item_72 w65 rfl (by decide) rfl ?_
  refine E_aload_n at_X6_item_75 rfl ?_
  refine E_getfield (v := .int (nI n)) at_X6_item_76 w65 rfl (by decide) rfl ?_
  refine E_ic (t := 102) (b := false) at_X6_item_79 rfl ((cn_ge (nI_toInt (by omega)) (nI_toInt (by omega))).trans (decide_eq_false (by omega))) ?_
  refine E_aload_n at_X6_item_82 rfl ?_
  refine E_getfield (v := .ref 80) at_X6_item_83 w65 rfl (by decide) rfl ?_
  refine E_aload_n at_X6_item_86 rfl ?_
  refine E_getfield (v := .int (nI (160 * j))) at_X6_item_87 w65 rfl (by decide) rfl ?_
  refine E_aload_n at_X6_item_90 rfl ?_
  refine E_getfield (v := .int (nI a)) at_X6_item_91 w65 rfl (by decide) rfl ?_
  refine E_iadd (z := nI ((160 * j) + a)) at_X6_item_94 (nI_add _ _) ?_
  refine E_lalL (l := ce) (v := ce.getD ((160 * j) + a) 0) at_X6_item_95 w80 (by omega) (by omega) rfl ?_
  refine E_l2i (z := tw e a) at_X6_item_96 (by unfold tw; rw [hce a (by omega)]) ?_
  refine E_bipush (x := nI 32) at_X6_item_97 (by decide) ?_
  refine E_ic (t := 111) (b := true) at_X6_item_99 rfl ((cn_eq rfl (nI_toInt (by omega))).trans (decide_eq_true (by omega))) ?_
  refine E_aload_n at_X6_item_111 rfl ?_
  refine E_dup at_X6_item_112 rfl ?_
  refine E_getfield (v := .int (nI a)) at_X6_item_113 w65 rfl (by decide) rfl ?_
  refine E_iconst (x := nI 1) at_X6_item_116 (by decide) ?_
  refine E_iadd (z := nI (a + 1)) at_X6_item_117 (nI_add _ _) ?_
  refine E_putfield (cs2 := (ww im lf s d k ls rf rz ra rn rq lt m1 m2 m3 m4 bd fc hd sz el q (fUp (fUp (fUp (fUp (fUp (fUp g 27 (nI (160 * j))) 29 (nI n)) 6 (-1)) 28 (nI (a + 1))) 30 x30) 31 x31) fm hm so si sh ce ca td wa kp la bf oo bo pw ow tr)) at_X6_item_118 w65 rfl (by decide) (Nat.le_of_ble_eq_true rfl) rfl rfl rfl (w_pt65_28.trans (by rw [gn28])) ?_
  refine E_aload_n at_X6_item_121 rfl ?_
  refine E_getfield (v := .int (nI (a + 1))) at_X6_item_122 w65 rfl (by decide) rfl ?_
  refine E_istore_n (L2 := [some (.ref 65), some (.int (nI 0)), some (.int (nI 1)), some (.int (nI (a + 1)))]) at_X6_item_125 rfl ?_
  refine E_aload_n at_X6_item_126 rfl ?_
  refine E_callV (v := some (.int (nI 1))) (As := [.ref 65]) (r0 := []) (cs2 := (ww im lf s d k ls rf rz ra rn rq lt m1 m2 m3 m4 bd fc hd sz el q (fUp (fUp (fUp (fUp (fUp (fUp g 27 (nI (160 * j))) 29 (nI n)) 6 (-1)) 28 (nI (cnE e n a))) 30 (nI (nuV e n (a + 1)))) 31 x31) fm hm so si sh ce ca td wa kp la bf oo bo pw ow tr)) at_X6_item_127 rfl rfl (Nat.le_of_ble_eq_true rfl) rfl (ab_rvOf w65 rfl) (m_rd1 hj hn (by omega) l_ce hce hdg) (by decide) w_lens ?_
  refine E_if (t := 135) (b := true) at_X6_item_130 rfl (by decide) ?_
  refine E_aload_n at_X6_item_135 rfl ?_
  refine E_iload_n at_X6_item_136 rfl ?_
  refine E_iload_n at_X6_item_137 rfl ?_
  have e2 : Ev ab_Z0 2 161 [.ref 65, .int (nI 0), .int (nI 1)] (ww im lf s d k ls rf rz ra rn rq lt m1 m2 m3 m4 bd fc hd sz el q (fUp (fUp (fUp (fUp (fUp (fUp g 27 (nI (160 * j))) 29 (nI n)) 6 (-1)) 28 (nI (cnE e n a))) 30 (nI (nuV e n (a + 1)))) 31 x31) fm hm so si sh ce ca td wa kp la bf oo bo pw ow tr) (some (.int (nI 0)), (ww im lf s d k ls rf rz ra rn rq lt m1 m2 m3 m4 bd fc hd sz el q (fUp (fUp (fUp (fUp (fUp (fUp g 27 (nI (160 * j))) 29 (nI n)) 6 (-1)) 28 (nI (cnE e n a))) 30 (nI (nuV e n (a + 1)))) 31 x31) fm hm so si sh ce ca td wa kp la bf oo bo pw ow tr)) := by
    refine Ef.in (md := mX6_isSo) (L := [some (.ref 65), some (.int (nI 0)), some (.int (nI 1))]) rfl (Nat.le_of_ble_eq_true rfl) rfl ?_
    refine E_iload_n at_X6_isSo_0 rfl ?_
    refine E_iconst (x := nI 3) at_X6_isSo_1 (by decide) ?_
    refine E_ic (t := 48) (b := false) at_X6_isSo_2 rfl (by decide) ?_
    refine E_aload_n at_X6_isSo_5 rfl ?_
    refine E_aload_n at_X6_isSo_6 rfl ?_
    refine E_getfield (v := .int (nI (nuV e n (a + 1)))) at_X6_isSo_7 w65 rfl (by decide) rfl ?_
    refine E_iload_n at_X6_isSo_10 rfl ?_
    refine E_if (t := 19) (b := false) at_X6_isSo_11 rfl (by decide) ?_
    refine E_iload_n at_X6_isSo_14 rfl ?_
    refine E_iconst (x := nI 2) at_X6_isSo_15 (by decide) ?_
    refine E_ic (t := 29) (b := false) at_X6_isSo_16 rfl (by decide) ?_
    refine E_iload_n at_X6_isSo_19 rfl ?_
    refine E_iconst (x := nI 2) at_X6_isSo_20 (by decide) ?_
    refine E_ic (t := 33) (b := true) at_X6_isSo_21 rfl (by decide) ?_
    refine E_iconst (x := nI 0) at_X6_isSo_33 (by decide) ?_
    refine E_aload_n at_X6_isSo_34 rfl ?_
    refine E_getfield (v := .ref 84) at_X6_isSo_35 w65 rfl (by decide) rfl ?_
    refine E_iconst (x := nI 3) at_X6_isSo_38 (by decide) ?_
    refine E_iload_n at_X6_isSo_39 rfl ?_
    refine E_imul (z := nI 0) at_X6_isSo_40 (by decide) ?_
    refine E_iload_n at_X6_isSo_41 rfl ?_
    refine E_iadd (z := nI 1) at_X6_isSo_42 (by decide) ?_
    refine E_ialN (l := [6, 9, 50, 99, 9, 7, 7, 60]) (v := 9) at_X6_isSo_43 w84 (by omega) (by omega) rfl ?_
    have e1 : Ev ab_Z0 1 134 [.ref 65, .int (nI (nuV e n (a + 1))), .int (nI 0), .int (nI 9)] (ww im lf s d k ls rf rz ra rn rq lt m1 m2 m3 m4 bd fc hd sz el q (fUp (fUp (fUp (fUp (fUp (fUp g 27 (nI (160 * j))) 29 (nI n)) 6 (-1)) 28 (nI (cnE e n a))) 30 (nI (nuV e n (a + 1)))) 31 x31) fm hm so si sh ce ca td wa kp la bf oo bo pw ow tr) (some (.int (nI 0)), (ww im lf s d k ls rf rz ra rn rq lt m1 m2 m3 m4 bd fc hd sz el q (fUp (fUp (fUp (fUp (fUp (fUp g 27 (nI (160 * j))) 29 (nI n)) 6 (-1)) 28 (nI (cnE e n a))) 30 (nI (nuV e n (a + 1)))) 31 x31) fm hm so si sh ce ca td wa kp la bf oo bo pw ow tr)) := by
      refine Ef.in (md := mX6_isFrom) (L := [some (.ref 65), some (.int (nI (nuV e n (a + 1)))), some (.int (nI 0)), some (.int (nI 9))]) rfl (Nat.le_of_ble_eq_true rfl) rfl ?_
      refine E_iload_n at_X6_isFrom_0 rfl ?_
      refine E_iload_n at_X6_isFrom_1 rfl ?_
      refine E_ic (t := 14) (b := false) at_X6_isFrom_2 rfl ((cn_lt (nI_toInt (by omega)) (nI_toInt (by omega))).trans (decide_eq_false (by omega))) ?_
      refine E_iload_n at_X6_isFrom_5 rfl ?_
      refine E_iload_n at_X6_isFrom_6 rfl ?_
      refine E_ic (t := 14) (b := true) at_X6_isFrom_7 rfl ((cn_gt (nI_toInt (by omega)) (nI_toInt (by omega))).trans (decide_eq_true (by omega))) ?_
      refine E_iconst (x := nI 0) at_X6_isFrom_14 (by decide) ?_
      exact E_iret at_X6_isFrom_15 rfl
    refine E_callV (v := some (.int (nI 0))) (As := [.ref 65, .int (nI (nuV e n (a + 1))), .int (nI 0), .int (nI 9)]) (r0 := []) (cs2 := (ww im lf s d k ls rf rz ra rn rq lt m1 m2 m3 m4 bd fc hd sz el q (fUp (fUp (fUp (fUp (fUp (fUp g 27 (nI (160 * j))) 29 (nI n)) 6 (-1)) 28 (nI (cnE e n a))) 30 (nI (nuV e n (a + 1)))) 31 x31) fm hm so si sh ce ca td wa kp la bf oo bo pw ow tr)) at_X6_isSo_44 rfl rfl (Nat.le_of_ble_eq_true rfl) rfl (ab_rvOf w65 rfl) e1 (by decide) rfl ?_
    exact E_iret at_X6_isSo_47 rfl
  refine E_callV (v := some (.int (nI 0))) (As := [.ref 65, .int (nI 0), .int (nI 1)]) (r0 := []) (cs2 := (ww im lf s d k ls rf rz ra rn rq lt m1 m2 m3 m4 bd fc hd sz el q (fUp (fUp (fUp (fUp (fUp (fUp g 27 (nI (160 * j))) 29 (nI n)) 6 (-1)) 28 (nI (cnE e n a))) 30 (nI (nuV e n (a + 1)))) 31 x31) fm hm so si sh ce ca td wa kp la bf oo bo pw ow tr)) at_X6_item_138 rfl rfl (Nat.le_of_ble_eq_true rfl) rfl (ab_rvOf w65 rfl) e2 (by decide) rfl ?_
  refine E_if (t := 150) (b := false) at_X6_item_141 rfl (by decide) ?_
  refine E_aload_n at_X6_item_144 rfl ?_
  refine E_iload_n at_X6_item_145 rfl ?_
  have e3 : Ev ab_Z0 1 156 [.ref 65, .int (nI (a + 1))] (ww im lf s d k ls rf rz ra rn rq lt m1 m2 m3 m4 bd fc hd sz el q (fUp (fUp (fUp (fUp (fUp (fUp g 27 (nI (160 * j))) 29 (nI n)) 6 (-1)) 28 (nI (cnE e n a))) 30 (nI (nuV e n (a + 1)))) 31 x31) fm hm so si sh ce ca td wa kp la bf oo bo pw ow tr) (some (.int (nI 0)), (ww im lf s d k ls rf rz ra rn rq lt m1 m2 m3 m4 bd fc hd sz el q (fUp (fUp (fUp (fUp (fUp (fUp g 27 (nI (160 * j))) 29 (nI n)) 6 (-1)) 28 (nI (cnE e n a))) 30 (nI (nuV e n (a + 1)))) 31 (nI (a + 1))) fm hm so si sh ce ca td wa kp la bf oo bo pw ow tr)) := by
    refine Ef.in (md := mX6_wrong) (L := [some (.ref 65), some (.int (nI (a + 1)))]) rfl (Nat.le_of_ble_eq_true rfl) rfl ?_
    refine E_aload_n at_X6_wrong_0 rfl ?_
    refine E_iload_n at_X6_wrong_1 rfl ?_
    refine E_putfield (cs2 := (ww im lf s d k ls rf rz ra rn rq lt m1 m2 m3 m4 bd fc hd sz el q (fUp (fUp (fUp (fUp (fUp (fUp g 27 (nI (160 * j))) 29 (nI n)) 6 (-1)) 28 (nI (cnE e n a))) 30 (nI (nuV e n (a + 1)))) 31 (nI (a + 1))) fm hm so si sh ce ca td wa kp la bf oo bo pw ow tr)) at_X6_wrong_2 w65 rfl (by decide) (Nat.le_of_ble_eq_true rfl) rfl rfl rfl (w_pt65_31.trans (by rw [gn31])) ?_
    refine E_iconst (x := nI 0) at_X6_wrong_5 (by decide) ?_
    exact E_iret at_X6_wrong_6 rfl
  refine E_callV (v := some (.int (nI 0))) (As := [.ref 65, .int (nI (a + 1))]) (r0 := []) (cs2 := (ww im lf s d k ls rf rz ra rn rq lt m1 m2 m3 m4 bd fc hd sz el q (fUp (fUp (fUp (fUp (fUp (fUp g 27 (nI (160 * j))) 29 (nI n)) 6 (-1)) 28 (nI (cnE e n a))) 30 (nI (nuV e n (a + 1)))) 31 (nI (a + 1))) fm hm so si sh ce ca td wa kp la bf oo bo pw ow tr)) at_X6_item_146 rfl rfl (Nat.le_of_ble_eq_true rfl) rfl (ab_rvOf w65 rfl) e3 (by decide) w_lens ?_
  exact E_iret at_X6_item_149 rfl
set_option maxHeartbeats 1000000 in
theorem mc02 {e : List Int64} {n a j : Nat} {x30 x31 : Int32} {q : ab_q} (hj : j < 8) (hn : n ≤ 160) (ha : a ≤ n) (Iq : qI q) (l_td : td.length = 3) (l_ce : ce.length = 1280) (hce : ∀ p, p < 160 → e.getD p 0 = ce.getD (160 * j + p) 0) {x3 : Option Value} (hb : chB e n a 32 = true) (hdg : dgB e n (a + 1) = true) (ho0 : 1 ≤ nuV e n (a + 1)) (ho1 : nuV e n (a + 1) < 51) {r : Option Value × List ab_C} (K : Ef ab_Z0 2 mX6_item (57, [some (.ref 65), some (.int (nI 0)), some (.int (nI 3)), some (.int (nI (a + 1)))], [], (ww im lf s d k ls rf rz ra rn rq lt m1 m2 m3 m4 bd fc hd sz el q (fUp (fUp (fUp (fUp (fUp (fUp g 27 (nI (160 * j))) 29 (nI n)) 6 (-1)) 28 (nI (cnE e n a))) 30 (nI (nuV e n (a + 1)))) 31 x31) fm hm so si sh ce ca (td.set 2 (nI (nuV e n (a + 1)))) wa kp la bf oo bo pw ow tr)) r) : Ef ab_Z0 2 mX6_item (57, [some (.ref 65), some (.int (nI 0)), some (.int (nI 2)), x3], [], (ww im lf s d k ls rf rz ra rn rq lt m1 m2 m3 m4 bd fc hd sz el q (fUp (fUp (fUp (fUp (fUp (fUp g 27 (nI (160 * j))) 29 (nI n)) 6 (-1)) 28 (nI a)) 30 x30) 31 x31) fm hm so si sh ce ca td wa kp la bf oo bo pw ow tr)) r := by
  obtain ⟨⟨i0, i1, i2, i3⟩, ⟨i4, i5, i6, i7, i8⟩, ⟨i9, i10⟩, I1_, I2_, I3_, I4_⟩ := id Iq
  have hb_ := chB_t hb
  have hd_ := dgB_t hdg
  have h99 := nuV_99 hdg
  have hcn := cnE_n hdg
  have : ([3, 3, 2, 2, 1, 0, 0] : List Nat).length = 7 := rfl
  have : ([6, 9, 50, 99, 9, 7, 7, 60] : List Nat).length = 8 := rfl
  refine E_iload_n at_X6_item_57 rfl ?_
  refine E_aload_n at_X6_item_58 rfl ?_
  refine E_getfield (v := .ref 83) at_X6_item_59 w65 rfl (by decide) rfl ?_
  refine E_iload_n at_X6_item_62 rfl ?_
  refine E_ialN (l := [3, 3, 2, 2, 1, 0, 0]) (v := 3) at_X6_item_63 w83 (by omega) (by omega) rfl ?_
  refine E_ic (t := 166) (b := false) at_X6_item_64 rfl (by decide) ?_
  refine E_iload_n at_X6_item_67 rfl ?_
  refine E_if (t := 121) (b := false) at_X6_item_68 rfl (by decide) ?_
  refine E_aload_n at_X6_item_71 rfl ?_
  refine E_getfield (v := .int (nI a)) at_X6_item_72 w65 rfl (by decide) rfl ?_
  refine E_aload_n at_X6_item_75 rfl ?_
  refine E_getfield (v := .int (nI n)) at_X6_item_76 w65 rfl (by decide) rfl ?_
  refine E_ic (t := 102) (b := false) at_X6_item_79 rfl ((cn_ge (nI_toInt (by omega)) (nI_toInt (by omega))).trans (decide_eq_false (by omega))) ?_
  refine E_aload_n at_X6_item_82 rfl ?_
  refine E_getfield (v := .ref 80) at_X6_item_83 w65 rfl (by decide) rfl ?_
  refine E_aload_n at_X6_item_86 rfl ?_
  refine E_getfield (v := .int (nI (160 * j))) at_X6_item_87 w65 rfl (by decide) rfl ?_
  refine E_aload_n at_X6_item_90 rfl ?_
  refine E_getfield (v := .int (nI a)) at_X6_item_91 w65 rfl (by decide) rfl ?_
  refine E_iadd (z := nI ((160 * j) + a)) at_X6_item_94 (nI_add _ _) ?_
  refine E_lalL (l := ce) (v := ce.getD ((160 * j) + a) 0) at_X6_item_95 w80 (by omega) (by omega) rfl ?_
  refine E_l2i (z := tw e a) at_X6_item_96 (by unfold tw; rw [hce a (by omega)]) ?_
  refine E_bipush (x := nI 32) at_X6_item_97 (by decide) ?_
  refine E_ic (t := 111) (b := true) at_X6_item_99 rfl ((cn_eq rfl (nI_toInt (by omega))).trans (decide_eq_true (by omega))) ?_
  refine E_aload_n at_X6_item_111 rfl ?_
  refine E_dup at_X6_item_112 rfl ?_
  refine E_getfield (v := .int (nI a)) at_X6_item_113 w65 rfl (by decide) rfl ?_
  refine E_iconst (x := nI 1) at_X6_item_116 (by decide) ?_
  refine E_iadd (z := nI (a + 1)) at_X6_item_117 (nI_add _ _) ?_
  refine E_putfield (cs2 := (ww im lf s d k ls rf rz ra rn rq lt m1 m2 m3 m4 bd fc hd sz el q (fUp (fUp (fUp (fUp (fUp (fUp g 27 (nI (160 * j))) 29 (nI n)) 6 (-1)) 28 (nI (a + 1))) 30 x30) 31 x31) fm hm so si sh ce ca td wa kp la bf oo bo pw ow tr)) at_X6_item_118 w65 rfl (by decide) (Nat.le_of_ble_eq_true rfl) rfl rfl rfl (w_pt65_28.trans (by rw [gn28])) ?_
  refine E_aload_n at_X6_item_121 rfl ?_
  refine E_getfield (v := .int (nI (a + 1))) at_X6_item_122 w65 rfl (by decide) rfl ?_
  refine E_istore_n (L2 := [some (.ref 65), some (.int (nI 0)), some (.int (nI 2)), some (.int (nI (a + 1)))]) at_X6_item_125 rfl ?_
  refine E_aload_n at_X6_item_126 rfl ?_
  refine E_callV (v := some (.int (nI 1))) (As := [.ref 65]) (r0 := []) (cs2 := (ww im lf s d k ls rf rz ra rn rq lt m1 m2 m3 m4 bd fc hd sz el q (fUp (fUp (fUp (fUp (fUp (fUp g 27 (nI (160 * j))) 29 (nI n)) 6 (-1)) 28 (nI (cnE e n a))) 30 (nI (nuV e n (a + 1)))) 31 x31) fm hm so si sh ce ca td wa kp la bf oo bo pw ow tr)) at_X6_item_127 rfl rfl (Nat.le_of_ble_eq_true rfl) rfl (ab_rvOf w65 rfl) (m_rd1 hj hn (by omega) l_ce hce hdg) (by decide) w_lens ?_
  refine E_if (t := 135) (b := true) at_X6_item_130 rfl (by decide) ?_
  refine E_aload_n at_X6_item_135 rfl ?_
  refine E_iload_n at_X6_item_136 rfl ?_
  refine E_iload_n at_X6_item_137 rfl ?_
  have e2 : Ev ab_Z0 2 161 [.ref 65, .int (nI 0), .int (nI 2)] (ww im lf s d k ls rf rz ra rn rq lt m1 m2 m3 m4 bd fc hd sz el q (fUp (fUp (fUp (fUp (fUp (fUp g 27 (nI (160 * j))) 29 (nI n)) 6 (-1)) 28 (nI (cnE e n a))) 30 (nI (nuV e n (a + 1)))) 31 x31) fm hm so si sh ce ca td wa kp la bf oo bo pw ow tr) (some (.int (nI 1)), (ww im lf s d k ls rf rz ra rn rq lt m1 m2 m3 m4 bd fc hd sz el q (fUp (fUp (fUp (fUp (fUp (fUp g 27 (nI (160 * j))) 29 (nI n)) 6 (-1)) 28 (nI (cnE e n a))) 30 (nI (nuV e n (a + 1)))) 31 x31) fm hm so si sh ce ca td wa kp la bf oo bo pw ow tr)) := by
    refine Ef.in (md := mX6_isSo) (L := [some (.ref 65), some (.int (nI 0)), some (.int (nI 2))]) rfl (Nat.le_of_ble_eq_true rfl) rfl ?_
    refine E_iload_n at_X6_isSo_0 rfl ?_
    refine E_iconst (x := nI 3) at_X6_isSo_1 (by decide) ?_
    refine E_ic (t := 48) (b := false) at_X6_isSo_2 rfl (by decide) ?_
    refine E_aload_n at_X6_isSo_5 rfl ?_
    refine E_aload_n at_X6_isSo_6 rfl ?_
    refine E_getfield (v := .int (nI (nuV e n (a + 1)))) at_X6_isSo_7 w65 rfl (by decide) rfl ?_
    refine E_iload_n at_X6_isSo_10 rfl ?_
    refine E_if (t := 19) (b := false) at_X6_isSo_11 rfl (by decide) ?_
    refine E_iload_n at_X6_isSo_14 rfl ?_
    refine E_iconst (x := nI 2) at_X6_isSo_15 (by decide) ?_
    refine E_ic (t := 29) (b := true) at_X6_isSo_16 rfl (by decide) ?_
    refine E_iconst (x := nI 1) at_X6_isSo_29 (by decide) ?_
    refine E_goto (t := 34) at_X6_isSo_30 rfl ?_
    refine E_aload_n at_X6_isSo_34 rfl ?_
    refine E_getfield (v := .ref 84) at_X6_isSo_35 w65 rfl (by decide) rfl ?_
    refine E_iconst (x := nI 3) at_X6_isSo_38 (by decide) ?_
    refine E_iload_n at_X6_isSo_39 rfl ?_
    refine E_imul (z := nI 0) at_X6_isSo_40 (by decide) ?_
    refine E_iload_n at_X6_isSo_41 rfl ?_
    refine E_iadd (z := nI 2) at_X6_isSo_42 (by decide) ?_
    refine E_ialN (l := [6, 9, 50, 99, 9, 7, 7, 60]) (v := 50) at_X6_isSo_43 w84 (by omega) (by omega) rfl ?_
    have e1 : Ev ab_Z0 1 134 [.ref 65, .int (nI (nuV e n (a + 1))), .int (nI 1), .int (nI 50)] (ww im lf s d k ls rf rz ra rn rq lt m1 m2 m3 m4 bd fc hd sz el q (fUp (fUp (fUp (fUp (fUp (fUp g 27 (nI (160 * j))) 29 (nI n)) 6 (-1)) 28 (nI (cnE e n a))) 30 (nI (nuV e n (a + 1)))) 31 x31) fm hm so si sh ce ca td wa kp la bf oo bo pw ow tr) (some (.int (nI 1)), (ww im lf s d k ls rf rz ra rn rq lt m1 m2 m3 m4 bd fc hd sz el q (fUp (fUp (fUp (fUp (fUp (fUp g 27 (nI (160 * j))) 29 (nI n)) 6 (-1)) 28 (nI (cnE e n a))) 30 (nI (nuV e n (a + 1)))) 31 x31) fm hm so si sh ce ca td wa kp la bf oo bo pw ow tr)) := by
      refine Ef.in (md := mX6_isFrom) (L := [some (.ref 65), some (.int (nI (nuV e n (a + 1)))), some (.int (nI 1)), some (.int (nI 50))]) rfl (Nat.le_of_ble_eq_true rfl) rfl ?_
      refine E_iload_n at_X6_isFrom_0 rfl ?_
      refine E_iload_n at_X6_isFrom_1 rfl ?_
      refine E_ic (t := 14) (b := false) at_X6_isFrom_2 rfl ((cn_lt (nI_toInt (by omega)) (nI_toInt (by omega))).trans (decide_eq_false (by omega))) ?_
      refine E_iload_n at_X6_isFrom_5 rfl ?_
      refine E_iload_n at_X6_isFrom_6 rfl ?_
      refine E_ic (t := 14) (b := false) at_X6_isFrom_7 rfl ((cn_gt (nI_toInt (by omega)) (nI_toInt (by omega))).trans (decide_eq_false (by omega))) ?_
      refine E_iconst (x := nI 1) at_X6_isFrom_10 (by decide) ?_
      refine E_goto (t := 15) at_X6_isFrom_11 rfl ?_
      exact E_iret at_X6_isFrom_15 rfl
    refine E_callV (v := some (.int (nI 1))) (As := [.ref 65, .int (nI (nuV e n (a + 1))), .int (nI 1), .int (nI 50)]) (r0 := []) (cs2 := (ww im lf s d k ls rf rz ra rn rq lt m1 m2 m3 m4 bd fc hd sz el q (fUp (fUp (fUp (fUp (fUp (fUp g 27 (nI (160 * j))) 29 (nI n)) 6 (-1)) 28 (nI (cnE e n a))) 30 (nI (nuV e n (a + 1)))) 31 x31) fm hm so si sh ce ca td wa kp la bf oo bo pw ow tr)) at_X6_isSo_44 rfl rfl (Nat.le_of_ble_eq_true rfl) rfl (ab_rvOf w65 rfl) e1 (by decide) rfl ?_
    exact E_iret at_X6_isSo_47 rfl
  refine E_callV (v := some (.int (nI 1))) (As := [.ref 65, .int (nI 0), .int (nI 2)]) (r0 := []) (cs2 := (ww im lf s d k ls rf rz ra rn rq lt m1 m2 m3 m4 bd fc hd sz el q (fUp (fUp (fUp (fUp (fUp (fUp g 27 (nI (160 * j))) 29 (nI n)) 6 (-1)) 28 (nI (cnE e n a))) 30 (nI (nuV e n (a + 1)))) 31 x31) fm hm so si sh ce ca td wa kp la bf oo bo pw ow tr)) at_X6_item_138 rfl rfl (Nat.le_of_ble_eq_true rfl) rfl (ab_rvOf w65 rfl) e2 (by decide) rfl ?_
  refine E_if (t := 150) (b := true) at_X6_item_141 rfl (by decide) ?_
  refine E_aload_n at_X6_item_150 rfl ?_
  refine E_getfield (v := .ref 85) at_X6_item_151 w65 rfl (by decide) rfl ?_
  refine E_iload_n at_X6_item_154 rfl ?_
  refine E_aload_n at_X6_item_155 rfl ?_
  refine E_getfield (v := .int (nI (nuV e n (a + 1)))) at_X6_item_156 w65 rfl (by decide) rfl ?_
  refine E_iasI (l := td) (cs2 := (ww im lf s d k ls rf rz ra rn rq lt m1 m2 m3 m4 bd fc hd sz el q (fUp (fUp (fUp (fUp (fUp (fUp g 27 (nI (160 * j))) 29 (nI n)) 6 (-1)) 28 (nI (cnE e n a))) 30 (nI (nuV e n (a + 1)))) 31 x31) fm hm so si sh ce ca (td.set 2 (nI (nuV e n (a + 1)))) wa kp la bf oo bo pw ow tr)) at_X6_item_159 w85 (by omega) (by omega) rfl ?_
  refine E_iinc (y := nI 3) (L2 := [some (.ref 65), some (.int (nI 0)), some (.int (nI 3)), some (.int (nI (a + 1)))]) at_X6_item_160 rfl (by decide) rfl ?_
  refine E_goto (t := 57) at_X6_item_163 rfl ?_
  exact K
set_option maxHeartbeats 1000000 in
theorem ma02 {e : List Int64} {n a j : Nat} {x30 x31 : Int32} {q : ab_q} (hj : j < 8) (hn : n ≤ 160) (ha : a ≤ n) (Iq : qI q) (l_td : td.length = 3) (l_ce : ce.length = 1280) (hce : ∀ p, p < 160 → e.getD p 0 = ce.getD (160 * j + p) 0) {x3 : Option Value} (hb : chB e n a 32 = false) : Ef ab_Z0 2 mX6_item (57, [some (.ref 65), some (.int (nI 0)), some (.int (nI 2)), x3], [], (ww im lf s d k ls rf rz ra rn rq lt m1 m2 m3 m4 bd fc hd sz el q (fUp (fUp (fUp (fUp (fUp (fUp g 27 (nI (160 * j))) 29 (nI n)) 6 (-1)) 28 (nI a)) 30 x30) 31 x31) fm hm so si sh ce ca td wa kp la bf oo bo pw ow tr)) (some (.int (nI 0)), (ww im lf s d k ls rf rz ra rn rq lt m1 m2 m3 m4 bd fc hd sz el q (fUp (fUp (fUp (fUp (fUp (fUp g 27 (nI (160 * j))) 29 (nI n)) 6 (-1)) 28 (nI a)) 30 x30) 31 (nI a)) fm hm so si sh ce ca td wa kp la bf oo bo pw ow tr)) := by
  rcases chB_f hb with h3 | h3
  · have : ([3, 3, 2, 2, 1, 0, 0] : List Nat).length = 7 := rfl
    refine E_iload_n at_X6_item_57 rfl ?_
    refine E_aload_n at_X6_item_58 rfl ?_
    refine E_getfield (v := .ref 83) at_X6_item_59 w65 rfl (by decide) rfl ?_
    refine E_iload_n at_X6_item_62 rfl ?_
    refine E_ialN (l := [3, 3, 2, 2, 1, 0, 0]) (v := 3) at_X6_item_63 w83 (by omega) (by omega) rfl ?_
    refine E_ic (t := 166) (b := false) at_X6_item_64 rfl (by decide) ?_
    refine E_iload_n at_X6_item_67 rfl ?_
    refine E_if (t := 121) (b := false) at_X6_item_68 rfl (by decide) ?_
    refine E_aload_n at_X6_item_71 rfl ?_
    refine E_getfield (v := .int (nI a)) at_X6_item_72 w65 rfl (by decide) rfl ?_
    refine E_aload_n at_X6_item_75 rfl ?_
    refine E_getfield (v := .int (nI n)) at_X6_item_76 w65 rfl (by decide) rfl ?_
    refine E_ic (t := 102) (b := true) at_X6_item_79 rfl ((cn_ge (nI_toInt (by omega)) (nI_toInt (by omega))).trans (decide_eq_true (by omega))) ?_
    refine E_aload_n at_X6_item_102 rfl ?_
    refine E_aload_n at_X6_item_103 rfl ?_
    refine E_getfield (v := .int (nI a)) at_X6_item_104 w65 rfl (by decide) rfl ?_
    have e1 : Ev ab_Z0 1 156 [.ref 65, .int (nI a)] (ww im lf s d k ls rf rz ra rn rq lt m1 m2 m3 m4 bd fc hd sz el q (fUp (fUp (fUp (fUp (fUp (fUp g 27 (nI (160 * j))) 29 (nI n)) 6 (-1)) 28 (nI a)) 30 x30) 31 x31) fm hm so si sh ce ca td wa kp la bf oo bo pw ow tr) (some (.int (nI 0)), (ww im lf s d k ls rf rz ra rn rq lt m1 m2 m3 m4 bd fc hd sz el q (fUp (fUp (fUp (fUp (fUp (fUp g 27 (nI (160 * j))) 29 (nI n)) 6 (-1)) 28 (nI a)) 30 x30) 31 (nI a)) fm hm so si sh ce ca td wa kp la bf oo bo pw ow tr)) := by
      refine Ef.in (md := mX6_wrong) (L := [some (.ref 65), some (.int (nI a))]) rfl (Nat.le_of_ble_eq_true rfl) rfl ?_
      refine E_aload_n at_X6_wrong_0 rfl ?_
      refine E_iload_n at_X6_wrong_1 rfl ?_
      refine E_putfield (cs2 := (ww im lf s d k ls rf rz ra rn rq lt m1 m2 m3 m4 bd fc hd sz el q (fUp (fUp (fUp (fUp (fUp (fUp g 27 (nI (160 * j))) 29 (nI n)) 6 (-1)) 28 (nI a)) 30 x30) 31 (nI a)) fm hm so si sh ce ca td wa kp la bf oo bo pw ow tr)) at_X6_wrong_2 w65 rfl (by decide) (Nat.le_of_ble_eq_true rfl) rfl rfl rfl (w_pt65_31.trans (by rw [gn31])) ?_
      refine E_iconst (x := nI 0) at_X6_wrong_5 (by decide) ?_
      exact E_iret at_X6_wrong_6 rfl
    refine E_callV (v := some (.int (nI 0))) (As := [.ref 65, .int (nI a)]) (r0 := []) (cs2 := (ww im lf s d k ls rf rz ra rn rq lt m1 m2 m3 m4 bd fc hd sz el q (fUp (fUp (fUp (fUp (fUp (fUp g 27 (nI (160 * j))) 29 (nI n)) 6 (-1)) 28 (nI a)) 30 x30) 31 (nI a)) fm hm so si sh ce ca td wa kp la bf oo bo pw ow tr)) at_X6_item_107 rfl rfl (Nat.le_of_ble_eq_true rfl) rfl (ab_rvOf w65 rfl) e1 (by decide) w_lens ?_
    exact E_iret at_X6_item_110 rfl
  · have : ([3, 3, 2, 2, 1, 0, 0] : List Nat).length = 7 := rfl
    refine E_iload_n at_X6_item_57 rfl ?_
    refine E_aload_n at_X6_item_58 rfl ?_
    refine E_getfield (v := .ref 83) at_X6_item_59 w65 rfl (by decide) rfl ?_
    refine E_iload_n at_X6_item_62 rfl ?_
    refine E_ialN (l := [3, 3, 2, 2, 1, 0, 0]) (v := 3) at_X6_item_63 w83 (by omega) (by omega) rfl ?_
    refine E_ic (t := 166) (b := false) at_X6_item_64 rfl (by decide) ?_
    refine E_iload_n at_X6_item_67 rfl ?_
    refine E_if (t := 121) (b := false) at_X6_item_68 rfl (by decide) ?_
    refine E_aload_n at_X6_item_71 rfl ?_
    refine E_getfield (v := .int (nI a)) at_X6_item_72 w65 rfl (by decide) rfl ?_
    refine E_aload_n at_X6_item_75 rfl ?_
    refine E_getfield (v := .int (nI n)) at_X6_item_76 w65 rfl (by decide) rfl ?_
    refine E_ic (t := 102) (b := false) at_X6_item_79 rfl ((cn_ge (nI_toInt (by omega)) (nI_toInt (by omega))).trans (decide_eq_false (by omega))) ?_
    refine E_aload_n at_X6_item_82 rfl ?_
    refine E_getfield (v := .ref 80) at_X6_item_83 w65 rfl (by decide) rfl ?_
    refine E_aload_n at_X6_item_86 rfl ?_
    refine E_getfield (v := .int (nI (160 * j))) at_X6_item_87 w65 rfl (by decide) rfl ?_
    refine E_aload_n at_X6_item_90 rfl ?_
    refine E_getfield (v := .int (nI a)) at_X6_item_91 w65 rfl (by decide) rfl ?_
    refine E_iadd (z := nI ((160 * j) + a)) at_X6_item_94 (nI_add _ _) ?_
    refine E_lalL (l := ce) (v := ce.getD ((160 * j) + a) 0) at_X6_item_95 w80 (by omega) (by omega) rfl ?_
    refine E_l2i (z := tw e a) at_X6_item_96 (by unfold tw; rw [hce a (by omega)]) ?_
    refine E_bipush (x := nI 32) at_X6_item_97 (by decide) ?_
    refine E_ic (t := 111) (b := false) at_X6_item_99 rfl ((cn_eq rfl (nI_toInt (by omega))).trans (decide_eq_false (by omega))) ?_
    refine E_aload_n at_X6_item_102 rfl ?_
    refine E_aload_n at_X6_item_103 rfl ?_
    refine E_getfield (v := .int (nI a)) at_X6_item_104 w65 rfl (by decide) rfl ?_
    have e1 : Ev ab_Z0 1 156 [.ref 65, .int (nI a)] (ww im lf s d k ls rf rz ra rn rq lt m1 m2 m3 m4 bd fc hd sz el q (fUp (fUp (fUp (fUp (fUp (fUp g 27 (nI (160 * j))) 29 (nI n)) 6 (-1)) 28 (nI a)) 30 x30) 31 x31) fm hm so si sh ce ca td wa kp la bf oo bo pw ow tr) (some (.int (nI 0)), (ww im lf s d k ls rf rz ra rn rq lt m1 m2 m3 m4 bd fc hd sz el q (fUp (fUp (fUp (fUp (fUp (fUp g 27 (nI (160 * j))) 29 (nI n)) 6 (-1)) 28 (nI a)) 30 x30) 31 (nI a)) fm hm so si sh ce ca td wa kp la bf oo bo pw ow tr)) := by
      refine Ef.in (md := mX6_wrong) (L := [some (.ref 65), some (.int (nI a))]) rfl (Nat.le_of_ble_eq_true rfl) rfl ?_
      refine E_aload_n at_X6_wrong_0 rfl ?_
      refine E_iload_n at_X6_wrong_1 rfl ?_
      refine E_putfield (cs2 := (ww im lf s d k ls rf rz ra rn rq lt m1 m2 m3 m4 bd fc hd sz el q (fUp (fUp (fUp (fUp (fUp (fUp g 27 (nI (160 * j))) 29 (nI n)) 6 (-1)) 28 (nI a)) 30 x30) 31 (nI a)) fm hm so si sh ce ca td wa kp la bf oo bo pw ow tr)) at_X6_wrong_2 w65 rfl (by decide) (Nat.le_of_ble_eq_true rfl) rfl rfl rfl (w_pt65_31.trans (by rw [gn31])) ?_
      refine E_iconst (x := nI 0) at_X6_wrong_5 (by decide) ?_
      exact E_iret at_X6_wrong_6 rfl
    refine E_callV (v := some (.int (nI 0))) (As := [.ref 65, .int (nI a)]) (r0 := []) (cs2 := (ww im lf s d k ls rf rz ra rn rq lt m1 m2 m3 m4 bd fc hd sz el q (fUp (fUp (fUp (fUp (fUp (fUp g 27 (nI (160 * j))) 29 (nI n)) 6 (-1)) 28 (nI a)) 30 x30) 31 (nI a)) fm hm so si sh ce ca td wa kp la bf oo bo pw ow tr)) at_X6_item_107 rfl rfl (Nat.le_of_ble_eq_true rfl) rfl (ab_rvOf w65 rfl) e1 (by decide) w_lens ?_
    exact E_iret at_X6_item_110 rfl
set_option maxHeartbeats 1000000 in
theorem mb02 {e : List Int64} {n a j : Nat} {x30 x31 : Int32} {q : ab_q} (hj : j < 8) (hn : n ≤ 160) (ha : a ≤ n) (Iq : qI q) (l_td : td.length = 3) (l_ce : ce.length = 1280) (hce : ∀ p, p < 160 → e.getD p 0 = ce.getD (160 * j + p) 0) {x3 : Option Value} (hb : chB e n a 32 = true) (hdg : dgB e n (a + 1) = false) : Ef ab_Z0 2 mX6_item (57, [some (.ref 65), some (.int (nI 0)), some (.int (nI 2)), x3], [], (ww im lf s d k ls rf rz ra rn rq lt m1 m2 m3 m4 bd fc hd sz el q (fUp (fUp (fUp (fUp (fUp (fUp g 27 (nI (160 * j))) 29 (nI n)) 6 (-1)) 28 (nI a)) 30 x30) 31 x31) fm hm so si sh ce ca td wa kp la bf oo bo pw ow tr)) (some (.int (nI 0)), (ww im lf s d k ls rf rz ra rn rq lt m1 m2 m3 m4 bd fc hd sz el q (fUp (fUp (fUp (fUp (fUp (fUp g 27 (nI (160 * j))) 29 (nI n)) 6 (-1)) 28 (nI (a + 1))) 30 (nI 0)) 31 (nI (a + 1))) fm hm so si sh ce ca td wa kp la bf oo bo pw ow tr)) := by
  have hb_ := chB_t hb
  have : ([3, 3, 2, 2, 1, 0, 0] : List Nat).length = 7 := rfl
  refine E_iload_n at_X6_item_57 rfl ?_
  refine E_aload_n at_X6_item_58 rfl ?_
  refine E_getfield (v := .ref 83) at_X6_item_59 w65 rfl (by decide) rfl ?_
  refine E_iload_n at_X6_item_62 rfl ?_
  refine E_ialN (l := [3, 3, 2, 2, 1, 0, 0]) (v := 3) at_X6_item_63 w83 (by omega) (by omega) rfl ?_
  refine E_ic (t := 166) (b := false) at_X6_item_64 rfl (by decide) ?_
  refine E_iload_n at_X6_item_67 rfl ?_
  refine E_if (t := 121) (b := false) at_X6_item_68 rfl (by decide) ?_
  refine E_aload_n at_X6_item_71 rfl ?_
  refine E_getfield (v := .int (nI a)) at_X6_item_72 w65 rfl (by decide) rfl ?_
  refine E_aload_n at_X6_item_75 rfl ?_
  refine E_getfield (v := .int (nI n)) at_X6_item_76 w65 rfl (by decide) rfl ?_
  refine E_ic (t := 102) (b := false) at_X6_item_79 rfl ((cn_ge (nI_toInt (by omega)) (nI_toInt (by omega))).trans (decide_eq_false (by omega))) ?_
  refine E_aload_n at_X6_item_82 rfl ?_
  refine E_getfield (v := .ref 80) at_X6_item_83 w65 rfl (by decide) rfl ?_
  refine E_aload_n at_X6_item_86 rfl ?_
  refine E_getfield (v := .int (nI (160 * j))) at_X6_item_87 w65 rfl (by decide) rfl ?_
  refine E_aload_n at_X6_item_90 rfl ?_
  refine E_getfield (v := .int (nI a)) at_X6_item_91 w65 rfl (by decide) rfl ?_
  refine E_iadd (z := nI ((160 * j) + a)) at_X6_item_94 (nI_add _ _) ?_
  refine E_lalL (l := ce) (v := ce.getD ((160 * j) + a) 0) at_X6_item_95 w80 (by omega) (by omega) rfl ?_
  refine E_l2i (z := tw e a) at_X6_item_96 (by unfold tw; rw [hce a (by omega)]) ?_
  refine E_bipush (x := nI 32) at_X6_item_97 (by decide) ?_
  refine E_ic (t := 111) (b := true) at_X6_item_99 rfl ((cn_eq rfl (nI_toInt (by omega))).trans (decide_eq_true (by omega))) ?_
  refine E_aload_n at_X6_item_111 rfl ?_
  refine E_dup at_X6_item_112 rfl ?_
  refine E_getfield (v := .int (nI a)) at_X6_item_113 w65 rfl (by decide) rfl ?_
  refine E_iconst (x := nI 1) at_X6_item_116 (by decide) ?_
  refine E_iadd (z := nI (a + 1)) at_X6_item_117 (nI_add _ _) ?_
  refine E_putfield (cs2 := (ww im lf s d k ls rf rz ra rn rq lt m1 m2 m3 m4 bd fc hd sz el q (fUp (fUp (fUp (fUp (fUp (fUp g 27 (nI (160 * j))) 29 (nI n)) 6 (-1)) 28 (nI (a + 1))) 30 x30) 31 x31) fm hm so si sh ce ca td wa kp la bf oo bo pw ow tr)) at_X6_item_118 w65 rfl (by decide) (Nat.le_of_ble_eq_true rfl) rfl rfl rfl (w_pt65_28.trans (by rw [gn28])) ?_
  refine E_aload_n at_X6_item_121 rfl ?_
  refine E_getfield (v := .int (nI (a + 1))) at_X6_item_122 w65 rfl (by decide) rfl ?_
  refine E_istore_n (L2 := [some (.ref 65), some (.int (nI 0)), some (.int (nI 2)), some (.int (nI (a + 1)))]) at_X6_item_125 rfl ?_
  refine E_aload_n at_X6_item_126 rfl ?_
  refine E_callV (v := some (.int (nI 0))) (As := [.ref 65]) (r0 := []) (cs2 := (ww im lf s d k ls rf rz ra rn rq lt m1 m2 m3 m4 bd fc hd sz el q (fUp (fUp (fUp (fUp (fUp (fUp g 27 (nI (160 * j))) 29 (nI n)) 6 (-1)) 28 (nI (a + 1))) 30 (nI 0)) 31 (nI (a + 1))) fm hm so si sh ce ca td wa kp la bf oo bo pw ow tr)) at_X6_item_127 rfl rfl (Nat.le_of_ble_eq_true rfl) rfl (ab_rvOf w65 rfl) (m_rd0 hj hn (by omega) l_ce hce hdg) (by decide) w_lens ?_
  refine E_if (t := 135) (b := false) at_X6_item_130 rfl (by decide) ?_
  refine E_iconst (x := nI 0) at_X6_item_133 (by decide) ?_
  exact E_iret at_X6_item_134 rfl
set_option maxHeartbeats 1000000 in
theorem md020 {e : List Int64} {n a j : Nat} {x30 x31 : Int32} {q : ab_q} (hj : j < 8) (hn : n ≤ 160) (ha : a ≤ n) (Iq : qI q) (l_td : td.length = 3) (l_ce : ce.length = 1280) (hce : ∀ p, p < 160 → e.getD p 0 = ce.getD (160 * j + p) 0) {x3 : Option Value} (hb : chB e n a 32 = true) (hdg : dgB e n (a + 1) = true) (hr : nuV e n (a + 1) < 1) : Ef ab_Z0 2 mX6_item (57, [some (.ref 65), some (.int (nI 0)), some (.int (nI 2)), x3], [], (ww im lf s d k ls rf rz ra rn rq lt m1 m2 m3 m4 bd fc hd sz el q (fUp (fUp (fUp (fUp (fUp (fUp g 27 (nI (160 * j))) 29 (nI n)) 6 (-1)) 28 (nI a)) 30 x30) 31 x31) fm hm so si sh ce ca td wa kp la bf oo bo pw ow tr)) (some (.int (nI 0)), (ww im lf s d k ls rf rz ra rn rq lt m1 m2 m3 m4 bd fc hd sz el q (fUp (fUp (fUp (fUp (fUp (fUp g 27 (nI (160 * j))) 29 (nI n)) 6 (-1)) 28 (nI (cnE e n a))) 30 (nI (nuV e n (a + 1)))) 31 (nI (a + 1))) fm hm so si sh ce ca td wa kp la bf oo bo pw ow tr)) := by
  obtain ⟨⟨i0, i1, i2, i3⟩, ⟨i4, i5, i6, i7, i8⟩, ⟨i9, i10⟩, I1_, I2_, I3_, I4_⟩ := id Iq
  have hb_ := chB_t hb
  have hd_ := dgB_t hdg
  have h99 := nuV_99 hdg
  have hcn := cnE_n hdg
  have : ([3, 3, 2, 2, 1, 0, 0] : List Nat).length = 7 := rfl
  have : ([6, 9, 50, 99, 9, 7, 7, 60] : List Nat).length = 8 := rfl
  refine E_iload_n at_X6_item_57 rfl ?_
  refine E_aload_n at_X6_item_58 rfl ?_
  refine E_getfield (v := .ref 83) at_X6_item_59 w65 rfl (by decide) rfl ?_
  refine E_iload_n at_X6_item_62 rfl ?_
  refine E_ialN (l := [3, 3, 2, 2, 1, 0, 0]) (v := 3) at_X6_item_63 w83 (by omega) (by omega) rfl ?_
  refine E_ic (t := 166) (b := false) at_X6_item_64 rfl (by decide) ?_
  refine E_iload_n at_X6_item_67 rfl ?_
  refine E_if (t := 121) (b := false) at_X6_item_68 rfl (by decide) ?_
  refine E_aload_n at_X6_item_71 rfl ?_
  refine E_getfield (v := .int (nI a)) at_X6_item_72 w65 rfl (by decide) rfl ?_
  refine E_aload_n at_X6_item_75 rfl ?_
  refine E_getfield (v := .int (nI n)) at_X6_item_76 w65 rfl (by decide) rfl ?_
  refine E_ic (t := 102) (b := false) at_X6_item_79 rfl ((cn_ge (nI_toInt (by omega)) (nI_toInt (by omega))).trans (decide_eq_false (by omega))) ?_
  refine E_aload_n at_X6_item_82 rfl ?_
  refine E_getfield (v := .ref 80) at_X6_item_83 w65 rfl (by decide) rfl ?_
  refine E_aload_n at_X6_item_86 rfl ?_
  refine E_getfield (v := .int (nI (160 * j))) at_X6_item_87 w65 rfl (by decide) rfl ?_
  refine E_aload_n at_X6_item_90 rfl ?_
  refine E_getfield (v := .int (nI a)) at_X6_item_91 w65 rfl (by decide) rfl ?_
  refine E_iadd (z := nI ((160 * j) + a)) at_X6_item_94 (nI_add _ _) ?_
  refine E_lalL (l := ce) (v := ce.getD ((160 * j) + a) 0) at_X6_item_95 w80 (by omega) (by omega) rfl ?_
  refine E_l2i (z := tw e a) at_X6_item_96 (by unfold tw; rw [hce a (by omega)]) ?_
  refine E_bipush (x := nI 32) at_X6_item_97 (by decide) ?_
  refine E_ic (t := 111) (b := true) at_X6_item_99 rfl ((cn_eq rfl (nI_toInt (by omega))).trans (decide_eq_true (by omega))) ?_
  refine E_aload_n at_X6_item_111 rfl ?_
  refine E_dup at_X6_item_112 rfl ?_
  refine E_getfield (v := .int (nI a)) at_X6_item_113 w65 rfl (by decide) rfl ?_
  refine E_iconst (x := nI 1) at_X6_item_116 (by decide) ?_
  refine E_iadd (z := nI (a + 1)) at_X6_item_117 (nI_add _ _) ?_
  refine E_putfield (cs2 := (ww im lf s d k ls rf rz ra rn rq lt m1 m2 m3 m4 bd fc hd sz el q (fUp (fUp (fUp (fUp (fUp (fUp g 27 (nI (160 * j))) 29 (nI n)) 6 (-1)) 28 (nI (a + 1))) 30 x30) 31 x31) fm hm so si sh ce ca td wa kp la bf oo bo pw ow tr)) at_X6_item_118 w65 rfl (by decide) (Nat.le_of_ble_eq_true rfl) rfl rfl rfl (w_pt65_28.trans (by rw [gn28])) ?_
  refine E_aload_n at_X6_item_121 rfl ?_
  refine E_getfield (v := .int (nI (a + 1))) at_X6_item_122 w65 rfl (by decide) rfl ?_
  refine E_istore_n (L2 := [some (.ref 65), some (.int (nI 0)), some (.int (nI 2)), some (.int (nI (a + 1)))]) at_X6_item_125 rfl ?_
  refine E_aload_n at_X6_item_126 rfl ?_
  refine E_callV (v := some (.int (nI 1))) (As := [.ref 65]) (r0 := []) (cs2 := (ww im lf s d k ls rf rz ra rn rq lt m1 m2 m3 m4 bd fc hd sz el q (fUp (fUp (fUp (fUp (fUp (fUp g 27 (nI (160 * j))) 29 (nI n)) 6 (-1)) 28 (nI (cnE e n a))) 30 (nI (nuV e n (a + 1)))) 31 x31) fm hm so si sh ce ca td wa kp la bf oo bo pw ow tr)) at_X6_item_127 rfl rfl (Nat.le_of_ble_eq_true rfl) rfl (ab_rvOf w65 rfl) (m_rd1 hj hn (by omega) l_ce hce hdg) (by decide) w_lens ?_
  refine E_if (t := 135) (b := true) at_X6_item_130 rfl (by decide) ?_
  refine E_aload_n at_X6_item_135 rfl ?_
  refine E_iload_n at_X6_item_136 rfl ?_
  refine E_iload_n at_X6_item_137 rfl ?_
  have e2 : Ev ab_Z0 2 161 [.ref 65, .int (nI 0), .int (nI 2)] (ww im lf s d k ls rf rz ra rn rq lt m1 m2 m3 m4 bd fc hd sz el q (fUp (fUp (fUp (fUp (fUp (fUp g 27 (nI (160 * j))) 29 (nI n)) 6 (-1)) 28 (nI (cnE e n a))) 30 (nI (nuV e n (a + 1)))) 31 x31) fm hm so si sh ce ca td wa kp la bf oo bo pw ow tr) (some (.int (nI 0)), (ww im lf s d k ls rf rz ra rn rq lt m1 m2 m3 m4 bd fc hd sz el q (fUp (fUp (fUp (fUp (fUp (fUp g 27 (nI (160 * j))) 29 (nI n)) 6 (-1)) 28 (nI (cnE e n a))) 30 (nI (nuV e n (a + 1)))) 31 x31) fm hm so si sh ce ca td wa kp la bf oo bo pw ow tr)) := by
    refine Ef.in (md := mX6_isSo) (L := [some (.ref 65), some (.int (nI 0)), some (.int (nI 2))]) rfl (Nat.le_of_ble_eq_true rfl) rfl ?_
    refine E_iload_n at_X6_isSo_0 rfl ?_
    refine E_iconst (x := nI 3) at_X6_isSo_1 (by decide) ?_
    refine E_ic (t := 48) (b := false) at_X6_isSo_2 rfl (by decide) ?_
    refine E_aload_n at_X6_isSo_5 rfl ?_
    refine E_aload_n at_X6_isSo_6 rfl ?_
    refine E_getfield (v := .int (nI (nuV e n (a + 1)))) at_X6_isSo_7 w65 rfl (by decide) rfl ?_
    refine E_iload_n at_X6_isSo_10 rfl ?_
    refine E_if (t := 19) (b := false) at_X6_isSo_11 rfl (by decide) ?_
    refine E_iload_n at_X6_isSo_14 rfl ?_
    refine E_iconst (x := nI 2) at_X6_isSo_15 (by decide) ?_
    refine E_ic (t := 29) (b := true) at_X6_isSo_16 rfl (by decide) ?_
    refine E_iconst (x := nI 1) at_X6_isSo_29 (by decide) ?_
    refine E_goto (t := 34) at_X6_isSo_30 rfl ?_
    refine E_aload_n at_X6_isSo_34 rfl ?_
    refine E_getfield (v := .ref 84) at_X6_isSo_35 w65 rfl (by decide) rfl ?_
    refine E_iconst (x := nI 3) at_X6_isSo_38 (by decide) ?_
    refine E_iload_n at_X6_isSo_39 rfl ?_
    refine E_imul (z := nI 0) at_X6_isSo_40 (by decide) ?_
    refine E_iload_n at_X6_isSo_41 rfl ?_
    refine E_iadd (z := nI 2) at_X6_isSo_42 (by decide) ?_
    refine E_ialN (l := [6, 9, 50, 99, 9, 7, 7, 60]) (v := 50) at_X6_isSo_43 w84 (by omega) (by omega) rfl ?_
    have e1 : Ev ab_Z0 1 134 [.ref 65, .int (nI (nuV e n (a + 1))), .int (nI 1), .int (nI 50)] (ww im lf s d k ls rf rz ra rn rq lt m1 m2 m3 m4 bd fc hd sz el q (fUp (fUp (fUp (fUp (fUp (fUp g 27 (nI (160 * j))) 29 (nI n)) 6 (-1)) 28 (nI (cnE e n a))) 30 (nI (nuV e n (a + 1)))) 31 x31) fm hm so si sh ce ca td wa kp la bf oo bo pw ow tr) (some (.int (nI 0)), (ww im lf s d k ls rf rz ra rn rq lt m1 m2 m3 m4 bd fc hd sz el q (fUp (fUp (fUp (fUp (fUp (fUp g 27 (nI (160 * j))) 29 (nI n)) 6 (-1)) 28 (nI (cnE e n a))) 30 (nI (nuV e n (a + 1)))) 31 x31) fm hm so si sh ce ca td wa kp la bf oo bo pw ow tr)) := by
      refine Ef.in (md := mX6_isFrom) (L := [some (.ref 65), some (.int (nI (nuV e n (a + 1)))), some (.int (nI 1)), some (.int (nI 50))]) rfl (Nat.le_of_ble_eq_true rfl) rfl ?_
      refine E_iload_n at_X6_isFrom_0 rfl ?_
      refine E_iload_n at_X6_isFrom_1 rfl ?_
      refine E_ic (t := 14) (b := true) at_X6_isFrom_2 rfl ((cn_lt (nI_toInt (by omega)) (nI_toInt (by omega))).trans (decide_eq_true (by omega))) ?_
      refine E_iconst (x := nI 0) at_X6_isFrom_14 (by decide) ?_
      exact E_iret at_X6_isFrom_15 rfl
    refine E_callV (v := some (.int (nI 0))) (As := [.ref 65, .int (nI (nuV e n (a + 1))), .int (nI 1), .int (nI 50)]) (r0 := []) (cs2 := (ww im lf s d k ls rf rz ra rn rq lt m1 m2 m3 m4 bd fc hd sz el q (fUp (fUp (fUp (fUp (fUp (fUp g 27 (nI (160 * j))) 29 (nI n)) 6 (-1)) 28 (nI (cnE e n a))) 30 (nI (nuV e n (a + 1)))) 31 x31) fm hm so si sh ce ca td wa kp la bf oo bo pw ow tr)) at_X6_isSo_44 rfl rfl (Nat.le_of_ble_eq_true rfl) rfl (ab_rvOf w65 rfl) e1 (by decide) rfl ?_
    exact E_iret at_X6_isSo_47 rfl
  refine E_callV (v := some (.int (nI 0))) (As := [.ref 65, .int (nI 0), .int (nI 2)]) (r0 := []) (cs2 := (ww im lf s d k ls rf rz ra rn rq lt m1 m2 m3 m4 bd fc hd sz el q (fUp (fUp (fUp (fUp (fUp (fUp g 27 (nI (160 * j))) 29 (nI n)) 6 (-1)) 28 (nI (cnE e n a))) 30 (nI (nuV e n (a + 1)))) 31 x31) fm hm so si sh ce ca td wa kp la bf oo bo pw ow tr)) at_X6_item_138 rfl rfl (Nat.le_of_ble_eq_true rfl) rfl (ab_rvOf w65 rfl) e2 (by decide) rfl ?_
  refine E_if (t := 150) (b := false) at_X6_item_141 rfl (by decide) ?_
  refine E_aload_n at_X6_item_144 rfl ?_
  refine E_iload_n at_X6_item_145 rfl ?_
  have e3 : Ev ab_Z0 1 156 [.ref 65, .int (nI (a + 1))] (ww im lf s d k ls rf rz ra rn rq lt m1 m2 m3 m4 bd fc hd sz el q (fUp (fUp (fUp (fUp (fUp (fUp g 27 (nI (160 * j))) 29 (nI n)) 6 (-1)) 28 (nI (cnE e n a))) 30 (nI (nuV e n (a + 1)))) 31 x31) fm hm so si sh ce ca td wa kp la bf oo bo pw ow tr) (some (.int (nI 0)), (ww im lf s d k ls rf rz ra rn rq lt m1 m2 m3 m4 bd fc hd sz el q (fUp (fUp (fUp (fUp (fUp (fUp g 27 (nI (160 * j))) 29 (nI n)) 6 (-1)) 28 (nI (cnE e n a))) 30 (nI (nuV e n (a + 1)))) 31 (nI (a + 1))) fm hm so si sh ce ca td wa kp la bf oo bo pw ow tr)) := by
    refine Ef.in (md := mX6_wrong) (L := [some (.ref 65), some (.int (nI (a + 1)))]) rfl (Nat.le_of_ble_eq_true rfl) rfl ?_
    refine E_aload_n at_X6_wrong_0 rfl ?_
    refine E_iload_n at_X6_wrong_1 rfl ?_
    refine E_putfield (cs2 := (ww im lf s d k ls rf rz ra rn rq lt m1 m2 m3 m4 bd fc hd sz el q (fUp (fUp (fUp (fUp (fUp (fUp g 27 (nI (160 * j))) 29 (nI n)) 6 (-1)) 28 (nI (cnE e n a))) 30 (nI (nuV e n (a + 1)))) 31 (nI (a + 1))) fm hm so si sh ce ca td wa kp la bf oo bo pw ow tr)) at_X6_wrong_2 w65 rfl (by decide) (Nat.le_of_ble_eq_true rfl) rfl rfl rfl (w_pt65_31.trans (by rw [gn31])) ?_
    refine E_iconst (x := nI 0) at_X6_wrong_5 (by decide) ?_
    exact E_iret at_X6_wrong_6 rfl
  refine E_callV (v := some (.int (nI 0))) (As := [.ref 65, .int (nI (a + 1))]) (r0 := []) (cs2 := (ww im lf s d k ls rf rz ra rn rq lt m1 m2 m3 m4 bd fc hd sz el q (fUp (fUp (fUp (fUp (fUp (fUp g 27 (nI (160 * j))) 29 (nI n)) 6 (-1)) 28 (nI (cnE e n a))) 30 (nI (nuV e n (a + 1)))) 31 (nI (a + 1))) fm hm so si sh ce ca td wa kp la bf oo bo pw ow tr)) at_X6_item_146 rfl rfl (Nat.le_of_ble_eq_true rfl) rfl (ab_rvOf w65 rfl) e3 (by decide) w_lens ?_
  exact E_iret at_X6_item_149 rfl
set_option maxHeartbeats 1000000 in
theorem md021 {e : List Int64} {n a j : Nat} {x30 x31 : Int32} {q : ab_q} (hj : j < 8) (hn : n ≤ 160) (ha : a ≤ n) (Iq : qI q) (l_td : td.length = 3) (l_ce : ce.length = 1280) (hce : ∀ p, p < 160 → e.getD p 0 = ce.getD (160 * j + p) 0) {x3 : Option Value} (hb : chB e n a 32 = true) (hdg : dgB e n (a + 1) = true) (hr : 51 ≤ nuV e n (a + 1)) : Ef ab_Z0 2 mX6_item (57, [some (.ref 65), some (.int (nI 0)), some (.int (nI 2)), x3], [], (ww im lf s d k ls rf rz ra rn rq lt m1 m2 m3 m4 bd fc hd sz el q (fUp (fUp (fUp (fUp (fUp (fUp g 27 (nI (160 * j))) 29 (nI n)) 6 (-1)) 28 (nI a)) 30 x30) 31 x31) fm hm so si sh ce ca td wa kp la bf oo bo pw ow tr)) (some (.int (nI 0)), (ww im lf s d k ls rf rz ra rn rq lt m1 m2 m3 m4 bd fc hd sz el q (fUp (fUp (fUp (fUp (fUp (fUp g 27 (nI (160 * j))) 29 (nI n)) 6 (-1)) 28 (nI (cnE e n a))) 30 (nI (nuV e n (a + 1)))) 31 (nI (a + 1))) fm hm so si sh ce ca td wa kp la bf oo bo pw ow tr)) := by
  obtain ⟨⟨i0, i1, i2, i3⟩, ⟨i4, i5, i6, i7, i8⟩, ⟨i9, i10⟩, I1_, I2_, I3_, I4_⟩ := id Iq
  have hb_ := chB_t hb
  have hd_ := dgB_t hdg
  have h99 := nuV_99 hdg
  have hcn := cnE_n hdg
  have : ([3, 3, 2, 2, 1, 0, 0] : List Nat).length = 7 := rfl
  have : ([6, 9, 50, 99, 9, 7, 7, 60] : List Nat).length = 8 := rfl
  refine E_iload_n at_X6_item_57 rfl ?_
  refine E_aload_n at_X6_item_58 rfl ?_
  refine E_getfield (v := .ref 83) at_X6_item_59 w65 rfl (by decide) rfl ?_
  refine E_iload_n at_X6_item_62 rfl ?_
  refine E_ialN (l := [3, 3, 2, 2, 1, 0, 0]) (v := 3) at_X6_item_63 w83 (by omega) (by omega) rfl ?_
  refine E_ic (t := 166) (b := false) at_X6_item_64 rfl (by decide) ?_
  refine E_iload_n at_X6_item_67 rfl ?_
  refine E_if (t := 121) (b := false) at_X6_item_68 rfl (by decide) ?_
  refine E_aload_n at_X6_item_71 rfl ?_
  refine E_getfield (v := .int (nI a)) at_X6_item_72 w65 rfl (by decide) rfl ?_
  refine E_aload_n at_X6_item_75 rfl ?_
  refine E_getfield (v := .int (nI n)) at_X6_item_76 w65 rfl (by decide) rfl ?_
  refine E_ic (t := 102) (b := false) at_X6_item_79 rfl ((cn_ge (nI_toInt (by omega)) (nI_toInt (by omega))).trans (decide_eq_false (by omega))) ?_
  refine E_aload_n at_X6_item_82 rfl ?_
  refine E_getfield (v := .ref 80) at_X6_item_83 w65 rfl (by decide) rfl ?_
  refine E_aload_n at_X6_item_86 rfl ?_
  refine E_getfield (v := .int (nI (160 * j))) at_X6_item_87 w65 rfl (by decide) rfl ?_
  refine E_aload_n at_X6_item_90 rfl ?_
  refine E_getfield (v := .int (nI a)) at_X6_item_91 w65 rfl (by decide) rfl ?_
  refine E_iadd (z := nI ((160 * j) + a)) at_X6_item_94 (nI_add _ _) ?_
  refine E_lalL (l := ce) (v := ce.getD ((160 * j) + a) 0) at_X6_item_95 w80 (by omega) (by omega) rfl ?_
  refine E_l2i (z := tw e a) at_X6_item_96 (by unfold tw; rw [hce a (by omega)]) ?_
  refine E_bipush (x := nI 32) at_X6_item_97 (by decide) ?_
  refine E_ic (t := 111) (b := true) at_X6_item_99 rfl ((cn_eq rfl (nI_toInt (by omega))).trans (decide_eq_true (by omega))) ?_
  refine E_aload_n at_X6_item_111 rfl ?_
  refine E_dup at_X6_item_112 rfl ?_
  refine E_getfield (v := .int (nI a)) at_X6_item_113 w65 rfl (by decide) rfl ?_
  refine E_iconst (x := nI 1) at_X6_item_116 (by decide) ?_
  refine E_iadd (z := nI (a + 1)) at_X6_item_117 (nI_add _ _) ?_
  refine E_putfield (cs2 := (ww im lf s d k ls rf rz ra rn rq lt m1 m2 m3 m4 bd fc hd sz el q (fUp (fUp (fUp (fUp (fUp (fUp g 27 (nI (160 * j))) 29 (nI n)) 6 (-1)) 28 (nI (a + 1))) 30 x30) 31 x31) fm hm so si sh ce ca td wa kp la bf oo bo pw ow tr)) at_X6_item_118 w65 rfl (by decide) (Nat.le_of_ble_eq_true rfl) rfl rfl rfl (w_pt65_28.trans (by rw [gn28])) ?_
  refine E_aload_n at_X6_item_121 rfl ?_
  refine E_getfield (v := .int (nI (a + 1))) at_X6_item_122 w65 rfl (by decide) rfl ?_
  refine E_istore_n (L2 := [some (.ref 65), some (.int (nI 0)), some (.int (nI 2)), some (.int (nI (a + 1)))]) at_X6_item_125 rfl ?_
  refine E_aload_n at_X6_item_126 rfl ?_
  refine E_callV (v := some (.int (nI 1))) (As := [.ref 65]) (r0 := []) (cs2 := (ww im lf s d k ls rf rz ra rn rq lt m1 m2 m3 m4 bd fc hd sz el q (fUp (fUp (fUp (fUp (fUp (fUp g 27 (nI (160 * j))) 29 (nI n)) 6 (-1)) 28 (nI (cnE e n a))) 30 (nI (nuV e n (a + 1)))) 31 x31) fm hm so si sh ce ca td wa kp la bf oo bo pw ow tr)) at_X6_item_127 rfl rfl (Nat.le_of_ble_eq_true rfl) rfl (ab_rvOf w65 rfl) (m_rd1 hj hn (by omega) l_ce hce hdg) (by decide) w_lens ?_
  refine E_if (t := 135) (b := true) at_X6_item_130 rfl (by decide) ?_
  refine E_aload_n at_X6_item_135 rfl ?_
  refine E_iload_n at_X6_item_136 rfl ?_
  refine E_iload_n at_X6_item_137 rfl ?_
  have e2 : Ev ab_Z0 2 161 [.ref 65, .int (nI 0), .int (nI 2)] (ww im lf s d k ls rf rz ra rn rq lt m1 m2 m3 m4 bd fc hd sz el q (fUp (fUp (fUp (fUp (fUp (fUp g 27 (nI (160 * j))) 29 (nI n)) 6 (-1)) 28 (nI (cnE e n a))) 30 (nI (nuV e n (a + 1)))) 31 x31) fm hm so si sh ce ca td wa kp la bf oo bo pw ow tr) (some (.int (nI 0)), (ww im lf s d k ls rf rz ra rn rq lt m1 m2 m3 m4 bd fc hd sz el q (fUp (fUp (fUp (fUp (fUp (fUp g 27 (nI (160 * j))) 29 (nI n)) 6 (-1)) 28 (nI (cnE e n a))) 30 (nI (nuV e n (a + 1)))) 31 x31) fm hm so si sh ce ca td wa kp la bf oo bo pw ow tr)) := by
    refine Ef.in (md := mX6_isSo) (L := [some (.ref 65), some (.int (nI 0)), some (.int (nI 2))]) rfl (Nat.le_of_ble_eq_true rfl) rfl ?_
    refine E_iload_n at_X6_isSo_0 rfl ?_
    refine E_iconst (x := nI 3) at_X6_isSo_1 (by decide) ?_
    refine E_ic (t := 48) (b := false) at_X6_isSo_2 rfl (by decide) ?_
    refine E_aload_n at_X6_isSo_5 rfl ?_
    refine E_aload_n at_X6_isSo_6 rfl ?_
    refine E_getfield (v := .int (nI (nuV e n (a + 1)))) at_X6_isSo_7 w65 rfl (by decide) rfl ?_
    refine E_iload_n at_X6_isSo_10 rfl ?_
    refine E_if (t := 19) (b := false) at_X6_isSo_11 rfl (by decide) ?_
    refine E_iload_n at_X6_isSo_14 rfl ?_
    refine E_iconst (x := nI 2) at_X6_isSo_15 (by decide) ?_
    refine E_ic (t := 29) (b := true) at_X6_isSo_16 rfl (by decide) ?_
    refine E_iconst (x := nI 1) at_X6_isSo_29 (by decide) ?_
    refine E_goto (t := 34) at_X6_isSo_30 rfl ?_
    refine E_aload_n at_X6_isSo_34 rfl ?_
    refine E_getfield (v := .ref 84) at_X6_isSo_35 w65 rfl (by decide) rfl ?_
    refine E_iconst (x := nI 3) at_X6_isSo_38 (by decide) ?_
    refine E_iload_n at_X6_isSo_39 rfl ?_
    refine E_imul (z := nI 0) at_X6_isSo_40 (by decide) ?_
    refine E_iload_n at_X6_isSo_41 rfl ?_
    refine E_iadd (z := nI 2) at_X6_isSo_42 (by decide) ?_
    refine E_ialN (l := [6, 9, 50, 99, 9, 7, 7, 60]) (v := 50) at_X6_isSo_43 w84 (by omega) (by omega) rfl ?_
    have e1 : Ev ab_Z0 1 134 [.ref 65, .int (nI (nuV e n (a + 1))), .int (nI 1), .int (nI 50)] (ww im lf s d k ls rf rz ra rn rq lt m1 m2 m3 m4 bd fc hd sz el q (fUp (fUp (fUp (fUp (fUp (fUp g 27 (nI (160 * j))) 29 (nI n)) 6 (-1)) 28 (nI (cnE e n a))) 30 (nI (nuV e n (a + 1)))) 31 x31) fm hm so si sh ce ca td wa kp la bf oo bo pw ow tr) (some (.int (nI 0)), (ww im lf s d k ls rf rz ra rn rq lt m1 m2 m3 m4 bd fc hd sz el q (fUp (fUp (fUp (fUp (fUp (fUp g 27 (nI (160 * j))) 29 (nI n)) 6 (-1)) 28 (nI (cnE e n a))) 30 (nI (nuV e n (a + 1)))) 31 x31) fm hm so si sh ce ca td wa kp la bf oo bo pw ow tr)) := by
      refine Ef.in (md := mX6_isFrom) (L := [some (.ref 65), some (.int (nI (nuV e n (a + 1)))), some (.int (nI 1)), some (.int (nI 50))]) rfl (Nat.le_of_ble_eq_true rfl) rfl ?_
      refine E_iload_n at_X6_isFrom_0 rfl ?_
      refine E_iload_n at_X6_isFrom_1 rfl ?_
      refine E_ic (t := 14) (b := false) at_X6_isFrom_2 rfl ((cn_lt (nI_toInt (by omega)) (nI_toInt (by omega))).trans (decide_eq_false (by omega))) ?_
      refine E_iload_n at_X6_isFrom_5 rfl ?_
      refine E_iload_n at_X6_isFrom_6 rfl ?_
      refine E_ic (t := 14) (b := true) at_X6_isFrom_7 rfl ((cn_gt (nI_toInt (by omega)) (nI_toInt (by omega))).trans (decide_eq_true (by omega))) ?_
      refine E_iconst (x := nI 0) at_X6_isFrom_14 (by decide) ?_
      exact E_iret at_X6_isFrom_15 rfl
    refine E_callV (v := some (.int (nI 0))) (As := [.ref 65, .int (nI (nuV e n (a + 1))), .int (nI 1), .int (nI 50)]) (r0 := []) (cs2 := (ww im lf s d k ls rf rz ra rn rq lt m1 m2 m3 m4 bd fc hd sz el q (fUp (fUp (fUp (fUp (fUp (fUp g 27 (nI (160 * j))) 29 (nI n)) 6 (-1)) 28 (nI (cnE e n a))) 30 (nI (nuV e n (a + 1)))) 31 x31) fm hm so si sh ce ca td wa kp la bf oo bo pw ow tr)) at_X6_isSo_44 rfl rfl (Nat.le_of_ble_eq_true rfl) rfl (ab_rvOf w65 rfl) e1 (by decide) rfl ?_
    exact E_iret at_X6_isSo_47 rfl
  refine E_callV (v := some (.int (nI 0))) (As := [.ref 65, .int (nI 0), .int (nI 2)]) (r0 := []) (cs2 := (ww im lf s d k ls rf rz ra rn rq lt m1 m2 m3 m4 bd fc hd sz el q (fUp (fUp (fUp (fUp (fUp (fUp g 27 (nI (160 * j))) 29 (nI n)) 6 (-1)) 28 (nI (cnE e n a))) 30 (nI (nuV e n (a + 1)))) 31 x31) fm hm so si sh ce ca td wa kp la bf oo bo pw ow tr)) at_X6_item_138 rfl rfl (Nat.le_of_ble_eq_true rfl) rfl (ab_rvOf w65 rfl) e2 (by decide) rfl ?_
  refine E_if (t := 150) (b := false) at_X6_item_141 rfl (by decide) ?_
  refine E_aload_n at_X6_item_144 rfl ?_
  refine E_iload_n at_X6_item_145 rfl ?_
  have e3 : Ev ab_Z0 1 156 [.ref 65, .int (nI (a + 1))] (ww im lf s d k ls rf rz ra rn rq lt m1 m2 m3 m4 bd fc hd sz el q (fUp (fUp (fUp (fUp (fUp (fUp g 27 (nI (160 * j))) 29 (nI n)) 6 (-1)) 28 (nI (cnE e n a))) 30 (nI (nuV e n (a + 1)))) 31 x31) fm hm so si sh ce ca td wa kp la bf oo bo pw ow tr) (some (.int (nI 0)), (ww im lf s d k ls rf rz ra rn rq lt m1 m2 m3 m4 bd fc hd sz el q (fUp (fUp (fUp (fUp (fUp (fUp g 27 (nI (160 * j))) 29 (nI n)) 6 (-1)) 28 (nI (cnE e n a))) 30 (nI (nuV e n (a + 1)))) 31 (nI (a + 1))) fm hm so si sh ce ca td wa kp la bf oo bo pw ow tr)) := by
    refine Ef.in (md := mX6_wrong) (L := [some (.ref 65), some (.int (nI (a + 1)))]) rfl (Nat.le_of_ble_eq_true rfl) rfl ?_
    refine E_aload_n at_X6_wrong_0 rfl ?_
    refine E_iload_n at_X6_wrong_1 rfl ?_
    refine E_putfield (cs2 := (ww im lf s d k ls rf rz ra rn rq lt m1 m2 m3 m4 bd fc hd sz el q (fUp (fUp (fUp (fUp (fUp (fUp g 27 (nI (160 * j))) 29 (nI n)) 6 (-1)) 28 (nI (cnE e n a))) 30 (nI (nuV e n (a + 1)))) 31 (nI (a + 1))) fm hm so si sh ce ca td wa kp la bf oo bo pw ow tr)) at_X6_wrong_2 w65 rfl (by decide) (Nat.le_of_ble_eq_true rfl) rfl rfl rfl (w_pt65_31.trans (by rw [gn31])) ?_
    refine E_iconst (x := nI 0) at_X6_wrong_5 (by decide) ?_
    exact E_iret at_X6_wrong_6 rfl
  refine E_callV (v := some (.int (nI 0))) (As := [.ref 65, .int (nI (a + 1))]) (r0 := []) (cs2 := (ww im lf s d k ls rf rz ra rn rq lt m1 m2 m3 m4 bd fc hd sz el q (fUp (fUp (fUp (fUp (fUp (fUp g 27 (nI (160 * j))) 29 (nI n)) 6 (-1)) 28 (nI (cnE e n a))) 30 (nI (nuV e n (a + 1)))) 31 (nI (a + 1))) fm hm so si sh ce ca td wa kp la bf oo bo pw ow tr)) at_X6_item_146 rfl rfl (Nat.le_of_ble_eq_true rfl) rfl (ab_rvOf w65 rfl) e3 (by decide) w_lens ?_
  exact E_iret at_X6_item_149 rfl
set_option maxHeartbeats 1000000 in
theorem mc10 {e : List Int64} {n a j : Nat} {x30 x31 : Int32} {q : ab_q} (hj : j < 8) (hn : n ≤ 160) (ha : a ≤ n) (Iq : qI q) (l_td : td.length = 3) (l_ce : ce.length = 1280) (hce : ∀ p, p < 160 → e.getD p 0 = ce.getD (160 * j + p) 0) {x3 : Option Value} (hb : chB e n a 32 = true) (hdg : dgB e n (a + 1) = true) (ho0 : 0 ≤ nuV e n (a + 1)) (ho1 : nuV e n (a + 1) < 100) {r : Option Value × List ab_C} (K : Ef ab_Z0 2 mX6_item (57, [some (.ref 65), some (.int (nI 1)), some (.int (nI 1)), some (.int (nI (a + 1)))], [], (ww im lf s d k ls rf rz ra rn rq lt m1 m2 m3 m4 bd fc hd sz el q (fUp (fUp (fUp (fUp (fUp (fUp g 27 (nI (160 * j))) 29 (nI n)) 6 (-1)) 28 (nI (cnE e n a))) 30 (nI (nuV e n (a + 1)))) 31 x31) fm hm so si sh ce ca (td.set 0 (nI (nuV e n (a + 1)))) wa kp la bf oo bo pw ow tr)) r) : Ef ab_Z0 2 mX6_item (57, [some (.ref 65), some (.int (nI 1)), some (.int (nI 0)), x3], [], (ww im lf s d k ls rf rz ra rn rq lt m1 m2 m3 m4 bd fc hd sz el q (fUp (fUp (fUp (fUp (fUp (fUp g 27 (nI (160 * j))) 29 (nI n)) 6 (-1)) 28 (nI (a + 1))) 30 x30) 31 x31) fm hm so si sh ce ca td wa kp la bf oo bo pw ow tr)) r := by
  obtain ⟨⟨i0, i1, i2, i3⟩, ⟨i4, i5, i6, i7, i8⟩, ⟨i9, i10⟩, I1_, I2_, I3_, I4_⟩ := id Iq
  have hb_ := chB_t hb
  have hd_ := dgB_t hdg
  have h99 := nuV_99 hdg
  have hcn := cnE_n hdg
  have : ([3, 3, 2, 2, 1, 0, 0] : List Nat).length = 7 := rfl
  have : ([6, 9, 50, 99, 9, 7, 7, 60] : List Nat).length = 8 := rfl
  refine E_iload_n at_X6_item_57 rfl ?_
  refine E_aload_n at_X6_item_58 rfl ?_
  refine E_getfield (v := .ref 83) at_X6_item_59 w65 rfl (by decide) rfl ?_
  refine E_iload_n at_X6_item_62 rfl ?_
  refine E_ialN (l := [3, 3, 2, 2, 1, 0, 0]) (v := 3) at_X6_item_63 w83 (by omega) (by omega) rfl ?_
  refine E_ic (t := 166) (b := false) at_X6_item_64 rfl (by decide) ?_
  refine E_iload_n at_X6_item_67 rfl ?_
  refine E_if (t := 121) (b := true) at_X6_item_68 rfl (by decide) ?_
  refine E_aload_n at_X6_item_121 rfl ?_
  refine E_getfield (v := .int (nI (a + 1))) at_X6_item_122 w65 rfl (by decide) rfl ?_
  refine E_istore_n (L2 := [some (.ref 65), some (.int (nI 1)), some (.int (nI 0)), some (.int (nI (a + 1)))]) at_X6_item_125 rfl ?_
  refine E_aload_n at_X6_item_126 rfl ?_
  refine E_callV (v := some (.int (nI 1))) (As := [.ref 65]) (r0 := []) (cs2 := (ww im lf s d k ls rf rz ra rn rq lt m1 m2 m3 m4 bd fc hd sz el q (fUp (fUp (fUp (fUp (fUp (fUp g 27 (nI (160 * j))) 29 (nI n)) 6 (-1)) 28 (nI (cnE e n a))) 30 (nI (nuV e n (a + 1)))) 31 x31) fm hm so si sh ce ca td wa kp la bf oo bo pw ow tr)) at_X6_item_127 rfl rfl (Nat.le_of_ble_eq_true rfl) rfl (ab_rvOf w65 rfl) (m_rd1 hj hn (by omega) l_ce hce hdg) (by decide) w_lens ?_
  refine E_if (t := 135) (b := true) at_X6_item_130 rfl (by decide) ?_
  refine E_aload_n at_X6_item_135 rfl ?_
  refine E_iload_n at_X6_item_136 rfl ?_
  refine E_iload_n at_X6_item_137 rfl ?_
  have e2 : Ev ab_Z0 2 161 [.ref 65, .int (nI 1), .int (nI 0)] (ww im lf s d k ls rf rz ra rn rq lt m1 m2 m3 m4 bd fc hd sz el q (fUp (fUp (fUp (fUp (fUp (fUp g 27 (nI (160 * j))) 29 (nI n)) 6 (-1)) 28 (nI (cnE e n a))) 30 (nI (nuV e n (a + 1)))) 31 x31) fm hm so si sh ce ca td wa kp la bf oo bo pw ow tr) (some (.int (nI 1)), (ww im lf s d k ls rf rz ra rn rq lt m1 m2 m3 m4 bd fc hd sz el q (fUp (fUp (fUp (fUp (fUp (fUp g 27 (nI (160 * j))) 29 (nI n)) 6 (-1)) 28 (nI (cnE e n a))) 30 (nI (nuV e n (a + 1)))) 31 x31) fm hm so si sh ce ca td wa kp la bf oo bo pw ow tr)) := by
    refine Ef.in (md := mX6_isSo) (L := [some (.ref 65), some (.int (nI 1)), some (.int (nI 0))]) rfl (Nat.le_of_ble_eq_true rfl) rfl ?_
    refine E_iload_n at_X6_isSo_0 rfl ?_
    refine E_iconst (x := nI 3) at_X6_isSo_1 (by decide) ?_
    refine E_ic (t := 48) (b := false) at_X6_isSo_2 rfl (by decide) ?_
    refine E_aload_n at_X6_isSo_5 rfl ?_
    refine E_aload_n at_X6_isSo_6 rfl ?_
    refine E_getfield (v := .int (nI (nuV e n (a + 1)))) at_X6_isSo_7 w65 rfl (by decide) rfl ?_
    refine E_iload_n at_X6_isSo_10 rfl ?_
    refine E_if (t := 19) (b := true) at_X6_isSo_11 rfl (by decide) ?_
    refine E_iload_n at_X6_isSo_19 rfl ?_
    refine E_iconst (x := nI 2) at_X6_isSo_20 (by decide) ?_
    refine E_ic (t := 33) (b := true) at_X6_isSo_21 rfl (by decide) ?_
    refine E_iconst (x := nI 0) at_X6_isSo_33 (by decide) ?_
    refine E_aload_n at_X6_isSo_34 rfl ?_
    refine E_getfield (v := .ref 84) at_X6_isSo_35 w65 rfl (by decide) rfl ?_
    refine E_iconst (x := nI 3) at_X6_isSo_38 (by decide) ?_
    refine E_iload_n at_X6_isSo_39 rfl ?_
    refine E_imul (z := nI 3) at_X6_isSo_40 (by decide) ?_
    refine E_iload_n at_X6_isSo_41 rfl ?_
    refine E_iadd (z := nI 3) at_X6_isSo_42 (by decide) ?_
    refine E_ialN (l := [6, 9, 50, 99, 9, 7, 7, 60]) (v := 99) at_X6_isSo_43 w84 (by omega) (by omega) rfl ?_
    have e1 : Ev ab_Z0 1 134 [.ref 65, .int (nI (nuV e n (a + 1))), .int (nI 0), .int (nI 99)] (ww im lf s d k ls rf rz ra rn rq lt m1 m2 m3 m4 bd fc hd sz el q (fUp (fUp (fUp (fUp (fUp (fUp g 27 (nI (160 * j))) 29 (nI n)) 6 (-1)) 28 (nI (cnE e n a))) 30 (nI (nuV e n (a + 1)))) 31 x31) fm hm so si sh ce ca td wa kp la bf oo bo pw ow tr) (some (.int (nI 1)), (ww im lf s d k ls rf rz ra rn rq lt m1 m2 m3 m4 bd fc hd sz el q (fUp (fUp (fUp (fUp (fUp (fUp g 27 (nI (160 * j))) 29 (nI n)) 6 (-1)) 28 (nI (cnE e n a))) 30 (nI (nuV e n (a + 1)))) 31 x31) fm hm so si sh ce ca td wa kp la bf oo bo pw ow tr)) := by
      refine Ef.in (md := mX6_isFrom) (L := [some (.ref 65), some (.int (nI (nuV e n (a + 1)))), some (.int (nI 0)), some (.int (nI 99))]) rfl (Nat.le_of_ble_eq_true rfl) rfl ?_
      refine E_iload_n at_X6_isFrom_0 rfl ?_
      refine E_iload_n at_X6_isFrom_1 rfl ?_
      refine E_ic (t := 14) (b := false) at_X6_isFrom_2 rfl ((cn_lt (nI_toInt (by omega)) (nI_toInt (by omega))).trans (decide_eq_false (by omega))) ?_
      refine E_iload_n at_X6_isFrom_5 rfl ?_
      refine E_iload_n at_X6_isFrom_6 rfl ?_
      refine E_ic (t := 14) (b := false) at_X6_isFrom_7 rfl ((cn_gt (nI_toInt (by omega)) (nI_toInt (by omega))).trans (decide_eq_false (by omega))) ?_
      refine E_iconst (x := nI 1) at_X6_isFrom_10 (by decide) ?_
      refine E_goto (t := 15) at_X6_isFrom_11 rfl ?_
      exact E_iret at_X6_isFrom_15 rfl
    refine E_callV (v := some (.int (nI 1))) (As := [.ref 65, .int (nI (nuV e n (a + 1))), .int (nI 0), .int (nI 99)]) (r0 := []) (cs2 := (ww im lf s d k ls rf rz ra rn rq lt m1 m2 m3 m4 bd fc hd sz el q (fUp (fUp (fUp (fUp (fUp (fUp g 27 (nI (160 * j))) 29 (nI n)) 6 (-1)) 28 (nI (cnE e n a))) 30 (nI (nuV e n (a + 1)))) 31 x31) fm hm so si sh ce ca td wa kp la bf oo bo pw ow tr)) at_X6_isSo_44 rfl rfl (Nat.le_of_ble_eq_true rfl) rfl (ab_rvOf w65 rfl) e1 (by decide) rfl ?_
    exact E_iret at_X6_isSo_47 rfl
  refine E_callV (v := some (.int (nI 1))) (As := [.ref 65, .int (nI 1), .int (nI 0)]) (r0 := []) (cs2 := (ww im lf s d k ls rf rz ra rn rq lt m1 m2 m3 m4 bd fc hd sz el q (fUp (fUp (fUp (fUp (fUp (fUp g 27 (nI (160 * j))) 29 (nI n)) 6 (-1)) 28 (nI (cnE e n a))) 30 (nI (nuV e n (a + 1)))) 31 x31) fm hm so si sh ce ca td wa kp la bf oo bo pw ow tr)) at_X6_item_138 rfl rfl (Nat.le_of_ble_eq_true rfl) rfl (ab_rvOf w65 rfl) e2 (by decide) rfl ?_
  refine E_if (t := 150) (b := true) at_X6_item_141 rfl (by decide) ?_
  refine E_aload_n at_X6_item_150 rfl ?_
  refine E_getfield (v := .ref 85) at_X6_item_151 w65 rfl (by decide) rfl ?_
  refine E_iload_n at_X6_item_154 rfl ?_
  refine E_aload_n at_X6_item_155 rfl ?_
  refine E_getfield (v := .int (nI (nuV e n (a + 1)))) at_X6_item_156 w65 rfl (by decide) rfl ?_
  refine E_iasI (l := td) (cs2 := (ww im lf s d k ls rf rz ra rn rq lt m1 m2 m3 m4 bd fc hd sz el q (fUp (fUp (fUp (fUp (fUp (fUp g 27 (nI (160 * j))) 29 (nI n)) 6 (-1)) 28 (nI (cnE e n a))) 30 (nI (nuV e n (a + 1)))) 31 x31) fm hm so si sh ce ca (td.set 0 (nI (nuV e n (a + 1)))) wa kp la bf oo bo pw ow tr)) at_X6_item_159 w85 (by omega) (by omega) rfl ?_
  refine E_iinc (y := nI 1) (L2 := [some (.ref 65), some (.int (nI 1)), some (.int (nI 1)), some (.int (nI (a + 1)))]) at_X6_item_160 rfl (by decide) rfl ?_
  refine E_goto (t := 57) at_X6_item_163 rfl ?_
  exact K
set_option maxHeartbeats 1000000 in
theorem mb10 {e : List Int64} {n a j : Nat} {x30 x31 : Int32} {q : ab_q} (hj : j < 8) (hn : n ≤ 160) (ha : a ≤ n) (Iq : qI q) (l_td : td.length = 3) (l_ce : ce.length = 1280) (hce : ∀ p, p < 160 → e.getD p 0 = ce.getD (160 * j + p) 0) {x3 : Option Value} (hb : chB e n a 32 = true) (hdg : dgB e n (a + 1) = false) : Ef ab_Z0 2 mX6_item (57, [some (.ref 65), some (.int (nI 1)), some (.int (nI 0)), x3], [], (ww im lf s d k ls rf rz ra rn rq lt m1 m2 m3 m4 bd fc hd sz el q (fUp (fUp (fUp (fUp (fUp (fUp g 27 (nI (160 * j))) 29 (nI n)) 6 (-1)) 28 (nI (a + 1))) 30 x30) 31 x31) fm hm so si sh ce ca td wa kp la bf oo bo pw ow tr)) (some (.int (nI 0)), (ww im lf s d k ls rf rz ra rn rq lt m1 m2 m3 m4 bd fc hd sz el q (fUp (fUp (fUp (fUp (fUp (fUp g 27 (nI (160 * j))) 29 (nI n)) 6 (-1)) 28 (nI (a + 1))) 30 (nI 0)) 31 (nI (a + 1))) fm hm so si sh ce ca td wa kp la bf oo bo pw ow tr)) := by
  have hb_ := chB_t hb
  have : ([3, 3, 2, 2, 1, 0, 0] : List Nat).length = 7 := rfl
  refine E_iload_n at_X6_item_57 rfl ?_
  refine E_aload_n at_X6_item_58 rfl ?_
  refine E_getfield (v := .ref 83) at_X6_item_59 w65 rfl (by decide) rfl ?_
  refine E_iload_n at_X6_item_62 rfl ?_
  refine E_ialN (l := [3, 3, 2, 2, 1, 0, 0]) (v := 3) at_X6_item_63 w83 (by omega) (by omega) rfl ?_
  refine E_ic (t := 166) (b := false) at_X6_item_64 rfl (by decide) ?_
  refine E_iload_n at_X6_item_67 rfl ?_
  refine E_if (t := 121) (b := true) at_X6_item_68 rfl (by decide) ?_
  refine E_aload_n at_X6_item_121 rfl ?_
  refine E_getfield (v := .int (nI (a + 1))) at_X6_item_122 w65 rfl (by decide) rfl ?_
  refine E_istore_n (L2 := [some (.ref 65), some (.int (nI 1)), some (.int (nI 0)), some (.int (nI (a + 1)))]) at_X6_item_125 rfl ?_
  refine E_aload_n at_X6_item_126 rfl ?_
  refine E_callV (v := some (.int (nI 0))) (As := [.ref 65]) (r0 := []) (cs2 := (ww im lf s d k ls rf rz ra rn rq lt m1 m2 m3 m4 bd fc hd sz el q (fUp (fUp (fUp (fUp (fUp (fUp g 27 (nI (160 * j))) 29 (nI n)) 6 (-1)) 28 (nI (a + 1))) 30 (nI 0)) 31 (nI (a + 1))) fm hm so si sh ce ca td wa kp la bf oo bo pw ow tr)) at_X6_item_127 rfl rfl (Nat.le_of_ble_eq_true rfl) rfl (ab_rvOf w65 rfl) (m_rd0 hj hn (by omega) l_ce hce hdg) (by decide) w_lens ?_
  refine E_if (t := 135) (b := false) at_X6_item_130 rfl (by decide) ?_
  refine E_iconst (x := nI 0) at_X6_item_133 (by decide) ?_
  exact E_iret at_X6_item_134 rfl
set_option maxHeartbeats 1000000 in
theorem md100 {e : List Int64} {n a j : Nat} {x30 x31 : Int32} {q : ab_q} (hj : j < 8) (hn : n ≤ 160) (ha : a ≤ n) (Iq : qI q) (l_td : td.length = 3) (l_ce : ce.length = 1280) (hce : ∀ p, p < 160 → e.getD p 0 = ce.getD (160 * j + p) 0) {x3 : Option Value} (hb : chB e n a 32 = true) (hdg : dgB e n (a + 1) = true) (hr : 100 ≤ nuV e n (a + 1)) : Ef ab_Z0 2 mX6_item (57, [some (.ref 65), some (.int (nI 1)), some (.int (nI 0)), x3], [], (ww im lf s d k ls rf rz ra rn rq lt m1 m2 m3 m4 bd fc hd sz el q (fUp (fUp (fUp (fUp (fUp (fUp g 27 (nI (160 * j))) 29 (nI n)) 6 (-1)) 28 (nI (a + 1))) 30 x30) 31 x31) fm hm so si sh ce ca td wa kp la bf oo bo pw ow tr)) (some (.int (nI 0)), (ww im lf s d k ls rf rz ra rn rq lt m1 m2 m3 m4 bd fc hd sz el q (fUp (fUp (fUp (fUp (fUp (fUp g 27 (nI (160 * j))) 29 (nI n)) 6 (-1)) 28 (nI (cnE e n a))) 30 (nI (nuV e n (a + 1)))) 31 (nI (a + 1))) fm hm so si sh ce ca td wa kp la bf oo bo pw ow tr)) := by
  obtain ⟨⟨i0, i1, i2, i3⟩, ⟨i4, i5, i6, i7, i8⟩, ⟨i9, i10⟩, I1_, I2_, I3_, I4_⟩ := id Iq
  have hb_ := chB_t hb
  have hd_ := dgB_t hdg
  have h99 := nuV_99 hdg
  have hcn := cnE_n hdg
  have : ([3, 3, 2, 2, 1, 0, 0] : List Nat).length = 7 := rfl
  have : ([6, 9, 50, 99, 9, 7, 7, 60] : List Nat).length = 8 := rfl
  refine E_iload_n at_X6_item_57 rfl ?_
  refine E_aload_n at_X6_item_58 rfl ?_
  refine E_getfield (v := .ref 83) at_X6_item_59 w65 rfl (by decide) rfl ?_
  refine E_iload_n at_X6_item_62 rfl ?_
  refine E_ialN (l := [3, 3, 2, 2, 1, 0, 0]) (v := 3) at_X6_item_63 w83 (by omega) (by omega) rfl ?_
  refine E_ic (t := 166) (b := false) at_X6_item_64 rfl (by decide) ?_
  refine E_iload_n at_X6_item_67 rfl ?_
  refine E_if (t := 121) (b := true) at_X6_item_68 rfl (by decide) ?_
  refine E_aload_n at_X6_item_121 rfl ?_
  refine E_getfield (v := .int (nI (a + 1))) at_X6_item_122 w65 rfl (by decide) rfl ?_
  refine E_istore_n (L2 := [some (.ref 65), some (.int (nI 1)), some (.int (nI 0)), some (.int (nI (a + 1)))]) at_X6_item_125 rfl ?_
  refine E_aload_n at_X6_item_126 rfl ?_
  refine E_callV (v := some (.int (nI 1))) (As := [.ref 65]) (r0 := []) (cs2 := (ww im lf s d k ls rf rz ra rn rq lt m1 m2 m3 m4 bd fc hd sz el q (fUp (fUp (fUp (fUp (fUp (fUp g 27 (nI (160 * j))) 29 (nI n)) 6 (-1)) 28 (nI (cnE e n a))) 30 (nI (nuV e n (a + 1)))) 31 x31) fm hm so si sh ce ca td wa kp la bf oo bo pw ow tr)) at_X6_item_127 rfl rfl (Nat.le_of_ble_eq_true rfl) rfl (ab_rvOf w65 rfl) (m_rd1 hj hn (by omega) l_ce hce hdg) (by decide) w_lens ?_
  refine E_if (t := 135) (b := true) at_X6_item_130 rfl (by decide) ?_
  refine E_aload_n at_X6_item_135 rfl ?_
  refine E_iload_n at_X6_item_136 rfl ?_
  refine E_iload_n at_X6_item_137 rfl ?_
  have e2 : Ev ab_Z0 2 161 [.ref 65, .int (nI 1), .int (nI 0)] (ww im lf s d k ls rf rz ra rn rq lt m1 m2 m3 m4 bd fc hd sz el q (fUp (fUp (fUp (fUp (fUp (fUp g 27 (nI (160 * j))) 29 (nI n)) 6 (-1)) 28 (nI (cnE e n a))) 30 (nI (nuV e n (a + 1)))) 31 x31) fm hm so si sh ce ca td wa kp la bf oo bo pw ow tr) (some (.int (nI 0)), (ww im lf s d k ls rf rz ra rn rq lt m1 m2 m3 m4 bd fc hd sz el q (fUp (fUp (fUp (fUp (fUp (fUp g 27 (nI (160 * j))) 29 (nI n)) 6 (-1)) 28 (nI (cnE e n a))) 30 (nI (nuV e n (a + 1)))) 31 x31) fm hm so si sh ce ca td wa kp la bf oo bo pw ow tr)) := by
    refine Ef.in (md := mX6_isSo) (L := [some (.ref 65), some (.int (nI 1)), some (.int (nI 0))]) rfl (Nat.le_of_ble_eq_true rfl) rfl ?_
    refine E_iload_n at_X6_isSo_0 rfl ?_
    refine E_iconst (x := nI 3) at_X6_isSo_1 (by decide) ?_
    refine E_ic (t := 48) (b := false) at_X6_isSo_2 rfl (by decide) ?_
    refine E_aload_n at_X6_isSo_5 rfl ?_
    refine E_aload_n at_X6_isSo_6 rfl ?_
    refine E_getfield (v := .int (nI (nuV e n (a + 1)))) at_X6_isSo_7 w65 rfl (by decide) rfl ?_
    refine E_iload_n at_X6_isSo_10 rfl ?_
    refine E_if (t := 19) (b := true) at_X6_isSo_11 rfl (by decide) ?_
    refine E_iload_n at_X6_isSo_19 rfl ?_
    refine E_iconst (x := nI 2) at_X6_isSo_20 (by decide) ?_
    refine E_ic (t := 33) (b := true) at_X6_isSo_21 rfl (by decide) ?_
    refine E_iconst (x := nI 0) at_X6_isSo_33 (by decide) ?_
    refine E_aload_n at_X6_isSo_34 rfl ?_
    refine E_getfield (v := .ref 84) at_X6_isSo_35 w65 rfl (by decide) rfl ?_
    refine E_iconst (x := nI 3) at_X6_isSo_38 (by decide) ?_
    refine E_iload_n at_X6_isSo_39 rfl ?_
    refine E_imul (z := nI 3) at_X6_isSo_40 (by decide) ?_
    refine E_iload_n at_X6_isSo_41 rfl ?_
    refine E_iadd (z := nI 3) at_X6_isSo_42 (by decide) ?_
    refine E_ialN (l := [6, 9, 50, 99, 9, 7, 7, 60]) (v := 99) at_X6_isSo_43 w84 (by omega) (by omega) rfl ?_
    have e1 : Ev ab_Z0 1 134 [.ref 65, .int (nI (nuV e n (a + 1))), .int (nI 0), .int (nI 99)] (ww im lf s d k ls rf rz ra rn rq lt m1 m2 m3 m4 bd fc hd sz el q (fUp (fUp (fUp (fUp (fUp (fUp g 27 (nI (160 * j))) 29 (nI n)) 6 (-1)) 28 (nI (cnE e n a))) 30 (nI (nuV e n (a + 1)))) 31 x31) fm hm so si sh ce ca td wa kp la bf oo bo pw ow tr) (some (.int (nI 0)), (ww im lf s d k ls rf rz ra rn rq lt m1 m2 m3 m4 bd fc hd sz el q (fUp (fUp (fUp (fUp (fUp (fUp g 27 (nI (160 * j))) 29 (nI n)) 6 (-1)) 28 (nI (cnE e n a))) 30 (nI (nuV e n (a + 1)))) 31 x31) fm hm so si sh ce ca td wa kp la bf oo bo pw ow tr)) := by
      refine Ef.in (md := mX6_isFrom) (L := [some (.ref 65), some (.int (nI (nuV e n (a + 1)))), some (.int (nI 0)), some (.int (nI 99))]) rfl (Nat.le_of_ble_eq_true rfl) rfl ?_
      refine E_iload_n at_X6_isFrom_0 rfl ?_
      refine E_iload_n at_X6_isFrom_1 rfl ?_
      refine E_ic (t := 14) (b := true) at_X6_isFrom_2 rfl ((cn_lt (nI_toInt (by omega)) (nI_toInt (by omega))).trans (decide_eq_true (by omega))) ?_
      refine E_iconst (x := nI 0) at_X6_isFrom_14 (by decide) ?_
      exact E_iret at_X6_isFrom_15 rfl
    refine E_callV (v := some (.int (nI 0))) (As := [.ref 65, .int (nI (nuV e n (a + 1))), .int (nI 0), .int (nI 99)]) (r0 := []) (cs2 := (ww im lf s d k ls rf rz ra rn rq lt m1 m2 m3 m4 bd fc hd sz el q (fUp (fUp (fUp (fUp (fUp (fUp g 27 (nI (160 * j))) 29 (nI n)) 6 (-1)) 28 (nI (cnE e n a))) 30 (nI (nuV e n (a + 1)))) 31 x31) fm hm so si sh ce ca td wa kp la bf oo bo pw ow tr)) at_X6_isSo_44 rfl rfl (Nat.le_of_ble_eq_true rfl) rfl (ab_rvOf w65 rfl) e1 (by decide) rfl ?_
    exact E_iret at_X6_isSo_47 rfl
  refine E_callV (v := some (.int (nI 0))) (As := [.ref 65, .int (nI 1), .int (nI 0)]) (r0 := []) (cs2 := (ww im lf s d k ls rf rz ra rn rq lt m1 m2 m3 m4 bd fc hd sz el q (fUp (fUp (fUp (fUp (fUp (fUp g 27 (nI (160 * j))) 29 (nI n)) 6 (-1)) 28 (nI (cnE e n a))) 30 (nI (nuV e n (a + 1)))) 31 x31) fm hm so si sh ce ca td wa kp la bf oo bo pw ow tr)) at_X6_item_138 rfl rfl (Nat.le_of_ble_eq_true rfl) rfl (ab_rvOf w65 rfl) e2 (by decide) rfl ?_
  refine E_if (t := 150) (b := false) at_X6_item_141 rfl (by decide) ?_
  refine E_aload_n at_X6_item_144 rfl ?_
  refine E_iload_n at_X6_item_145 rfl ?_
  have e3 : Ev ab_Z0 1 156 [.ref 65, .int (nI (a + 1))] (ww im lf s d k ls rf rz ra rn rq lt m1 m2 m3 m4 bd fc hd sz el q (fUp (fUp (fUp (fUp (fUp (fUp g 27 (nI (160 * j))) 29 (nI n)) 6 (-1)) 28 (nI (cnE e n a))) 30 (nI (nuV e n (a + 1)))) 31 x31) fm hm so si sh ce ca td wa kp la bf oo bo pw ow tr) (some (.int (nI 0)), (ww im lf s d k ls rf rz ra rn rq lt m1 m2 m3 m4 bd fc hd sz el q (fUp (fUp (fUp (fUp (fUp (fUp g 27 (nI (160 * j))) 29 (nI n)) 6 (-1)) 28 (nI (cnE e n a))) 30 (nI (nuV e n (a + 1)))) 31 (nI (a + 1))) fm hm so si sh ce ca td wa kp la bf oo bo pw ow tr)) := by
    refine Ef.in (md := mX6_wrong) (L := [some (.ref 65), some (.int (nI (a + 1)))]) rfl (Nat.le_of_ble_eq_true rfl) rfl ?_
    refine E_aload_n at_X6_wrong_0 rfl ?_
    refine E_iload_n at_X6_wrong_1 rfl ?_
    refine E_putfield (cs2 := (ww im lf s d k ls rf rz ra rn rq lt m1 m2 m3 m4 bd fc hd sz el q (fUp (fUp (fUp (fUp (fUp (fUp g 27 (nI (160 * j))) 29 (nI n)) 6 (-1)) 28 (nI (cnE e n a))) 30 (nI (nuV e n (a + 1)))) 31 (nI (a + 1))) fm hm so si sh ce ca td wa kp la bf oo bo pw ow tr)) at_X6_wrong_2 w65 rfl (by decide) (Nat.le_of_ble_eq_true rfl) rfl rfl rfl (w_pt65_31.trans (by rw [gn31])) ?_
    refine E_iconst (x := nI 0) at_X6_wrong_5 (by decide) ?_
    exact E_iret at_X6_wrong_6 rfl
  refine E_callV (v := some (.int (nI 0))) (As := [.ref 65, .int (nI (a + 1))]) (r0 := []) (cs2 := (ww im lf s d k ls rf rz ra rn rq lt m1 m2 m3 m4 bd fc hd sz el q (fUp (fUp (fUp (fUp (fUp (fUp g 27 (nI (160 * j))) 29 (nI n)) 6 (-1)) 28 (nI (cnE e n a))) 30 (nI (nuV e n (a + 1)))) 31 (nI (a + 1))) fm hm so si sh ce ca td wa kp la bf oo bo pw ow tr)) at_X6_item_146 rfl rfl (Nat.le_of_ble_eq_true rfl) rfl (ab_rvOf w65 rfl) e3 (by decide) w_lens ?_
  exact E_iret at_X6_item_149 rfl
set_option maxHeartbeats 1000000 in
theorem mc11 {e : List Int64} {n a j : Nat} {x30 x31 : Int32} {q : ab_q} (hj : j < 8) (hn : n ≤ 160) (ha : a ≤ n) (Iq : qI q) (l_td : td.length = 3) (l_ce : ce.length = 1280) (hce : ∀ p, p < 160 → e.getD p 0 = ce.getD (160 * j + p) 0) {x3 : Option Value} (hb : chB e n a 32 = true) (hdg : dgB e n (a + 1) = true) (ho0 : 0 ≤ nuV e n (a + 1)) (ho1 : nuV e n (a + 1) < 10) {r : Option Value × List ab_C} (K : Ef ab_Z0 2 mX6_item (57, [some (.ref 65), some (.int (nI 1)), some (.int (nI 2)), some (.int (nI (a + 1)))], [], (ww im lf s d k ls rf rz ra rn rq lt m1 m2 m3 m4 bd fc hd sz el q (fUp (fUp (fUp (fUp (fUp (fUp g 27 (nI (160 * j))) 29 (nI n)) 6 (-1)) 28 (nI (cnE e n a))) 30 (nI (nuV e n (a + 1)))) 31 x31) fm hm so si sh ce ca (td.set 1 (nI (nuV e n (a + 1)))) wa kp la bf oo bo pw ow tr)) r) : Ef ab_Z0 2 mX6_item (57, [some (.ref 65), some (.int (nI 1)), some (.int (nI 1)), x3], [], (ww im lf s d k ls rf rz ra rn rq lt m1 m2 m3 m4 bd fc hd sz el q (fUp (fUp (fUp (fUp (fUp (fUp g 27 (nI (160 * j))) 29 (nI n)) 6 (-1)) 28 (nI a)) 30 x30) 31 x31) fm hm so si sh ce ca td wa kp la bf oo bo pw ow tr)) r := by
  obtain ⟨⟨i0, i1, i2, i3⟩, ⟨i4, i5, i6, i7, i8⟩, ⟨i9, i10⟩, I1_, I2_, I3_, I4_⟩ := id Iq
  have hb_ := chB_t hb
  have hd_ := dgB_t hdg
  have h99 := nuV_99 hdg
  have hcn := cnE_n hdg
  have : ([3, 3, 2, 2, 1, 0, 0] : List Nat).length = 7 := rfl
  have : ([6, 9, 50, 99, 9, 7, 7, 60] : List Nat).length = 8 := rfl
  refine E_iload_n at_X6_item_57 rfl ?_
  refine E_aload_n at_X6_item_58 rfl ?_
  refine E_getfield (v := .ref 83) at_X6_item_59 w65 rfl (by decide) rfl ?_
  refine E_iload_n at_X6_item_62 rfl ?_
  refine E_ialN (l := [3, 3, 2, 2, 1, 0, 0]) (v := 3) at_X6_item_63 w83 (by omega) (by omega) rfl ?_
  refine E_ic (t := 166) (b := false) at_X6_item_64 rfl (by decide) ?_
  refine E_iload_n at_X6_item_67 rfl ?_
  refine E_if (t := 121) (b := false) at_X6_item_68 rfl (by decide) ?_
  refine E_aload_n at_X6_item_71 rfl ?_
  refine E_getfield (v := .int (nI a)) at_X6_item_72 w65 rfl (by decide) rfl ?_
  refine E_aload_n at_X6_item_75 rfl ?_
  refine E_getfield (v := .int (nI n)) at_X6_item_76 w65 rfl (by decide) rfl ?_
  refine E_ic (t := 102) (b := false) at_X6_item_79 rfl ((cn_ge (nI_toInt (by omega)) (nI_toInt (by omega))).trans (decide_eq_false (by omega))) ?_
  refine E_aload_n at_X6_item_82 rfl ?_
  refine E_getfield (v := .ref 80) at_X6_item_83 w65 rfl (by decide) rfl ?_
  refine E_aload_n at_X6_item_86 rfl ?_
  refine E_getfield (v := .int (nI (160 * j))) at_X6_item_87 w65 rfl (by decide) rfl ?_
  refine E_aload_n at_X6_item_90 rfl ?_
  refine E_getfield (v := .int (nI a)) at_X6_item_91 w65 rfl (by decide) rfl ?_
  refine E_iadd (z := nI ((160 * j) + a)) at_X6_item_94 (nI_add _ _) ?_
  refine E_lalL (l := ce) (v := ce.getD ((160 * j) + a) 0) at_X6_item_95 w80 (by omega) (by omega) rfl ?_
  refine E_l2i (z := tw e a) at_X6_item_96 (by unfold tw; rw [hce a (by omega)]) ?_
  refine E_bipush (x := nI 32) at_X6_item_97 (by decide) ?_
  refine E_ic (t := 111) (b := true) at_X6_item_99 rfl ((cn_eq rfl (nI_toInt (by omega))).trans (decide_eq_true (by omega))) ?_
  refine E_aload_n at_X6_item_111 rfl ?_
  refine E_dup at_X6_item_112 rfl ?_
  refine E_getfield (v := .int (nI a)) at_X6_item_113 w65 rfl (by decide) rfl ?_
  refine E_iconst (x := nI 1) at_X6_item_116 (by decide) ?_
  refine E_iadd (z := nI (a + 1)) at_X6_item_117 (nI_add _ _) ?_
  refine E_putfield (cs2 := (ww im lf s d k ls rf rz ra rn rq lt m1 m2 m3 m4 bd fc hd sz el q (fUp (fUp (fUp (fUp (fUp (fUp g 27 (nI (160 * j))) 29 (nI n)) 6 (-1)) 28 (nI (a + 1))) 30 x30) 31 x31) fm hm so si sh ce ca td wa kp la bf oo bo pw ow tr)) at_X6_item_118 w65 rfl (by decide) (Nat.le_of_ble_eq_true rfl) rfl rfl rfl (w_pt65_28.trans (by rw [gn28])) ?_
  refine E_aload_n at_X6_item_121 rfl ?_
  refine E_getfield (v := .int (nI (a + 1))) at_X6_item_122 w65 rfl (by decide) rfl ?_
  refine E_istore_n (L2 := [some (.ref 65), some (.int (nI 1)), some (.int (nI 1)), some (.int (nI (a + 1)))]) at_X6_item_125 rfl ?_
  refine E_aload_n at_X6_item_126 rfl ?_
  refine E_callV (v := some (.int (nI 1))) (As := [.ref 65]) (r0 := []) (cs2 := (ww im lf s d k ls rf rz ra rn rq lt m1 m2 m3 m4 bd fc hd sz el q (fUp (fUp (fUp (fUp (fUp (fUp g 27 (nI (160 * j))) 29 (nI n)) 6 (-1)) 28 (nI (cnE e n a))) 30 (nI (nuV e n (a + 1)))) 31 x31) fm hm so si sh ce ca td wa kp la bf oo bo pw ow tr)) at_X6_item_127 rfl rfl (Nat.le_of_ble_eq_true rfl) rfl (ab_rvOf w65 rfl) (m_rd1 hj hn (by omega) l_ce hce hdg) (by decide) w_lens ?_
  refine E_if (t := 135) (b := true) at_X6_item_130 rfl (by decide) ?_
  refine E_aload_n at_X6_item_135 rfl ?_
  refine E_iload_n at_X6_item_136 rfl ?_
  refine E_iload_n at_X6_item_137 rfl ?_
  have e2 : Ev ab_Z0 2 161 [.ref 65, .int (nI 1), .int (nI 1)] (ww im lf s d k ls rf rz ra rn rq lt m1 m2 m3 m4 bd fc hd sz el q (fUp (fUp (fUp (fUp (fUp (fUp g 27 (nI (160 * j))) 29 (nI n)) 6 (-1)) 28 (nI (cnE e n a))) 30 (nI (nuV e n (a + 1)))) 31 x31) fm hm so si sh ce ca td wa kp la bf oo bo pw ow tr) (some (.int (nI 1)), (ww im lf s d k ls rf rz ra rn rq lt m1 m2 m3 m4 bd fc hd sz el q (fUp (fUp (fUp (fUp (fUp (fUp g 27 (nI (160 * j))) 29 (nI n)) 6 (-1)) 28 (nI (cnE e n a))) 30 (nI (nuV e n (a + 1)))) 31 x31) fm hm so si sh ce ca td wa kp la bf oo bo pw ow tr)) := by
    refine Ef.in (md := mX6_isSo) (L := [some (.ref 65), some (.int (nI 1)), some (.int (nI 1))]) rfl (Nat.le_of_ble_eq_true rfl) rfl ?_
    refine E_iload_n at_X6_isSo_0 rfl ?_
    refine E_iconst (x := nI 3) at_X6_isSo_1 (by decide) ?_
    refine E_ic (t := 48) (b := false) at_X6_isSo_2 rfl (by decide) ?_
    refine E_aload_n at_X6_isSo_5 rfl ?_
    refine E_aload_n at_X6_isSo_6 rfl ?_
    refine E_getfield (v := .int (nI (nuV e n (a + 1)))) at_X6_isSo_7 w65 rfl (by decide) rfl ?_
    refine E_iload_n at_X6_isSo_10 rfl ?_
    refine E_if (t := 19) (b := true) at_X6_isSo_11 rfl (by decide) ?_
    refine E_iload_n at_X6_isSo_19 rfl ?_
    refine E_iconst (x := nI 2) at_X6_isSo_20 (by decide) ?_
    refine E_ic (t := 33) (b := true) at_X6_isSo_21 rfl (by decide) ?_
    refine E_iconst (x := nI 0) at_X6_isSo_33 (by decide) ?_
    refine E_aload_n at_X6_isSo_34 rfl ?_
    refine E_getfield (v := .ref 84) at_X6_isSo_35 w65 rfl (by decide) rfl ?_
    refine E_iconst (x := nI 3) at_X6_isSo_38 (by decide) ?_
    refine E_iload_n at_X6_isSo_39 rfl ?_
    refine E_imul (z := nI 3) at_X6_isSo_40 (by decide) ?_
    refine E_iload_n at_X6_isSo_41 rfl ?_
    refine E_iadd (z := nI 4) at_X6_isSo_42 (by decide) ?_
    refine E_ialN (l := [6, 9, 50, 99, 9, 7, 7, 60]) (v := 9) at_X6_isSo_43 w84 (by omega) (by omega) rfl ?_
    have e1 : Ev ab_Z0 1 134 [.ref 65, .int (nI (nuV e n (a + 1))), .int (nI 0), .int (nI 9)] (ww im lf s d k ls rf rz ra rn rq lt m1 m2 m3 m4 bd fc hd sz el q (fUp (fUp (fUp (fUp (fUp (fUp g 27 (nI (160 * j))) 29 (nI n)) 6 (-1)) 28 (nI (cnE e n a))) 30 (nI (nuV e n (a + 1)))) 31 x31) fm hm so si sh ce ca td wa kp la bf oo bo pw ow tr) (some (.int (nI 1)), (ww im lf s d k ls rf rz ra rn rq lt m1 m2 m3 m4 bd fc hd sz el q (fUp (fUp (fUp (fUp (fUp (fUp g 27 (nI (160 * j))) 29 (nI n)) 6 (-1)) 28 (nI (cnE e n a))) 30 (nI (nuV e n (a + 1)))) 31 x31) fm hm so si sh ce ca td wa kp la bf oo bo pw ow tr)) := by
      refine Ef.in (md := mX6_isFrom) (L := [some (.ref 65), some (.int (nI (nuV e n (a + 1)))), some (.int (nI 0)), some (.int (nI 9))]) rfl (Nat.le_of_ble_eq_true rfl) rfl ?_
      refine E_iload_n at_X6_isFrom_0 rfl ?_
      refine E_iload_n at_X6_isFrom_1 rfl ?_
      refine E_ic (t := 14) (b := false) at_X6_isFrom_2 rfl ((cn_lt (nI_toInt (by omega)) (nI_toInt (by omega))).trans (decide_eq_false (by omega))) ?_
      refine E_iload_n at_X6_isFrom_5 rfl ?_
      refine E_iload_n at_X6_isFrom_6 rfl ?_
      refine E_ic (t := 14) (b := false) at_X6_isFrom_7 rfl ((cn_gt (nI_toInt (by omega)) (nI_toInt (by omega))).trans (decide_eq_false (by omega))) ?_
      refine E_iconst (x := nI 1) at_X6_isFrom_10 (by decide) ?_
      refine E_goto (t := 15) at_X6_isFrom_11 rfl ?_
      exact E_iret at_X6_isFrom_15 rfl
    refine E_callV (v := some (.int (nI 1))) (As := [.ref 65, .int (nI (nuV e n (a + 1))), .int (nI 0), .int (nI 9)]) (r0 := []) (cs2 := (ww im lf s d k ls rf rz ra rn rq lt m1 m2 m3 m4 bd fc hd sz el q (fUp (fUp (fUp (fUp (fUp (fUp g 27 (nI (160 * j))) 29 (nI n)) 6 (-1)) 28 (nI (cnE e n a))) 30 (nI (nuV e n (a + 1)))) 31 x31) fm hm so si sh ce ca td wa kp la bf oo bo pw ow tr)) at_X6_isSo_44 rfl rfl (Nat.le_of_ble_eq_true rfl) rfl (ab_rvOf w65 rfl) e1 (by decide) rfl ?_
    exact E_iret at_X6_isSo_47 rfl
  refine E_callV (v := some (.int (nI 1))) (As := [.ref 65, .int (nI 1), .int (nI 1)]) (r0 := []) (cs2 := (ww im lf s d k ls rf rz ra rn rq lt m1 m2 m3 m4 bd fc hd sz el q (fUp (fUp (fUp (fUp (fUp (fUp g 27 (nI (160 * j))) 29 (nI n)) 6 (-1)) 28 (nI (cnE e n a))) 30 (nI (nuV e n (a + 1)))) 31 x31) fm hm so si sh ce ca td wa kp la bf oo bo pw ow tr)) at_X6_item_138 rfl rfl (Nat.le_of_ble_eq_true rfl) rfl (ab_rvOf w65 rfl) e2 (by decide) rfl ?_
  refine E_if (t := 150) (b := true) at_X6_item_141 rfl (by decide) ?_
  refine E_aload_n at_X6_item_150 rfl ?_
  refine E_getfield (v := .ref 85) at_X6_item_151 w65 rfl (by decide) rfl ?_
  refine E_iload_n at_X6_item_154 rfl ?_
  refine E_aload_n at_X6_item_155 rfl ?_
  refine E_getfield (v := .int (nI (nuV e n (a + 1)))) at_X6_item_156 w65 rfl (by decide) rfl ?_
  refine E_iasI (l := td) (cs2 := (ww im lf s d k ls rf rz ra rn rq lt m1 m2 m3 m4 bd fc hd sz el q (fUp (fUp (fUp (fUp (fUp (fUp g 27 (nI (160 * j))) 29 (nI n)) 6 (-1)) 28 (nI (cnE e n a))) 30 (nI (nuV e n (a + 1)))) 31 x31) fm hm so si sh ce ca (td.set 1 (nI (nuV e n (a + 1)))) wa kp la bf oo bo pw ow tr)) at_X6_item_159 w85 (by omega) (by omega) rfl ?_
  refine E_iinc (y := nI 2) (L2 := [some (.ref 65), some (.int (nI 1)), some (.int (nI 2)), some (.int (nI (a + 1)))]) at_X6_item_160 rfl (by decide) rfl ?_
  refine E_goto (t := 57) at_X6_item_163 rfl ?_
  exact K
set_option maxHeartbeats 1000000 in
theorem ma11 {e : List Int64} {n a j : Nat} {x30 x31 : Int32} {q : ab_q} (hj : j < 8) (hn : n ≤ 160) (ha : a ≤ n) (Iq : qI q) (l_td : td.length = 3) (l_ce : ce.length = 1280) (hce : ∀ p, p < 160 → e.getD p 0 = ce.getD (160 * j + p) 0) {x3 : Option Value} (hb : chB e n a 32 = false) : Ef ab_Z0 2 mX6_item (57, [some (.ref 65), some (.int (nI 1)), some (.int (nI 1)), x3], [], (ww im lf s d k ls rf rz ra rn rq lt m1 m2 m3 m4 bd fc hd sz el q (fUp (fUp (fUp (fUp (fUp (fUp g 27 (nI (160 * j))) 29 (nI n)) 6 (-1)) 28 (nI a)) 30 x30) 31 x31) fm hm so si sh ce ca td wa kp la bf oo bo pw ow tr)) (some (.int (nI 0)), (ww im lf s d k ls rf rz ra rn rq lt m1 m2 m3 m4 bd fc hd sz el q (fUp (fUp (fUp (fUp (fUp (fUp g 27 (nI (160 * j))) 29 (nI n)) 6 (-1)) 28 (nI a)) 30 x30) 31 (nI a)) fm hm so si sh ce ca td wa kp la bf oo bo pw ow tr)) := by
  rcases chB_f hb with h3 | h3
  · have : ([3, 3, 2, 2, 1, 0, 0] : List Nat).length = 7 := rfl
    refine E_iload_n at_X6_item_57 rfl ?_
    refine E_aload_n at_X6_item_58 rfl ?_
    refine E_getfield (v := .ref 83) at_X6_item_59 w65 rfl (by decide) rfl ?_
    refine E_iload_n at_X6_item_62 rfl ?_
    refine E_ialN (l := [3, 3, 2, 2, 1, 0, 0]) (v := 3) at_X6_item_63 w83 (by omega) (by omega) rfl ?_
    refine E_ic (t := 166) (b := false) at_X6_item_64 rfl (by decide) ?_
    refine E_iload_n at_X6_item_67 rfl ?_
    refine E_if (t := 121) (b := false) at_X6_item_68 rfl (by decide) ?_
    refine E_aload_n at_X6_item_71 rfl ?_
    refine E_getfield (v := .int (nI a)) at_X6_item_72 w65 rfl (by decide) rfl ?_
    refine E_aload_n at_X6_item_75 rfl ?_
    refine E_getfield (v := .int (nI n)) at_X6_item_76 w65 rfl (by decide) rfl ?_
    refine E_ic (t := 102) (b := true) at_X6_item_79 rfl ((cn_ge (nI_toInt (by omega)) (nI_toInt (by omega))).trans (decide_eq_true (by omega))) ?_
    refine E_aload_n at_X6_item_102 rfl ?_
    refine E_aload_n at_X6_item_103 rfl ?_
    refine E_getfield (v := .int (nI a)) at_X6_item_104 w65 rfl (by decide) rfl ?_
    have e1 : Ev ab_Z0 1 156 [.ref 65, .int (nI a)] (ww im lf s d k ls rf rz ra rn rq lt m1 m2 m3 m4 bd fc hd sz el q (fUp (fUp (fUp (fUp (fUp (fUp g 27 (nI (160 * j))) 29 (nI n)) 6 (-1)) 28 (nI a)) 30 x30) 31 x31) fm hm so si sh ce ca td wa kp la bf oo bo pw ow tr) (some (.int (nI 0)), (ww im lf s d k ls rf rz ra rn rq lt m1 m2 m3 m4 bd fc hd sz el q (fUp (fUp (fUp (fUp (fUp (fUp g 27 (nI (160 * j))) 29 (nI n)) 6 (-1)) 28 (nI a)) 30 x30) 31 (nI a)) fm hm so si sh ce ca td wa kp la bf oo bo pw ow tr)) := by
      refine Ef.in (md := mX6_wrong) (L := [some (.ref 65), some (.int (nI a))]) rfl (Nat.le_of_ble_eq_true rfl) rfl ?_
      refine E_aload_n at_X6_wrong_0 rfl ?_
      refine E_iload_n at_X6_wrong_1 rfl ?_
      refine E_putfield (cs2 := (ww im lf s d k ls rf rz ra rn rq lt m1 m2 m3 m4 bd fc hd sz el q (fUp (fUp (fUp (fUp (fUp (fUp g 27 (nI (160 * j))) 29 (nI n)) 6 (-1)) 28 (nI a)) 30 x30) 31 (nI a)) fm hm so si sh ce ca td wa kp la bf oo bo pw ow tr)) at_X6_wrong_2 w65 rfl (by decide) (Nat.le_of_ble_eq_true rfl) rfl rfl rfl (w_pt65_31.trans (by rw [gn31])) ?_
      refine E_iconst (x := nI 0) at_X6_wrong_5 (by decide) ?_
      exact E_iret at_X6_wrong_6 rfl
    refine E_callV (v := some (.int (nI 0))) (As := [.ref 65, .int (nI a)]) (r0 := []) (cs2 := (ww im lf s d k ls rf rz ra rn rq lt m1 m2 m3 m4 bd fc hd sz el q (fUp (fUp (fUp (fUp (fUp (fUp g 27 (nI (160 * j))) 29 (nI n)) 6 (-1)) 28 (nI a)) 30 x30) 31 (nI a)) fm hm so si sh ce ca td wa kp la bf oo bo pw ow tr)) at_X6_item_107 rfl rfl (Nat.le_of_ble_eq_true rfl) rfl (ab_rvOf w65 rfl) e1 (by decide) w_lens ?_
    exact E_iret at_X6_item_110 rfl
  · have : ([3, 3, 2, 2, 1, 0, 0] : List Nat).length = 7 := rfl
    refine E_iload_n at_X6_item_57 rfl ?_
    refine E_aload_n at_X6_item_58 rfl ?_
    refine E_getfield (v := .ref 83) at_X6_item_59 w65 rfl (by decide) rfl ?_
    refine E_iload_n at_X6_item_62 rfl ?_
    refine E_ialN (l := [3, 3, 2, 2, 1, 0, 0]) (v := 3) at_X6_item_63 w83 (by omega) (by omega) rfl ?_
    refine E_ic (t := 166) (b := false) at_X6_item_64 rfl (by decide) ?_
    refine E_iload_n at_X6_item_67 rfl ?_
    refine E_if (t := 121) (b := false) at_X6_item_68 rfl (by decide) ?_
    refine E_aload_n at_X6_item_71 rfl ?_
    refine E_getfield (v := .int (nI a)) at_X6_item_72 w65 rfl (by decide) rfl ?_
    refine E_aload_n at_X6_item_75 rfl ?_
    refine E_getfield (v := .int (nI n)) at_X6_item_76 w65 rfl (by decide) rfl ?_
    refine E_ic (t := 102) (b := false) at_X6_item_79 rfl ((cn_ge (nI_toInt (by omega)) (nI_toInt (by omega))).trans (decide_eq_false (by omega))) ?_
    refine E_aload_n at_X6_item_82 rfl ?_
    refine E_getfield (v := .ref 80) at_X6_item_83 w65 rfl (by decide) rfl ?_
    refine E_aload_n at_X6_item_86 rfl ?_
    refine E_getfield (v := .int (nI (160 * j))) at_X6_item_87 w65 rfl (by decide) rfl ?_
    refine E_aload_n at_X6_item_90 rfl ?_
    refine E_getfield (v := .int (nI a)) at_X6_item_91 w65 rfl (by decide) rfl ?_
    refine E_iadd (z := nI ((160 * j) + a)) at_X6_item_94 (nI_add _ _) ?_
    refine E_lalL (l := ce) (v := ce.getD ((160 * j) + a) 0) at_X6_item_95 w80 (by omega) (by omega) rfl ?_
    refine E_l2i (z := tw e a) at_X6_item_96 (by unfold tw; rw [hce a (by omega)]) ?_
    refine E_bipush (x := nI 32) at_X6_item_97 (by decide) ?_
    refine E_ic (t := 111) (b := false) at_X6_item_99 rfl ((cn_eq rfl (nI_toInt (by omega))).trans (decide_eq_false (by omega))) ?_
    refine E_aload_n at_X6_item_102 rfl ?_
    refine E_aload_n at_X6_item_103 rfl ?_
    refine E_getfield (v := .int (nI a)) at_X6_item_104 w65 rfl (by decide) rfl ?_
    have e1 : Ev ab_Z0 1 156 [.ref 65, .int (nI a)] (ww im lf s d k ls rf rz ra rn rq lt m1 m2 m3 m4 bd fc hd sz el q (fUp (fUp (fUp (fUp (fUp (fUp g 27 (nI (160 * j))) 29 (nI n)) 6 (-1)) 28 (nI a)) 30 x30) 31 x31) fm hm so si sh ce ca td wa kp la bf oo bo pw ow tr) (some (.int (nI 0)), (ww im lf s d k ls rf rz ra rn rq lt m1 m2 m3 m4 bd fc hd sz el q (fUp (fUp (fUp (fUp (fUp (fUp g 27 (nI (160 * j))) 29 (nI n)) 6 (-1)) 28 (nI a)) 30 x30) 31 (nI a)) fm hm so si sh ce ca td wa kp la bf oo bo pw ow tr)) := by
      refine Ef.in (md := mX6_wrong) (L := [some (.ref 65), some (.int (nI a))]) rfl (Nat.le_of_ble_eq_true rfl) rfl ?_
      refine E_aload_n at_X6_wrong_0 rfl ?_
      refine E_iload_n at_X6_wrong_1 rfl ?_
      refine E_putfield (cs2 := (ww im lf s d k ls rf rz ra rn rq lt m1 m2 m3 m4 bd fc hd sz el q (fUp (fUp (fUp (fUp (fUp (fUp g 27 (nI (160 * j))) 29 (nI n)) 6 (-1)) 28 (nI a)) 30 x30) 31 (nI a)) fm hm so si sh ce ca td wa kp la bf oo bo pw ow tr)) at_X6_wrong_2 w65 rfl (by decide) (Nat.le_of_ble_eq_true rfl) rfl rfl rfl (w_pt65_31.trans (by rw [gn31])) ?_
      refine E_iconst (x := nI 0) at_X6_wrong_5 (by decide) ?_
      exact E_iret at_X6_wrong_6 rfl
    refine E_callV (v := some (.int (nI 0))) (As := [.ref 65, .int (nI a)]) (r0 := []) (cs2 := (ww im lf s d k ls rf rz ra rn rq lt m1 m2 m3 m4 bd fc hd sz el q (fUp (fUp (fUp (fUp (fUp (fUp g 27 (nI (160 * j))) 29 (nI n)) 6 (-1)) 28 (nI a)) 30 x30) 31 (nI a)) fm hm so si sh ce ca td wa kp la bf oo bo pw ow tr)) at_X6_item_107 rfl rfl (Nat.le_of_ble_eq_true rfl) rfl (ab_rvOf w65 rfl) e1 (by decide) w_lens ?_
    exact E_iret at_X6_item_110 rfl
set_option maxHeartbeats 1000000 in
theorem mb11 {e : List Int64} {n a j : Nat} {x30 x31 : Int32} {q : ab_q} (hj : j < 8) (hn : n ≤ 160) (ha : a ≤ n) (Iq : qI q) (l_td : td.length = 3) (l_ce : ce.length = 1280) (hce : ∀ p, p < 160 → e.getD p 0 = ce.getD (160 * j + p) 0) {x3 : Option Value} (hb : chB e n a 32 = true) (hdg : dgB e n (a + 1) = false) : Ef ab_Z0 2 mX6_item (57, [some (.ref 65), some (.int (nI 1)), some (.int (nI 1)), x3], [], (ww im lf s d k ls rf rz ra rn rq lt m1 m2 m3 m4 bd fc hd sz el q (fUp (fUp (fUp (fUp (fUp (fUp g 27 (nI (160 * j))) 29 (nI n)) 6 (-1)) 28 (nI a)) 30 x30) 31 x31) fm hm so si sh ce ca td wa kp la bf oo bo pw ow tr)) (some (.int (nI 0)), (ww im lf s d k ls rf rz ra rn rq lt m1 m2 m3 m4 bd fc hd sz el q (fUp (fUp (fUp (fUp (fUp (fUp g 27 (nI (160 * j))) 29 (nI n)) 6 (-1)) 28 (nI (a + 1))) 30 (nI 0)) 31 (nI (a + 1))) fm hm so si sh ce ca td wa kp la bf oo bo pw ow tr)) := by
  have hb_ := chB_t hb
  have : ([3, 3, 2, 2, 1, 0, 0] : List Nat).length = 7 := rfl
  refine E_iload_n at_X6_item_57 rfl ?_
  refine E_aload_n at_X6_item_58 rfl ?_
  refine E_getfield (v := .ref 83) at_X6_item_59 w65 rfl (by decide) rfl ?_
  refine E_iload_n at_X6_item_62 rfl ?_
  refine E_ialN (l := [3, 3, 2, 2, 1, 0, 0]) (v := 3) at_X6_item_63 w83 (by omega) (by omega) rfl ?_
  refine E_ic (t := 166) (b := false) at_X6_item_64 rfl (by decide) ?_
  refine E_iload_n at_X6_item_67 rfl ?_
  refine E_if (t := 121) (b := false) at_X6_item_68 rfl (by decide) ?_
  refine E_aload_n at_X6_item_71 rfl ?_
  refine E_getfield (v := .int (nI a)) at_X6_item_72 w65 rfl (by decide) rfl ?_
  refine E_aload_n at_X6_item_75 rfl ?_
  refine E_getfield (v := .int (nI n)) at_X6_item_76 w65 rfl (by decide) rfl ?_
  refine E_ic (t := 102) (b := false) at_X6_item_79 rfl ((cn_ge (nI_toInt (by omega)) (nI_toInt (by omega))).trans (decide_eq_false (by omega))) ?_
  refine E_aload_n at_X6_item_82 rfl ?_
  refine E_getfield (v := .ref 80) at_X6_item_83 w65 rfl (by decide) rfl ?_
  refine E_aload_n at_X6_item_86 rfl ?_
  refine E_getfield (v := .int (nI (160 * j))) at_X6_item_87 w65 rfl (by decide) rfl ?_
  refine E_aload_n at_X6_item_90 rfl ?_
  refine E_getfield (v := .int (nI a)) at_X6_item_91 w65 rfl (by decide) rfl ?_
  refine E_iadd (z := nI ((160 * j) + a)) at_X6_item_94 (nI_add _ _) ?_
  refine E_lalL (l := ce) (v := ce.getD ((160 * j) + a) 0) at_X6_item_95 w80 (by omega) (by omega) rfl ?_
  refine E_l2i (z := tw e a) at_X6_item_96 (by unfold tw; rw [hce a (by omega)]) ?_
  refine E_bipush (x := nI 32) at_X6_item_97 (by decide) ?_
  refine E_ic (t := 111) (b := true) at_X6_item_99 rfl ((cn_eq rfl (nI_toInt (by omega))).trans (decide_eq_true (by omega))) ?_
  refine E_aload_n at_X6_item_111 rfl ?_
  refine E_dup at_X6_item_112 rfl ?_
  refine E_getfield (v := .int (nI a)) at_X6_item_113 w65 rfl (by decide) rfl ?_
  refine E_iconst (x := nI 1) at_X6_item_116 (by decide) ?_
  refine E_iadd (z := nI (a + 1)) at_X6_item_117 (nI_add _ _) ?_
  refine E_putfield (cs2 := (ww im lf s d k ls rf rz ra rn rq lt m1 m2 m3 m4 bd fc hd sz el q (fUp (fUp (fUp (fUp (fUp (fUp g 27 (nI (160 * j))) 29 (nI n)) 6 (-1)) 28 (nI (a + 1))) 30 x30) 31 x31) fm hm so si sh ce ca td wa kp la bf oo bo pw ow tr)) at_X6_item_118 w65 rfl (by decide) (Nat.le_of_ble_eq_true rfl) rfl rfl rfl (w_pt65_28.trans (by rw [gn28])) ?_
  refine E_aload_n at_X6_item_121 rfl ?_
  refine E_getfield (v := .int (nI (a + 1))) at_X6_item_122 w65 rfl (by decide) rfl ?_
  refine E_istore_n (L2 := [some (.ref 65), some (.int (nI 1)), some (.int (nI 1)), some (.int (nI (a + 1)))]) at_X6_item_125 rfl ?_
  refine E_aload_n at_X6_item_126 rfl ?_
  refine E_callV (v := some (.int (nI 0))) (As := [.ref 65]) (r0 := []) (cs2 := (ww im lf s d k ls rf rz ra rn rq lt m1 m2 m3 m4 bd fc hd sz el q (fUp (fUp (fUp (fUp (fUp (fUp g 27 (nI (160 * j))) 29 (nI n)) 6 (-1)) 28 (nI (a + 1))) 30 (nI 0)) 31 (nI (a + 1))) fm hm so si sh ce ca td wa kp la bf oo bo pw ow tr)) at_X6_item_127 rfl rfl (Nat.le_of_ble_eq_true rfl) rfl (ab_rvOf w65 rfl) (m_rd0 hj hn (by omega) l_ce hce hdg) (by decide) w_lens ?_
  refine E_if (t := 135) (b := false) at_X6_item_130 rfl (by decide) ?_
  refine E_iconst (x := nI 0) at_X6_item_133 (by decide) ?_
  exact E_iret at_X6_item_134 rfl
set_option maxHeartbeats 1000000 in
theorem md110 {e : List Int64} {n a j : Nat} {x30 x31 : Int32} {q : ab_q} (hj : j < 8) (hn : n ≤ 160) (ha : a ≤ n) (Iq : qI q) (l_td : td.length = 3) (l_ce : ce.length = 1280) (hce : ∀ p, p < 160 → e.getD p 0 = ce.getD (160 * j + p) 0) {x3 : Option Value} (hb : chB e n a 32 = true) (hdg : dgB e n (a + 1) = true) (hr : 10 ≤ nuV e n (a + 1)) : Ef ab_Z0 2 mX6_item (57, [some (.ref 65), some (.int (nI 1)), some (.int (nI 1)), x3], [], (ww im lf s d k ls rf rz ra rn rq lt m1 m2 m3 m4 bd fc hd sz el q (fUp (fUp (fUp (fUp (fUp (fUp g 27 (nI (160 * j))) 29 (nI n)) 6 (-1)) 28 (nI a)) 30 x30) 31 x31) fm hm so si sh ce ca td wa kp la bf oo bo pw ow tr)) (some (.int (nI 0)), (ww im lf s d k ls rf rz ra rn rq lt m1 m2 m3 m4 bd fc hd sz el q (fUp (fUp (fUp (fUp (fUp (fUp g 27 (nI (160 * j))) 29 (nI n)) 6 (-1)) 28 (nI (cnE e n a))) 30 (nI (nuV e n (a + 1)))) 31 (nI (a + 1))) fm hm so si sh ce ca td wa kp la bf oo bo pw ow tr)) := by
  obtain ⟨⟨i0, i1, i2, i3⟩, ⟨i4, i5, i6, i7, i8⟩, ⟨i9, i10⟩, I1_, I2_, I3_, I4_⟩ := id Iq
  have hb_ := chB_t hb
  have hd_ := dgB_t hdg
  have h99 := nuV_99 hdg
  have hcn := cnE_n hdg
  have : ([3, 3, 2, 2, 1, 0, 0] : List Nat).length = 7 := rfl
  have : ([6, 9, 50, 99, 9, 7, 7, 60] : List Nat).length = 8 := rfl
  refine E_iload_n at_X6_item_57 rfl ?_
  refine E_aload_n at_X6_item_58 rfl ?_
  refine E_getfield (v := .ref 83) at_X6_item_59 w65 rfl (by decide) rfl ?_
  refine E_iload_n at_X6_item_62 rfl ?_
  refine E_ialN (l := [3, 3, 2, 2, 1, 0, 0]) (v := 3) at_X6_item_63 w83 (by omega) (by omega) rfl ?_
  refine E_ic (t := 166) (b := false) at_X6_item_64 rfl (by decide) ?_
  refine E_iload_n at_X6_item_67 rfl ?_
  refine E_if (t := 121) (b := false) at_X6_item_68 rfl (by decide) ?_
  refine E_aload_n at_X6_item_71 rfl ?_
  refine E_getfield (v := .int (nI a)) at_X6_item_72 w65 rfl (by decide) rfl ?_
  refine E_aload_n at_X6_item_75 rfl ?_
  refine E_getfield (v := .int (nI n)) at_X6_item_76 w65 rfl (by decide) rfl ?_
  refine E_ic (t := 102) (b := false) at_X6_item_79 rfl ((cn_ge (nI_toInt (by omega)) (nI_toInt (by omega))).trans (decide_eq_false (by omega))) ?_
  refine E_aload_n at_X6_item_82 rfl ?_
  refine E_getfield (v := .ref 80) at_X6_item_83 w65 rfl (by decide) rfl ?_
  refine E_aload_n at_X6_item_86 rfl ?_
  refine E_getfield (v := .int (nI (160 * j))) at_X6_item_87 w65 rfl (by decide) rfl ?_
  refine E_aload_n at_X6_item_90 rfl ?_
  refine E_getfield (v := .int (nI a)) at_X6_item_91 w65 rfl (by decide) rfl ?_
  refine E_iadd (z := nI ((160 * j) + a)) at_X6_item_94 (nI_add _ _) ?_
  refine E_lalL (l := ce) (v := ce.getD ((160 * j) + a) 0) at_X6_item_95 w80 (by omega) (by omega) rfl ?_
  refine E_l2i (z := tw e a) at_X6_item_96 (by unfold tw; rw [hce a (by omega)]) ?_
  refine E_bipush (x := nI 32) at_X6_item_97 (by decide) ?_
  refine E_ic (t := 111) (b := true) at_X6_item_99 rfl ((cn_eq rfl (nI_toInt (by omega))).trans (decide_eq_true (by omega))) ?_
  refine E_aload_n at_X6_item_111 rfl ?_
  refine E_dup at_X6_item_112 rfl ?_
  refine E_getfield (v := .int (nI a)) at_X6_item_113 w65 rfl (by decide) rfl ?_
  refine E_iconst (x := nI 1) at_X6_item_116 (by decide) ?_
  refine E_iadd (z := nI (a + 1)) at_X6_item_117 (nI_add _ _) ?_
  refine E_putfield (cs2 := (ww im lf s d k ls rf rz ra rn rq lt m1 m2 m3 m4 bd fc hd sz el q (fUp (fUp (fUp (fUp (fUp (fUp g 27 (nI (160 * j))) 29 (nI n)) 6 (-1)) 28 (nI (a + 1))) 30 x30) 31 x31) fm hm so si sh ce ca td wa kp la bf oo bo pw ow tr)) at_X6_item_118 w65 rfl (by decide) (Nat.le_of_ble_eq_true rfl) rfl rfl rfl (w_pt65_28.trans (by rw [gn28])) ?_
  refine E_aload_n at_X6_item_121 rfl ?_
  refine E_getfield (v := .int (nI (a + 1))) at_X6_item_122 w65 rfl (by decide) rfl ?_
  refine E_istore_n (L2 := [some (.ref 65), some (.int (nI 1)), some (.int (nI 1)), some (.int (nI (a + 1)))]) at_X6_item_125 rfl ?_
  refine E_aload_n at_X6_item_126 rfl ?_
  refine E_callV (v := some (.int (nI 1))) (As := [.ref 65]) (r0 := []) (cs2 := (ww im lf s d k ls rf rz ra rn rq lt m1 m2 m3 m4 bd fc hd sz el q (fUp (fUp (fUp (fUp (fUp (fUp g 27 (nI (160 * j))) 29 (nI n)) 6 (-1)) 28 (nI (cnE e n a))) 30 (nI (nuV e n (a + 1)))) 31 x31) fm hm so si sh ce ca td wa kp la bf oo bo pw ow tr)) at_X6_item_127 rfl rfl (Nat.le_of_ble_eq_true rfl) rfl (ab_rvOf w65 rfl) (m_rd1 hj hn (by omega) l_ce hce hdg) (by decide) w_lens ?_
  refine E_if (t := 135) (b := true) at_X6_item_130 rfl (by decide) ?_
  refine E_aload_n at_X6_item_135 rfl ?_
  refine E_iload_n at_X6_item_136 rfl ?_
  refine E_iload_n at_X6_item_137 rfl ?_
  have e2 : Ev ab_Z0 2 161 [.ref 65, .int (nI 1), .int (nI 1)] (ww im lf s d k ls rf rz ra rn rq lt m1 m2 m3 m4 bd fc hd sz el q (fUp (fUp (fUp (fUp (fUp (fUp g 27 (nI (160 * j))) 29 (nI n)) 6 (-1)) 28 (nI (cnE e n a))) 30 (nI (nuV e n (a + 1)))) 31 x31) fm hm so si sh ce ca td wa kp la bf oo bo pw ow tr) (some (.int (nI 0)), (ww im lf s d k ls rf rz ra rn rq lt m1 m2 m3 m4 bd fc hd sz el q (fUp (fUp (fUp (fUp (fUp (fUp g 27 (nI (160 * j))) 29 (nI n)) 6 (-1)) 28 (nI (cnE e n a))) 30 (nI (nuV e n (a + 1)))) 31 x31) fm hm so si sh ce ca td wa kp la bf oo bo pw ow tr)) := by
    refine Ef.in (md := mX6_isSo) (L := [some (.ref 65), some (.int (nI 1)), some (.int (nI 1))]) rfl (Nat.le_of_ble_eq_true rfl) rfl ?_
    refine E_iload_n at_X6_isSo_0 rfl ?_
    refine E_iconst (x := nI 3) at_X6_isSo_1 (by decide) ?_
    refine E_ic (t := 48) (b := false) at_X6_isSo_2 rfl (by decide) ?_
    refine E_aload_n at_X6_isSo_5 rfl ?_
    refine E_aload_n at_X6_isSo_6 rfl ?_
    refine E_getfield (v := .int (nI (nuV e n (a + 1)))) at_X6_isSo_7 w65 rfl (by decide) rfl ?_
    refine E_iload_n at_X6_isSo_10 rfl ?_
    refine E_if (t := 19) (b := true) at_X6_isSo_11 rfl (by decide) ?_
    refine E_iload_n at_X6_isSo_19 rfl ?_
    refine E_iconst (x := nI 2) at_X6_isSo_20 (by decide) ?_
    refine E_ic (t := 33) (b := true) at_X6_isSo_21 rfl (by decide) ?_
    refine E_iconst (x := nI 0) at_X6_isSo_33 (by decide) ?_
    refine E_aload_n at_X6_isSo_34 rfl ?_
    refine E_getfield (v := .ref 84) at_X6_isSo_35 w65 rfl (by decide) rfl ?_
    refine E_iconst (x := nI 3) at_X6_isSo_38 (by decide) ?_
    refine E_iload_n at_X6_isSo_39 rfl ?_
    refine E_imul (z := nI 3) at_X6_isSo_40 (by decide) ?_
    refine E_iload_n at_X6_isSo_41 rfl ?_
    refine E_iadd (z := nI 4) at_X6_isSo_42 (by decide) ?_
    refine E_ialN (l := [6, 9, 50, 99, 9, 7, 7, 60]) (v := 9) at_X6_isSo_43 w84 (by omega) (by omega) rfl ?_
    have e1 : Ev ab_Z0 1 134 [.ref 65, .int (nI (nuV e n (a + 1))), .int (nI 0), .int (nI 9)] (ww im lf s d k ls rf rz ra rn rq lt m1 m2 m3 m4 bd fc hd sz el q (fUp (fUp (fUp (fUp (fUp (fUp g 27 (nI (160 * j))) 29 (nI n)) 6 (-1)) 28 (nI (cnE e n a))) 30 (nI (nuV e n (a + 1)))) 31 x31) fm hm so si sh ce ca td wa kp la bf oo bo pw ow tr) (some (.int (nI 0)), (ww im lf s d k ls rf rz ra rn rq lt m1 m2 m3 m4 bd fc hd sz el q (fUp (fUp (fUp (fUp (fUp (fUp g 27 (nI (160 * j))) 29 (nI n)) 6 (-1)) 28 (nI (cnE e n a))) 30 (nI (nuV e n (a + 1)))) 31 x31) fm hm so si sh ce ca td wa kp la bf oo bo pw ow tr)) := by
      refine Ef.in (md := mX6_isFrom) (L := [some (.ref 65), some (.int (nI (nuV e n (a + 1)))), some (.int (nI 0)), some (.int (nI 9))]) rfl (Nat.le_of_ble_eq_true rfl) rfl ?_
      refine E_iload_n at_X6_isFrom_0 rfl ?_
      refine E_iload_n at_X6_isFrom_1 rfl ?_
      refine E_ic (t := 14) (b := false) at_X6_isFrom_2 rfl ((cn_lt (nI_toInt (by omega)) (nI_toInt (by omega))).trans (decide_eq_false (by omega))) ?_
      refine E_iload_n at_X6_isFrom_5 rfl ?_
      refine E_iload_n at_X6_isFrom_6 rfl ?_
      refine E_ic (t := 14) (b := true) at_X6_isFrom_7 rfl ((cn_gt (nI_toInt (by omega)) (nI_toInt (by omega))).trans (decide_eq_true (by omega))) ?_
      refine E_iconst (x := nI 0) at_X6_isFrom_14 (by decide) ?_
      exact E_iret at_X6_isFrom_15 rfl
    refine E_callV (v := some (.int (nI 0))) (As := [.ref 65, .int (nI (nuV e n (a + 1))), .int (nI 0), .int (nI 9)]) (r0 := []) (cs2 := (ww im lf s d k ls rf rz ra rn rq lt m1 m2 m3 m4 bd fc hd sz el q (fUp (fUp (fUp (fUp (fUp (fUp g 27 (nI (160 * j))) 29 (nI n)) 6 (-1)) 28 (nI (cnE e n a))) 30 (nI (nuV e n (a + 1)))) 31 x31) fm hm so si sh ce ca td wa kp la bf oo bo pw ow tr)) at_X6_isSo_44 rfl rfl (Nat.le_of_ble_eq_true rfl) rfl (ab_rvOf w65 rfl) e1 (by decide) rfl ?_
    exact E_iret at_X6_isSo_47 rfl
  refine E_callV (v := some (.int (nI 0))) (As := [.ref 65, .int (nI 1), .int (nI 1)]) (r0 := []) (cs2 := (ww im lf s d k ls rf rz ra rn rq lt m1 m2 m3 m4 bd fc hd sz el q (fUp (fUp (fUp (fUp (fUp (fUp g 27 (nI (160 * j))) 29 (nI n)) 6 (-1)) 28 (nI (cnE e n a))) 30 (nI (nuV e n (a + 1)))) 31 x31) fm hm so si sh ce ca td wa kp la bf oo bo pw ow tr)) at_X6_item_138 rfl rfl (Nat.le_of_ble_eq_true rfl) rfl (ab_rvOf w65 rfl) e2 (by decide) rfl ?_
  refine E_if (t := 150) (b := false) at_X6_item_141 rfl (by decide) ?_
  refine E_aload_n at_X6_item_144 rfl ?_
  refine E_iload_n at_X6_item_145 rfl ?_
  have e3 : Ev ab_Z0 1 156 [.ref 65, .int (nI (a + 1))] (ww im lf s d k ls rf rz ra rn rq lt m1 m2 m3 m4 bd fc hd sz el q (fUp (fUp (fUp (fUp (fUp (fUp g 27 (nI (160 * j))) 29 (nI n)) 6 (-1)) 28 (nI (cnE e n a))) 30 (nI (nuV e n (a + 1)))) 31 x31) fm hm so si sh ce ca td wa kp la bf oo bo pw ow tr) (some (.int (nI 0)), (ww im lf s d k ls rf rz ra rn rq lt m1 m2 m3 m4 bd fc hd sz el q (fUp (fUp (fUp (fUp (fUp (fUp g 27 (nI (160 * j))) 29 (nI n)) 6 (-1)) 28 (nI (cnE e n a))) 30 (nI (nuV e n (a + 1)))) 31 (nI (a + 1))) fm hm so si sh ce ca td wa kp la bf oo bo pw ow tr)) := by
    refine Ef.in (md := mX6_wrong) (L := [some (.ref 65), some (.int (nI (a + 1)))]) rfl (Nat.le_of_ble_eq_true rfl) rfl ?_
    refine E_aload_n at_X6_wrong_0 rfl ?_
    refine E_iload_n at_X6_wrong_1 rfl ?_
    refine E_putfield (cs2 := (ww im lf s d k ls rf rz ra rn rq lt m1 m2 m3 m4 bd fc hd sz el q (fUp (fUp (fUp (fUp (fUp (fUp g 27 (nI (160 * j))) 29 (nI n)) 6 (-1)) 28 (nI (cnE e n a))) 30 (nI (nuV e n (a + 1)))) 31 (nI (a + 1))) fm hm so si sh ce ca td wa kp la bf oo bo pw ow tr)) at_X6_wrong_2 w65 rfl (by decide) (Nat.le_of_ble_eq_true rfl) rfl rfl rfl (w_pt65_31.trans (by rw [gn31])) ?_
    refine E_iconst (x := nI 0) at_X6_wrong_5 (by decide) ?_
    exact E_iret at_X6_wrong_6 rfl
  refine E_callV (v := some (.int (nI 0))) (As := [.ref 65, .int (nI (a + 1))]) (r0 := []) (cs2 := (ww im lf s d k ls rf rz ra rn rq lt m1 m2 m3 m4 bd fc hd sz el q (fUp (fUp (fUp (fUp (fUp (fUp g 27 (nI (160 * j))) 29 (nI n)) 6 (-1)) 28 (nI (cnE e n a))) 30 (nI (nuV e n (a + 1)))) 31 (nI (a + 1))) fm hm so si sh ce ca td wa kp la bf oo bo pw ow tr)) at_X6_item_146 rfl rfl (Nat.le_of_ble_eq_true rfl) rfl (ab_rvOf w65 rfl) e3 (by decide) w_lens ?_
  exact E_iret at_X6_item_149 rfl
set_option maxHeartbeats 1000000 in
theorem mc12 {e : List Int64} {n a j : Nat} {x30 x31 : Int32} {q : ab_q} (hj : j < 8) (hn : n ≤ 160) (ha : a ≤ n) (Iq : qI q) (l_td : td.length = 3) (l_ce : ce.length = 1280) (hce : ∀ p, p < 160 → e.getD p 0 = ce.getD (160 * j + p) 0) {x3 : Option Value} (hb : chB e n a 32 = true) (hdg : dgB e n (a + 1) = true) (ho0 : 0 ≤ nuV e n (a + 1)) (ho1 : nuV e n (a + 1) < 8) {r : Option Value × List ab_C} (K : Ef ab_Z0 2 mX6_item (57, [some (.ref 65), some (.int (nI 1)), some (.int (nI 3)), some (.int (nI (a + 1)))], [], (ww im lf s d k ls rf rz ra rn rq lt m1 m2 m3 m4 bd fc hd sz el q (fUp (fUp (fUp (fUp (fUp (fUp g 27 (nI (160 * j))) 29 (nI n)) 6 (-1)) 28 (nI (cnE e n a))) 30 (nI (nuV e n (a + 1)))) 31 x31) fm hm so si sh ce ca (td.set 2 (nI (nuV e n (a + 1)))) wa kp la bf oo bo pw ow tr)) r) : Ef ab_Z0 2 mX6_item (57, [some (.ref 65), some (.int (nI 1)), some (.int (nI 2)), x3], [], (ww im lf s d k ls rf rz ra rn rq lt m1 m2 m3 m4 bd fc hd sz el q (fUp (fUp (fUp (fUp (fUp (fUp g 27 (nI (160 * j))) 29 (nI n)) 6 (-1)) 28 (nI a)) 30 x30) 31 x31) fm hm so si sh ce ca td wa kp la bf oo bo pw ow tr)) r := by
  obtain ⟨⟨i0, i1, i2, i3⟩, ⟨i4, i5, i6, i7, i8⟩, ⟨i9, i10⟩, I1_, I2_, I3_, I4_⟩ := id Iq
  have hb_ := chB_t hb
  have hd_ := dgB_t hdg
  have h99 := nuV_99 hdg
  have hcn := cnE_n hdg
  have : ([3, 3, 2, 2, 1, 0, 0] : List Nat).length = 7 := rfl
  have : ([6, 9, 50, 99, 9, 7, 7, 60] : List Nat).length = 8 := rfl
  refine E_iload_n at_X6_item_57 rfl ?_
  refine E_aload_n at_X6_item_58 rfl ?_
  refine E_getfield (v := .ref 83) at_X6_item_59 w65 rfl (by decide) rfl ?_
  refine E_iload_n at_X6_item_62 rfl ?_
  refine E_ialN (l := [3, 3, 2, 2, 1, 0, 0]) (v := 3) at_X6_item_63 w83 (by omega) (by omega) rfl ?_
  refine E_ic (t := 166) (b := false) at_X6_item_64 rfl (by decide) ?_
  refine E_iload_n at_X6_item_67 rfl ?_
  refine E_if (t := 121) (b := false) at_X6_item_68 rfl (by decide) ?_
  refine E_aload_n at_X6_item_71 rfl ?_
  refine E_getfield (v := .int (nI a)) at_X6_item_72 w65 rfl (by decide) rfl ?_
  refine E_aload_n at_X6_item_75 rfl ?_
  refine E_getfield (v := .int (nI n)) at_X6_item_76 w65 rfl (by decide) rfl ?_
  refine E_ic (t := 102) (b := false) at_X6_item_79 rfl ((cn_ge (nI_toInt (by omega)) (nI_toInt (by omega))).trans (decide_eq_false (by omega))) ?_
  refine E_aload_n at_X6_item_82 rfl ?_
  refine E_getfield (v := .ref 80) at_X6_item_83 w65 rfl (by decide) rfl ?_
  refine E_aload_n at_X6_item_86 rfl ?_
  refine E_getfield (v := .int (nI (160 * j))) at_X6_item_87 w65 rfl (by decide) rfl ?_
  refine E_aload_n at_X6_item_90 rfl ?_
  refine E_getfield (v := .int (nI a)) at_X6_item_91 w65 rfl (by decide) rfl ?_
  refine E_iadd (z := nI ((160 * j) + a)) at_X6_item_94 (nI_add _ _) ?_
  refine E_lalL (l := ce) (v := ce.getD ((160 * j) + a) 0) at_X6_item_95 w80 (by omega) (by omega) rfl ?_
  refine E_l2i (z := tw e a) at_X6_item_96 (by unfold tw; rw [hce a (by omega)]) ?_
  refine E_bipush (x := nI 32) at_X6_item_97 (by decide) ?_
  refine E_ic (t := 111) (b := true) at_X6_item_99 rfl ((cn_eq rfl (nI_toInt (by omega))).trans (decide_eq_true (by omega))) ?_
  refine E_aload_n at_X6_item_111 rfl ?_
  refine E_dup at_X6_item_112 rfl ?_
  refine E_getfield (v := .int (nI a)) at_X6_item_113 w65 rfl (by decide) rfl ?_
  refine E_iconst (x := nI 1) at_X6_item_116 (by decide) ?_
  refine E_iadd (z := nI (a + 1)) at_X6_item_117 (nI_add _ _) ?_
  refine E_putfield (cs2 := (ww im lf s d k ls rf rz ra rn rq lt m1 m2 m3 m4 bd fc hd sz el q (fUp (fUp (fUp (fUp (fUp (fUp g 27 (nI (160 * j))) 29 (nI n)) 6 (-1)) 28 (nI (a + 1))) 30 x30) 31 x31) fm hm so si sh ce ca td wa kp la bf oo bo pw ow tr)) at_X6_item_118 w65 rfl (by decide) (Nat.le_of_ble_eq_true rfl) rfl rfl rfl (w_pt65_28.trans (by rw [gn28])) ?_
  refine E_aload_n at_X6_item_121 rfl ?_
  refine E_getfield (v := .int (nI (a + 1))) at_X6_item_122 w65 rfl (by decide) rfl ?_
  refine E_istore_n (L2 := [some (.ref 65), some (.int (nI 1)), some (.int (nI 2)), some (.int (nI (a + 1)))]) at_X6_item_125 rfl ?_
  refine E_aload_n at_X6_item_126 rfl ?_
  refine E_callV (v := some (.int (nI 1))) (As := [.ref 65]) (r0 := []) (cs2 := (ww im lf s d k ls rf rz ra rn rq lt m1 m2 m3 m4 bd fc hd sz el q (fUp (fUp (fUp (fUp (fUp (fUp g 27 (nI (160 * j))) 29 (nI n)) 6 (-1)) 28 (nI (cnE e n a))) 30 (nI (nuV e n (a + 1)))) 31 x31) fm hm so si sh ce ca td wa kp la bf oo bo pw ow tr)) at_X6_item_127 rfl rfl (Nat.le_of_ble_eq_true rfl) rfl (ab_rvOf w65 rfl) (m_rd1 hj hn (by omega) l_ce hce hdg) (by decide) w_lens ?_
  refine E_if (t := 135) (b := true) at_X6_item_130 rfl (by decide) ?_
  refine E_aload_n at_X6_item_135 rfl ?_
  refine E_iload_n at_X6_item_136 rfl ?_
  refine E_iload_n at_X6_item_137 rfl ?_
  have e2 : Ev ab_Z0 2 161 [.ref 65, .int (nI 1), .int (nI 2)] (ww im lf s d k ls rf rz ra rn rq lt m1 m2 m3 m4 bd fc hd sz el q (fUp (fUp (fUp (fUp (fUp (fUp g 27 (nI (160 * j))) 29 (nI n)) 6 (-1)) 28 (nI (cnE e n a))) 30 (nI (nuV e n (a + 1)))) 31 x31) fm hm so si sh ce ca td wa kp la bf oo bo pw ow tr) (some (.int (nI 1)), (ww im lf s d k ls rf rz ra rn rq lt m1 m2 m3 m4 bd fc hd sz el q (fUp (fUp (fUp (fUp (fUp (fUp g 27 (nI (160 * j))) 29 (nI n)) 6 (-1)) 28 (nI (cnE e n a))) 30 (nI (nuV e n (a + 1)))) 31 x31) fm hm so si sh ce ca td wa kp la bf oo bo pw ow tr)) := by
    refine Ef.in (md := mX6_isSo) (L := [some (.ref 65), some (.int (nI 1)), some (.int (nI 2))]) rfl (Nat.le_of_ble_eq_true rfl) rfl ?_
    refine E_iload_n at_X6_isSo_0 rfl ?_
    refine E_iconst (x := nI 3) at_X6_isSo_1 (by decide) ?_
    refine E_ic (t := 48) (b := false) at_X6_isSo_2 rfl (by decide) ?_
    refine E_aload_n at_X6_isSo_5 rfl ?_
    refine E_aload_n at_X6_isSo_6 rfl ?_
    refine E_getfield (v := .int (nI (nuV e n (a + 1)))) at_X6_isSo_7 w65 rfl (by decide) rfl ?_
    refine E_iload_n at_X6_isSo_10 rfl ?_
    refine E_if (t := 19) (b := true) at_X6_isSo_11 rfl (by decide) ?_
    refine E_iload_n at_X6_isSo_19 rfl ?_
    refine E_iconst (x := nI 2) at_X6_isSo_20 (by decide) ?_
    refine E_ic (t := 33) (b := true) at_X6_isSo_21 rfl (by decide) ?_
    refine E_iconst (x := nI 0) at_X6_isSo_33 (by decide) ?_
    refine E_aload_n at_X6_isSo_34 rfl ?_
    refine E_getfield (v := .ref 84) at_X6_isSo_35 w65 rfl (by decide) rfl ?_
    refine E_iconst (x := nI 3) at_X6_isSo_38 (by decide) ?_
    refine E_iload_n at_X6_isSo_39 rfl ?_
    refine E_imul (z := nI 3) at_X6_isSo_40 (by decide) ?_
    refine E_iload_n at_X6_isSo_41 rfl ?_
    refine E_iadd (z := nI 5) at_X6_isSo_42 (by decide) ?_
    refine E_ialN (l := [6, 9, 50, 99, 9, 7, 7, 60]) (v := 7) at_X6_isSo_43 w84 (by omega) (by omega) rfl ?_
    have e1 : Ev ab_Z0 1 134 [.ref 65, .int (nI (nuV e n (a + 1))), .int (nI 0), .int (nI 7)] (ww im lf s d k ls rf rz ra rn rq lt m1 m2 m3 m4 bd fc hd sz el q (fUp (fUp (fUp (fUp (fUp (fUp g 27 (nI (160 * j))) 29 (nI n)) 6 (-1)) 28 (nI (cnE e n a))) 30 (nI (nuV e n (a + 1)))) 31 x31) fm hm so si sh ce ca td wa kp la bf oo bo pw ow tr) (some (.int (nI 1)), (ww im lf s d k ls rf rz ra rn rq lt m1 m2 m3 m4 bd fc hd sz el q (fUp (fUp (fUp (fUp (fUp (fUp g 27 (nI (160 * j))) 29 (nI n)) 6 (-1)) 28 (nI (cnE e n a))) 30 (nI (nuV e n (a + 1)))) 31 x31) fm hm so si sh ce ca td wa kp la bf oo bo pw ow tr)) := by
      refine Ef.in (md := mX6_isFrom) (L := [some (.ref 65), some (.int (nI (nuV e n (a + 1)))), some (.int (nI 0)), some (.int (nI 7))]) rfl (Nat.le_of_ble_eq_true rfl) rfl ?_
      refine E_iload_n at_X6_isFrom_0 rfl ?_
      refine E_iload_n at_X6_isFrom_1 rfl ?_
      refine E_ic (t := 14) (b := false) at_X6_isFrom_2 rfl ((cn_lt (nI_toInt (by omega)) (nI_toInt (by omega))).trans (decide_eq_false (by omega))) ?_
      refine E_iload_n at_X6_isFrom_5 rfl ?_
      refine E_iload_n at_X6_isFrom_6 rfl ?_
      refine E_ic (t := 14) (b := false) at_X6_isFrom_7 rfl ((cn_gt (nI_toInt (by omega)) (nI_toInt (by omega))).trans (decide_eq_false (by omega))) ?_
      refine E_iconst (x := nI 1) at_X6_isFrom_10 (by decide) ?_
      refine E_goto (t := 15) at_X6_isFrom_11 rfl ?_
      exact E_iret at_X6_isFrom_15 rfl
    refine E_callV (v := some (.int (nI 1))) (As := [.ref 65, .int (nI (nuV e n (a + 1))), .int (nI 0), .int (nI 7)]) (r0 := []) (cs2 := (ww im lf s d k ls rf rz ra rn rq lt m1 m2 m3 m4 bd fc hd sz el q (fUp (fUp (fUp (fUp (fUp (fUp g 27 (nI (160 * j))) 29 (nI n)) 6 (-1)) 28 (nI (cnE e n a))) 30 (nI (nuV e n (a + 1)))) 31 x31) fm hm so si sh ce ca td wa kp la bf oo bo pw ow tr)) at_X6_isSo_44 rfl rfl (Nat.le_of_ble_eq_true rfl) rfl (ab_rvOf w65 rfl) e1 (by decide) rfl ?_
    exact E_iret at_X6_isSo_47 rfl
  refine E_callV (v := some (.int (nI 1))) (As := [.ref 65, .int (nI 1), .int (nI 2)]) (r0 := []) (cs2 := (ww im lf s d k ls rf rz ra rn rq lt m1 m2 m3 m4 bd fc hd sz el q (fUp (fUp (fUp (fUp (fUp (fUp g 27 (nI (160 * j))) 29 (nI n)) 6 (-1)) 28 (nI (cnE e n a))) 30 (nI (nuV e n (a + 1)))) 31 x31) fm hm so si sh ce ca td wa kp la bf oo bo pw ow tr)) at_X6_item_138 rfl rfl (Nat.le_of_ble_eq_true rfl) rfl (ab_rvOf w65 rfl) e2 (by decide) rfl ?_
  refine E_if (t := 150) (b := true) at_X6_item_141 rfl (by decide) ?_
  refine E_aload_n at_X6_item_150 rfl ?_
  refine E_getfield (v := .ref 85) at_X6_item_151 w65 rfl (by decide) rfl ?_
  refine E_iload_n at_X6_item_154 rfl ?_
  refine E_aload_n at_X6_item_155 rfl ?_
  refine E_getfield (v := .int (nI (nuV e n (a + 1)))) at_X6_item_156 w65 rfl (by decide) rfl ?_
  refine E_iasI (l := td) (cs2 := (ww im lf s d k ls rf rz ra rn rq lt m1 m2 m3 m4 bd fc hd sz el q (fUp (fUp (fUp (fUp (fUp (fUp g 27 (nI (160 * j))) 29 (nI n)) 6 (-1)) 28 (nI (cnE e n a))) 30 (nI (nuV e n (a + 1)))) 31 x31) fm hm so si sh ce ca (td.set 2 (nI (nuV e n (a + 1)))) wa kp la bf oo bo pw ow tr)) at_X6_item_159 w85 (by omega) (by omega) rfl ?_
  refine E_iinc (y := nI 3) (L2 := [some (.ref 65), some (.int (nI 1)), some (.int (nI 3)), some (.int (nI (a + 1)))]) at_X6_item_160 rfl (by decide) rfl ?_
  refine E_goto (t := 57) at_X6_item_163 rfl ?_
  exact K
set_option maxHeartbeats 1000000 in
theorem ma12 {e : List Int64} {n a j : Nat} {x30 x31 : Int32} {q : ab_q} (hj : j < 8) (hn : n ≤ 160) (ha : a ≤ n) (Iq : qI q) (l_td : td.length = 3) (l_ce : ce.length = 1280) (hce : ∀ p, p < 160 → e.getD p 0 = ce.getD (160 * j + p) 0) {x3 : Option Value} (hb : chB e n a 32 = false) : Ef ab_Z0 2 mX6_item (57, [some (.ref 65), some (.int (nI 1)), some (.int (nI 2)), x3], [], (ww im lf s d k ls rf rz ra rn rq lt m1 m2 m3 m4 bd fc hd sz el q (fUp (fUp (fUp (fUp (fUp (fUp g 27 (nI (160 * j))) 29 (nI n)) 6 (-1)) 28 (nI a)) 30 x30) 31 x31) fm hm so si sh ce ca td wa kp la bf oo bo pw ow tr)) (some (.int (nI 0)), (ww im lf s d k ls rf rz ra rn rq lt m1 m2 m3 m4 bd fc hd sz el q (fUp (fUp (fUp (fUp (fUp (fUp g 27 (nI (160 * j))) 29 (nI n)) 6 (-1)) 28 (nI a)) 30 x30) 31 (nI a)) fm hm so si sh ce ca td wa kp la bf oo bo pw ow tr)) := by
  rcases chB_f hb with h3 | h3
  · have : ([3, 3, 2, 2, 1, 0, 0] : List Nat).length = 7 := rfl
    refine E_iload_n at_X6_item_57 rfl ?_
    refine E_aload_n at_X6_item_58 rfl ?_
    refine E_getfield (v := .ref 83) at_X6_item_59 w65 rfl (by decide) rfl ?_
    refine E_iload_n at_X6_item_62 rfl ?_
    refine E_ialN (l := [3, 3, 2, 2, 1, 0, 0]) (v := 3) at_X6_item_63 w83 (by omega) (by omega) rfl ?_
    refine E_ic (t := 166) (b := false) at_X6_item_64 rfl (by decide) ?_
    refine E_iload_n at_X6_item_67 rfl ?_
    refine E_if (t := 121) (b := false) at_X6_item_68 rfl (by decide) ?_
    refine E_aload_n at_X6_item_71 rfl ?_
    refine E_getfield (v := .int (nI a)) at_X6_item_72 w65 rfl (by decide) rfl ?_
    refine E_aload_n at_X6_item_75 rfl ?_
    refine E_getfield (v := .int (nI n)) at_X6_item_76 w65 rfl (by decide) rfl ?_
    refine E_ic (t := 102) (b := true) at_X6_item_79 rfl ((cn_ge (nI_toInt (by omega)) (nI_toInt (by omega))).trans (decide_eq_true (by omega))) ?_
    refine E_aload_n at_X6_item_102 rfl ?_
    refine E_aload_n at_X6_item_103 rfl ?_
    refine E_getfield (v := .int (nI a)) at_X6_item_104 w65 rfl (by decide) rfl ?_
    have e1 : Ev ab_Z0 1 156 [.ref 65, .int (nI a)] (ww im lf s d k ls rf rz ra rn rq lt m1 m2 m3 m4 bd fc hd sz el q (fUp (fUp (fUp (fUp (fUp (fUp g 27 (nI (160 * j))) 29 (nI n)) 6 (-1)) 28 (nI a)) 30 x30) 31 x31) fm hm so si sh ce ca td wa kp la bf oo bo pw ow tr) (some (.int (nI 0)), (ww im lf s d k ls rf rz ra rn rq lt m1 m2 m3 m4 bd fc hd sz el q (fUp (fUp (fUp (fUp (fUp (fUp g 27 (nI (160 * j))) 29 (nI n)) 6 (-1)) 28 (nI a)) 30 x30) 31 (nI a)) fm hm so si sh ce ca td wa kp la bf oo bo pw ow tr)) := by
      refine Ef.in (md := mX6_wrong) (L := [some (.ref 65), some (.int (nI a))]) rfl (Nat.le_of_ble_eq_true rfl) rfl ?_
      refine E_aload_n at_X6_wrong_0 rfl ?_
      refine E_iload_n at_X6_wrong_1 rfl ?_
      refine E_putfield (cs2 := (ww im lf s d k ls rf rz ra rn rq lt m1 m2 m3 m4 bd fc hd sz el q (fUp (fUp (fUp (fUp (fUp (fUp g 27 (nI (160 * j))) 29 (nI n)) 6 (-1)) 28 (nI a)) 30 x30) 31 (nI a)) fm hm so si sh ce ca td wa kp la bf oo bo pw ow tr)) at_X6_wrong_2 w65 rfl (by decide) (Nat.le_of_ble_eq_true rfl) rfl rfl rfl (w_pt65_31.trans (by rw [gn31])) ?_
      refine E_iconst (x := nI 0) at_X6_wrong_5 (by decide) ?_
      exact E_iret at_X6_wrong_6 rfl
    refine E_callV (v := some (.int (nI 0))) (As := [.ref 65, .int (nI a)]) (r0 := []) (cs2 := (ww im lf s d k ls rf rz ra rn rq lt m1 m2 m3 m4 bd fc hd sz el q (fUp (fUp (fUp (fUp (fUp (fUp g 27 (nI (160 * j))) 29 (nI n)) 6 (-1)) 28 (nI a)) 30 x30) 31 (nI a)) fm hm so si sh ce ca td wa kp la bf oo bo pw ow tr)) at_X6_item_107 rfl rfl (Nat.le_of_ble_eq_true rfl) rfl (ab_rvOf w65 rfl) e1 (by decide) w_lens ?_
    exact E_iret at_X6_item_110 rfl
  · have : ([3, 3, 2, 2, 1, 0, 0] : List Nat).length = 7 := rfl
    refine E_iload_n at_X6_item_57 rfl ?_
    refine E_aload_n at_X6_item_58 rfl ?_
    refine E_getfield (v := .ref 83) at_X6_item_59 w65 rfl (by decide) rfl ?_
    refine E_iload_n at_X6_item_62 rfl ?_
    refine E_ialN (l := [3, 3, 2, 2, 1, 0, 0]) (v := 3) at_X6_item_63 w83 (by omega) (by omega) rfl ?_
    refine E_ic (t := 166) (b := false) at_X6_item_64 rfl (by decide) ?_
    refine E_iload_n at_X6_item_67 rfl ?_
    refine E_if (t := 121) (b := false) at_X6_item_68 rfl (by decide) ?_
    refine E_aload_n at_X6_item_71 rfl ?_
    refine E_getfield (v := .int (nI a)) at_X6_item_72 w65 rfl (by decide) rfl ?_
    refine E_aload_n at_X6_item_75 rfl ?_
    refine E_getfield (v := .int (nI n)) at_X6_item_76 w65 rfl (by decide) rfl ?_
    refine E_ic (t := 102) (b := false) at_X6_item_79 rfl ((cn_ge (nI_toInt (by omega)) (nI_toInt (by omega))).trans (decide_eq_false (by omega))) ?_
    refine E_aload_n at_X6_item_82 rfl ?_
    refine E_getfield (v := .ref 80) at_X6_item_83 w65 rfl (by decide) rfl ?_
    refine E_aload_n at_X6_item_86 rfl ?_
    refine E_getfield (v := .int (nI (160 * j))) at_X6_item_87 w65 rfl (by decide) rfl ?_
    refine E_aload_n at_X6_item_90 rfl ?_
    refine E_getfield (v := .int (nI a)) at_X6_item_91 w65 rfl (by decide) rfl ?_
    refine E_iadd (z := nI ((160 * j) + a)) at_X6_item_94 (nI_add _ _) ?_
    refine E_lalL (l := ce) (v := ce.getD ((160 * j) + a) 0) at_X6_item_95 w80 (by omega) (by omega) rfl ?_
    refine E_l2i (z := tw e a) at_X6_item_96 (by unfold tw; rw [hce a (by omega)]) ?_
    refine E_bipush (x := nI 32) at_X6_item_97 (by decide) ?_
    refine E_ic (t := 111) (b := false) at_X6_item_99 rfl ((cn_eq rfl (nI_toInt (by omega))).trans (decide_eq_false (by omega))) ?_
    refine E_aload_n at_X6_item_102 rfl ?_
    refine E_aload_n at_X6_item_103 rfl ?_
    refine E_getfield (v := .int (nI a)) at_X6_item_104 w65 rfl (by decide) rfl ?_
    have e1 : Ev ab_Z0 1 156 [.ref 65, .int (nI a)] (ww im lf s d k ls rf rz ra rn rq lt m1 m2 m3 m4 bd fc hd sz el q (fUp (fUp (fUp (fUp (fUp (fUp g 27 (nI (160 * j))) 29 (nI n)) 6 (-1)) 28 (nI a)) 30 x30) 31 x31) fm hm so si sh ce ca td wa kp la bf oo bo pw ow tr) (some (.int (nI 0)), (ww im lf s d k ls rf rz ra rn rq lt m1 m2 m3 m4 bd fc hd sz el q (fUp (fUp (fUp (fUp (fUp (fUp g 27 (nI (160 * j))) 29 (nI n)) 6 (-1)) 28 (nI a)) 30 x30) 31 (nI a)) fm hm so si sh ce ca td wa kp la bf oo bo pw ow tr)) := by
      refine Ef.in (md := mX6_wrong) (L := [some (.ref 65), some (.int (nI a))]) rfl (Nat.le_of_ble_eq_true rfl) rfl ?_
      refine E_aload_n at_X6_wrong_0 rfl ?_
      refine E_iload_n at_X6_wrong_1 rfl ?_
      refine E_putfield (cs2 := (ww im lf s d k ls rf rz ra rn rq lt m1 m2 m3 m4 bd fc hd sz el q (fUp (fUp (fUp (fUp (fUp (fUp g 27 (nI (160 * j))) 29 (nI n)) 6 (-1)) 28 (nI a)) 30 x30) 31 (nI a)) fm hm so si sh ce ca td wa kp la bf oo bo pw ow tr)) at_X6_wrong_2 w65 rfl (by decide) (Nat.le_of_ble_eq_true rfl) rfl rfl rfl (w_pt65_31.trans (by rw [gn31])) ?_
      refine E_iconst (x := nI 0) at_X6_wrong_5 (by decide) ?_
      exact E_iret at_X6_wrong_6 rfl
    refine E_callV (v := some (.int (nI 0))) (As := [.ref 65, .int (nI a)]) (r0 := []) (cs2 := (ww im lf s d k ls rf rz ra rn rq lt m1 m2 m3 m4 bd fc hd sz el q (fUp (fUp (fUp (fUp (fUp (fUp g 27 (nI (160 * j))) 29 (nI n)) 6 (-1)) 28 (nI a)) 30 x30) 31 (nI a)) fm hm so si sh ce ca td wa kp la bf oo bo pw ow tr)) at_X6_item_107 rfl rfl (Nat.le_of_ble_eq_true rfl) rfl (ab_rvOf w65 rfl) e1 (by decide) w_lens ?_
    exact E_iret at_X6_item_110 rfl
set_option maxHeartbeats 1000000 in
theorem mb12 {e : List Int64} {n a j : Nat} {x30 x31 : Int32} {q : ab_q} (hj : j < 8) (hn : n ≤ 160) (ha : a ≤ n) (Iq : qI q) (l_td : td.length = 3) (l_ce : ce.length = 1280) (hce : ∀ p, p < 160 → e.getD p 0 = ce.getD (160 * j + p) 0) {x3 : Option Value} (hb : chB e n a 32 = true) (hdg : dgB e n (a + 1) = false) : Ef ab_Z0 2 mX6_item (57, [some (.ref 65), some (.int (nI 1)), some (.int (nI 2)), x3], [], (ww im lf s d k ls rf rz ra rn rq lt m1 m2 m3 m4 bd fc hd sz el q (fUp (fUp (fUp (fUp (fUp (fUp g 27 (nI (160 * j))) 29 (nI n)) 6 (-1)) 28 (nI a)) 30 x30) 31 x31) fm hm so si sh ce ca td wa kp la bf oo bo pw ow tr)) (some (.int (nI 0)), (ww im lf s d k ls rf rz ra rn rq lt m1 m2 m3 m4 bd fc hd sz el q (fUp (fUp (fUp (fUp (fUp (fUp g 27 (nI (160 * j))) 29 (nI n)) 6 (-1)) 28 (nI (a + 1))) 30 (nI 0)) 31 (nI (a + 1))) fm hm so si sh ce ca td wa kp la bf oo bo pw ow tr)) := by
  have hb_ := chB_t hb
  have : ([3, 3, 2, 2, 1, 0, 0] : List Nat).length = 7 := rfl
  refine E_iload_n at_X6_item_57 rfl ?_
  refine E_aload_n at_X6_item_58 rfl ?_
  refine E_getfield (v := .ref 83) at_X6_item_59 w65 rfl (by decide) rfl ?_
  refine E_iload_n at_X6_item_62 rfl ?_
  refine E_ialN (l := [3, 3, 2, 2, 1, 0, 0]) (v := 3) at_X6_item_63 w83 (by omega) (by omega) rfl ?_
  refine E_ic (t := 166) (b := false) at_X6_item_64 rfl (by decide) ?_
  refine E_iload_n at_X6_item_67 rfl ?_
  refine E_if (t := 121) (b := false) at_X6_item_68 rfl (by decide) ?_
  refine E_aload_n at_X6_item_71 rfl ?_
  refine E_getfield (v := .int (nI a)) at_X6_item_72 w65 rfl (by decide) rfl ?_
  refine E_aload_n at_X6_item_75 rfl ?_
  refine E_getfield (v := .int (nI n)) at_X6_item_76 w65 rfl (by decide) rfl ?_
  refine E_ic (t := 102) (b := false) at_X6_item_79 rfl ((cn_ge (nI_toInt (by omega)) (nI_toInt (by omega))).trans (decide_eq_false (by omega))) ?_
  refine E_aload_n at_X6_item_82 rfl ?_
  refine E_getfield (v := .ref 80) at_X6_item_83 w65 rfl (by decide) rfl ?_
  refine E_aload_n at_X6_item_86 rfl ?_
  refine E_getfield (v := .int (nI (160 * j))) at_X6_item_87 w65 rfl (by decide) rfl ?_
  refine E_aload_n at_X6_item_90 rfl ?_
  refine E_getfield (v := .int (nI a)) at_X6_item_91 w65 rfl (by decide) rfl ?_
  refine E_iadd (z := nI ((160 * j) + a)) at_X6_item_94 (nI_add _ _) ?_
  refine E_lalL (l := ce) (v := ce.getD ((160 * j) + a) 0) at_X6_item_95 w80 (by omega) (by omega) rfl ?_
  refine E_l2i (z := tw e a) at_X6_item_96 (by unfold tw; rw [hce a (by omega)]) ?_
  refine E_bipush (x := nI 32) at_X6_item_97 (by decide) ?_
  refine E_ic (t := 111) (b := true) at_X6_item_99 rfl ((cn_eq rfl (nI_toInt (by omega))).trans (decide_eq_true (by omega))) ?_
  refine E_aload_n at_X6_item_111 rfl ?_
  refine E_dup at_X6_item_112 rfl ?_
  refine E_getfield (v := .int (nI a)) at_X6_item_113 w65 rfl (by decide) rfl ?_
  refine E_iconst (x := nI 1) at_X6_item_116 (by decide) ?_
  refine E_iadd (z := nI (a + 1)) at_X6_item_117 (nI_add _ _) ?_
  refine E_putfield (cs2 := (ww im lf s d k ls rf rz ra rn rq lt m1 m2 m3 m4 bd fc hd sz el q (fUp (fUp (fUp (fUp (fUp (fUp g 27 (nI (160 * j))) 29 (nI n)) 6 (-1)) 28 (nI (a + 1))) 30 x30) 31 x31) fm hm so si sh ce ca td wa kp la bf oo bo pw ow tr)) at_X6_item_118 w65 rfl (by decide) (Nat.le_of_ble_eq_true rfl) rfl rfl rfl (w_pt65_28.trans (by rw [gn28])) ?_
  refine E_aload_n at_X6_item_121 rfl ?_
  refine E_getfield (v := .int (nI (a + 1))) at_X6_item_122 w65 rfl (by decide) rfl ?_
  refine E_istore_n (L2 := [some (.ref 65), some (.int (nI 1)), some (.int (nI 2)), some (.int (nI (a + 1)))]) at_X6_item_125 rfl ?_
  refine E_aload_n at_X6_item_126 rfl ?_
  refine E_callV (v := some (.int (nI 0))) (As := [.ref 65]) (r0 := []) (cs2 := (ww im lf s d k ls rf rz ra rn rq lt m1 m2 m3 m4 bd fc hd sz el q (fUp (fUp (fUp (fUp (fUp (fUp g 27 (nI (160 * j))) 29 (nI n)) 6 (-1)) 28 (nI (a + 1))) 30 (nI 0)) 31 (nI (a + 1))) fm hm so si sh ce ca td wa kp la bf oo bo pw ow tr)) at_X6_item_127 rfl rfl (Nat.le_of_ble_eq_true rfl) rfl (ab_rvOf w65 rfl) (m_rd0 hj hn (by omega) l_ce hce hdg) (by decide) w_lens ?_
  refine E_if (t := 135) (b := false) at_X6_item_130 rfl (by decide) ?_
  refine E_iconst (x := nI 0) at_X6_item_133 (by decide) ?_
  exact E_iret at_X6_item_134 rfl
set_option maxHeartbeats 1000000 in
theorem md120 {e : List Int64} {n a j : Nat} {x30 x31 : Int32} {q : ab_q} (hj : j < 8) (hn : n ≤ 160) (ha : a ≤ n) (Iq : qI q) (l_td : td.length = 3) (l_ce : ce.length = 1280) (hce : ∀ p, p < 160 → e.getD p 0 = ce.getD (160 * j + p) 0) {x3 : Option Value} (hb : chB e n a 32 = true) (hdg : dgB e n (a + 1) = true) (hr : 8 ≤ nuV e n (a + 1)) : Ef ab_Z0 2 mX6_item (57, [some (.ref 65), some (.int (nI 1)), some (.int (nI 2)), x3], [], (ww im lf s d k ls rf rz ra rn rq lt m1 m2 m3 m4 bd fc hd sz el q (fUp (fUp (fUp (fUp (fUp (fUp g 27 (nI (160 * j))) 29 (nI n)) 6 (-1)) 28 (nI a)) 30 x30) 31 x31) fm hm so si sh ce ca td wa kp la bf oo bo pw ow tr)) (some (.int (nI 0)), (ww im lf s d k ls rf rz ra rn rq lt m1 m2 m3 m4 bd fc hd sz el q (fUp (fUp (fUp (fUp (fUp (fUp g 27 (nI (160 * j))) 29 (nI n)) 6 (-1)) 28 (nI (cnE e n a))) 30 (nI (nuV e n (a + 1)))) 31 (nI (a + 1))) fm hm so si sh ce ca td wa kp la bf oo bo pw ow tr)) := by
  obtain ⟨⟨i0, i1, i2, i3⟩, ⟨i4, i5, i6, i7, i8⟩, ⟨i9, i10⟩, I1_, I2_, I3_, I4_⟩ := id Iq
  have hb_ := chB_t hb
  have hd_ := dgB_t hdg
  have h99 := nuV_99 hdg
  have hcn := cnE_n hdg
  have : ([3, 3, 2, 2, 1, 0, 0] : List Nat).length = 7 := rfl
  have : ([6, 9, 50, 99, 9, 7, 7, 60] : List Nat).length = 8 := rfl
  refine E_iload_n at_X6_item_57 rfl ?_
  refine E_aload_n at_X6_item_58 rfl ?_
  refine E_getfield (v := .ref 83) at_X6_item_59 w65 rfl (by decide) rfl ?_
  refine E_iload_n at_X6_item_62 rfl ?_
  refine E_ialN (l := [3, 3, 2, 2, 1, 0, 0]) (v := 3) at_X6_item_63 w83 (by omega) (by omega) rfl ?_
  refine E_ic (t := 166) (b := false) at_X6_item_64 rfl (by decide) ?_
  refine E_iload_n at_X6_item_67 rfl ?_
  refine E_if (t := 121) (b := false) at_X6_item_68 rfl (by decide) ?_
  refine E_aload_n at_X6_item_71 rfl ?_
  refine E_getfield (v := .int (nI a)) at_X6_item_72 w65 rfl (by decide) rfl ?_
  refine E_aload_n at_X6_item_75 rfl ?_
  refine E_getfield (v := .int (nI n)) at_X6_item_76 w65 rfl (by decide) rfl ?_
  refine E_ic (t := 102) (b := false) at_X6_item_79 rfl ((cn_ge (nI_toInt (by omega)) (nI_toInt (by omega))).trans (decide_eq_false (by omega))) ?_
  refine E_aload_n at_X6_item_82 rfl ?_
  refine E_getfield (v := .ref 80) at_X6_item_83 w65 rfl (by decide) rfl ?_
  refine E_aload_n at_X6_item_86 rfl ?_
  refine E_getfield (v := .int (nI (160 * j))) at_X6_item_87 w65 rfl (by decide) rfl ?_
  refine E_aload_n at_X6_item_90 rfl ?_
  refine E_getfield (v := .int (nI a)) at_X6_item_91 w65 rfl (by decide) rfl ?_
  refine E_iadd (z := nI ((160 * j) + a)) at_X6_item_94 (nI_add _ _) ?_
  refine E_lalL (l := ce) (v := ce.getD ((160 * j) + a) 0) at_X6_item_95 w80 (by omega) (by omega) rfl ?_
  refine E_l2i (z := tw e a) at_X6_item_96 (by unfold tw; rw [hce a (by omega)]) ?_
  refine E_bipush (x := nI 32) at_X6_item_97 (by decide) ?_
  refine E_ic (t := 111) (b := true) at_X6_item_99 rfl ((cn_eq rfl (nI_toInt (by omega))).trans (decide_eq_true (by omega))) ?_
  refine E_aload_n at_X6_item_111 rfl ?_
  refine E_dup at_X6_item_112 rfl ?_
  refine E_getfield (v := .int (nI a)) at_X6_item_113 w65 rfl (by decide) rfl ?_
  refine E_iconst (x := nI 1) at_X6_item_116 (by decide) ?_
  refine E_iadd (z := nI (a + 1)) at_X6_item_117 (nI_add _ _) ?_
  refine E_putfield (cs2 := (ww im lf s d k ls rf rz ra rn rq lt m1 m2 m3 m4 bd fc hd sz el q (fUp (fUp (fUp (fUp (fUp (fUp g 27 (nI (160 * j))) 29 (nI n)) 6 (-1)) 28 (nI (a + 1))) 30 x30) 31 x31) fm hm so si sh ce ca td wa kp la bf oo bo pw ow tr)) at_X6_item_118 w65 rfl (by decide) (Nat.le_of_ble_eq_true rfl) rfl rfl rfl (w_pt65_28.trans (by rw [gn28])) ?_
  refine E_aload_n at_X6_item_121 rfl ?_
  refine E_getfield (v := .int (nI (a + 1))) at_X6_item_122 w65 rfl (by decide) rfl ?_
  refine E_istore_n (L2 := [some (.ref 65), some (.int (nI 1)), some (.int (nI 2)), some (.int (nI (a + 1)))]) at_X6_item_125 rfl ?_
  refine E_aload_n at_X6_item_126 rfl ?_
  refine E_callV (v := some (.int (nI 1))) (As := [.ref 65]) (r0 := []) (cs2 := (ww im lf s d k ls rf rz ra rn rq lt m1 m2 m3 m4 bd fc hd sz el q (fUp (fUp (fUp (fUp (fUp (fUp g 27 (nI (160 * j))) 29 (nI n)) 6 (-1)) 28 (nI (cnE e n a))) 30 (nI (nuV e n (a + 1)))) 31 x31) fm hm so si sh ce ca td wa kp la bf oo bo pw ow tr)) at_X6_item_127 rfl rfl (Nat.le_of_ble_eq_true rfl) rfl (ab_rvOf w65 rfl) (m_rd1 hj hn (by omega) l_ce hce hdg) (by decide) w_lens ?_
  refine E_if (t := 135) (b := true) at_X6_item_130 rfl (by decide) ?_
  refine E_aload_n at_X6_item_135 rfl ?_
  refine E_iload_n at_X6_item_136 rfl ?_
  refine E_iload_n at_X6_item_137 rfl ?_
  have e2 : Ev ab_Z0 2 161 [.ref 65, .int (nI 1), .int (nI 2)] (ww im lf s d k ls rf rz ra rn rq lt m1 m2 m3 m4 bd fc hd sz el q (fUp (fUp (fUp (fUp (fUp (fUp g 27 (nI (160 * j))) 29 (nI n)) 6 (-1)) 28 (nI (cnE e n a))) 30 (nI (nuV e n (a + 1)))) 31 x31) fm hm so si sh ce ca td wa kp la bf oo bo pw ow tr) (some (.int (nI 0)), (ww im lf s d k ls rf rz ra rn rq lt m1 m2 m3 m4 bd fc hd sz el q (fUp (fUp (fUp (fUp (fUp (fUp g 27 (nI (160 * j))) 29 (nI n)) 6 (-1)) 28 (nI (cnE e n a))) 30 (nI (nuV e n (a + 1)))) 31 x31) fm hm so si sh ce ca td wa kp la bf oo bo pw ow tr)) := by
    refine Ef.in (md := mX6_isSo) (L := [some (.ref 65), some (.int (nI 1)), some (.int (nI 2))]) rfl (Nat.le_of_ble_eq_true rfl) rfl ?_
    refine E_iload_n at_X6_isSo_0 rfl ?_
    refine E_iconst (x := nI 3) at_X6_isSo_1 (by decide) ?_
    refine E_ic (t := 48) (b := false) at_X6_isSo_2 rfl (by decide) ?_
    refine E_aload_n at_X6_isSo_5 rfl ?_
    refine E_aload_n at_X6_isSo_6 rfl ?_
    refine E_getfield (v := .int (nI (nuV e n (a + 1)))) at_X6_isSo_7 w65 rfl (by decide) rfl ?_
    refine E_iload_n at_X6_isSo_10 rfl ?_
    refine E_if (t := 19) (b := true) at_X6_isSo_11 rfl (by decide) ?_
    refine E_iload_n at_X6_isSo_19 rfl ?_
    refine E_iconst (x := nI 2) at_X6_isSo_20 (by decide) ?_
    refine E_ic (t := 33) (b := true) at_X6_isSo_21 rfl (by decide) ?_
    refine E_iconst (x := nI 0) at_X6_isSo_33 (by decide) ?_
    refine E_aload_n at_X6_isSo_34 rfl ?_
    refine E_getfield (v := .ref 84) at_X6_isSo_35 w65 rfl (by decide) rfl ?_
    refine E_iconst (x := nI 3) at_X6_isSo_38 (by decide) ?_
    refine E_iload_n at_X6_isSo_39 rfl ?_
    refine E_imul (z := nI 3) at_X6_isSo_40 (by decide) ?_
    refine E_iload_n at_X6_isSo_41 rfl ?_
    refine E_iadd (z := nI 5) at_X6_isSo_42 (by decide) ?_
    refine E_ialN (l := [6, 9, 50, 99, 9, 7, 7, 60]) (v := 7) at_X6_isSo_43 w84 (by omega) (by omega) rfl ?_
    have e1 : Ev ab_Z0 1 134 [.ref 65, .int (nI (nuV e n (a + 1))), .int (nI 0), .int (nI 7)] (ww im lf s d k ls rf rz ra rn rq lt m1 m2 m3 m4 bd fc hd sz el q (fUp (fUp (fUp (fUp (fUp (fUp g 27 (nI (160 * j))) 29 (nI n)) 6 (-1)) 28 (nI (cnE e n a))) 30 (nI (nuV e n (a + 1)))) 31 x31) fm hm so si sh ce ca td wa kp la bf oo bo pw ow tr) (some (.int (nI 0)), (ww im lf s d k ls rf rz ra rn rq lt m1 m2 m3 m4 bd fc hd sz el q (fUp (fUp (fUp (fUp (fUp (fUp g 27 (nI (160 * j))) 29 (nI n)) 6 (-1)) 28 (nI (cnE e n a))) 30 (nI (nuV e n (a + 1)))) 31 x31) fm hm so si sh ce ca td wa kp la bf oo bo pw ow tr)) := by
      refine Ef.in (md := mX6_isFrom) (L := [some (.ref 65), some (.int (nI (nuV e n (a + 1)))), some (.int (nI 0)), some (.int (nI 7))]) rfl (Nat.le_of_ble_eq_true rfl) rfl ?_
      refine E_iload_n at_X6_isFrom_0 rfl ?_
      refine E_iload_n at_X6_isFrom_1 rfl ?_
      refine E_ic (t := 14) (b := false) at_X6_isFrom_2 rfl ((cn_lt (nI_toInt (by omega)) (nI_toInt (by omega))).trans (decide_eq_false (by omega))) ?_
      refine E_iload_n at_X6_isFrom_5 rfl ?_
      refine E_iload_n at_X6_isFrom_6 rfl ?_
      refine E_ic (t := 14) (b := true) at_X6_isFrom_7 rfl ((cn_gt (nI_toInt (by omega)) (nI_toInt (by omega))).trans (decide_eq_true (by omega))) ?_
      refine E_iconst (x := nI 0) at_X6_isFrom_14 (by decide) ?_
      exact E_iret at_X6_isFrom_15 rfl
    refine E_callV (v := some (.int (nI 0))) (As := [.ref 65, .int (nI (nuV e n (a + 1))), .int (nI 0), .int (nI 7)]) (r0 := []) (cs2 := (ww im lf s d k ls rf rz ra rn rq lt m1 m2 m3 m4 bd fc hd sz el q (fUp (fUp (fUp (fUp (fUp (fUp g 27 (nI (160 * j))) 29 (nI n)) 6 (-1)) 28 (nI (cnE e n a))) 30 (nI (nuV e n (a + 1)))) 31 x31) fm hm so si sh ce ca td wa kp la bf oo bo pw ow tr)) at_X6_isSo_44 rfl rfl (Nat.le_of_ble_eq_true rfl) rfl (ab_rvOf w65 rfl) e1 (by decide) rfl ?_
    exact E_iret at_X6_isSo_47 rfl
  refine E_callV (v := some (.int (nI 0))) (As := [.ref 65, .int (nI 1), .int (nI 2)]) (r0 := []) (cs2 := (ww im lf s d k ls rf rz ra rn rq lt m1 m2 m3 m4 bd fc hd sz el q (fUp (fUp (fUp (fUp (fUp (fUp g 27 (nI (160 * j))) 29 (nI n)) 6 (-1)) 28 (nI (cnE e n a))) 30 (nI (nuV e n (a + 1)))) 31 x31) fm hm so si sh ce ca td wa kp la bf oo bo pw ow tr)) at_X6_item_138 rfl rfl (Nat.le_of_ble_eq_true rfl) rfl (ab_rvOf w65 rfl) e2 (by decide) rfl ?_
  refine E_if (t := 150) (b := false) at_X6_item_141 rfl (by decide) ?_
  refine E_aload_n at_X6_item_144 rfl ?_
  refine E_iload_n at_X6_item_145 rfl ?_
  have e3 : Ev ab_Z0 1 156 [.ref 65, .int (nI (a + 1))] (ww im lf s d k ls rf rz ra rn rq lt m1 m2 m3 m4 bd fc hd sz el q (fUp (fUp (fUp (fUp (fUp (fUp g 27 (nI (160 * j))) 29 (nI n)) 6 (-1)) 28 (nI (cnE e n a))) 30 (nI (nuV e n (a + 1)))) 31 x31) fm hm so si sh ce ca td wa kp la bf oo bo pw ow tr) (some (.int (nI 0)), (ww im lf s d k ls rf rz ra rn rq lt m1 m2 m3 m4 bd fc hd sz el q (fUp (fUp (fUp (fUp (fUp (fUp g 27 (nI (160 * j))) 29 (nI n)) 6 (-1)) 28 (nI (cnE e n a))) 30 (nI (nuV e n (a + 1)))) 31 (nI (a + 1))) fm hm so si sh ce ca td wa kp la bf oo bo pw ow tr)) := by
    refine Ef.in (md := mX6_wrong) (L := [some (.ref 65), some (.int (nI (a + 1)))]) rfl (Nat.le_of_ble_eq_true rfl) rfl ?_
    refine E_aload_n at_X6_wrong_0 rfl ?_
    refine E_iload_n at_X6_wrong_1 rfl ?_
    refine E_putfield (cs2 := (ww im lf s d k ls rf rz ra rn rq lt m1 m2 m3 m4 bd fc hd sz el q (fUp (fUp (fUp (fUp (fUp (fUp g 27 (nI (160 * j))) 29 (nI n)) 6 (-1)) 28 (nI (cnE e n a))) 30 (nI (nuV e n (a + 1)))) 31 (nI (a + 1))) fm hm so si sh ce ca td wa kp la bf oo bo pw ow tr)) at_X6_wrong_2 w65 rfl (by decide) (Nat.le_of_ble_eq_true rfl) rfl rfl rfl (w_pt65_31.trans (by rw [gn31])) ?_
    refine E_iconst (x := nI 0) at_X6_wrong_5 (by decide) ?_
    exact E_iret at_X6_wrong_6 rfl
  refine E_callV (v := some (.int (nI 0))) (As := [.ref 65, .int (nI (a + 1))]) (r0 := []) (cs2 := (ww im lf s d k ls rf rz ra rn rq lt m1 m2 m3 m4 bd fc hd sz el q (fUp (fUp (fUp (fUp (fUp (fUp g 27 (nI (160 * j))) 29 (nI n)) 6 (-1)) 28 (nI (cnE e n a))) 30 (nI (nuV e n (a + 1)))) 31 (nI (a + 1))) fm hm so si sh ce ca td wa kp la bf oo bo pw ow tr)) at_X6_item_146 rfl rfl (Nat.le_of_ble_eq_true rfl) rfl (ab_rvOf w65 rfl) e3 (by decide) w_lens ?_
  exact E_iret at_X6_item_149 rfl
set_option maxHeartbeats 1000000 in
theorem mc20 {e : List Int64} {n a j : Nat} {x30 x31 : Int32} {q : ab_q} (hj : j < 8) (hn : n ≤ 160) (ha : a ≤ n) (Iq : qI q) (l_td : td.length = 3) (l_ce : ce.length = 1280) (hce : ∀ p, p < 160 → e.getD p 0 = ce.getD (160 * j + p) 0) {x3 : Option Value} (hb : chB e n a 32 = true) (hdg : dgB e n (a + 1) = true) (ho0 : 0 ≤ nuV e n (a + 1)) (ho1 : nuV e n (a + 1) < 8) {r : Option Value × List ab_C} (K : Ef ab_Z0 2 mX6_item (57, [some (.ref 65), some (.int (nI 2)), some (.int (nI 1)), some (.int (nI (a + 1)))], [], (ww im lf s d k ls rf rz ra rn rq lt m1 m2 m3 m4 bd fc hd sz el q (fUp (fUp (fUp (fUp (fUp (fUp g 27 (nI (160 * j))) 29 (nI n)) 6 (-1)) 28 (nI (cnE e n a))) 30 (nI (nuV e n (a + 1)))) 31 x31) fm hm so si sh ce ca (td.set 0 (nI (nuV e n (a + 1)))) wa kp la bf oo bo pw ow tr)) r) : Ef ab_Z0 2 mX6_item (57, [some (.ref 65), some (.int (nI 2)), some (.int (nI 0)), x3], [], (ww im lf s d k ls rf rz ra rn rq lt m1 m2 m3 m4 bd fc hd sz el q (fUp (fUp (fUp (fUp (fUp (fUp g 27 (nI (160 * j))) 29 (nI n)) 6 (-1)) 28 (nI (a + 1))) 30 x30) 31 x31) fm hm so si sh ce ca td wa kp la bf oo bo pw ow tr)) r := by
  obtain ⟨⟨i0, i1, i2, i3⟩, ⟨i4, i5, i6, i7, i8⟩, ⟨i9, i10⟩, I1_, I2_, I3_, I4_⟩ := id Iq
  have hb_ := chB_t hb
  have hd_ := dgB_t hdg
  have h99 := nuV_99 hdg
  have hcn := cnE_n hdg
  have : ([3, 3, 2, 2, 1, 0, 0] : List Nat).length = 7 := rfl
  have : ([6, 9, 50, 99, 9, 7, 7, 60] : List Nat).length = 8 := rfl
  refine E_iload_n at_X6_item_57 rfl ?_
  refine E_aload_n at_X6_item_58 rfl ?_
  refine E_getfield (v := .ref 83) at_X6_item_59 w65 rfl (by decide) rfl ?_
  refine E_iload_n at_X6_item_62 rfl ?_
  refine E_ialN (l := [3, 3, 2, 2, 1, 0, 0]) (v := 2) at_X6_item_63 w83 (by omega) (by omega) rfl ?_
  refine E_ic (t := 166) (b := false) at_X6_item_64 rfl (by decide) ?_
  refine E_iload_n at_X6_item_67 rfl ?_
  refine E_if (t := 121) (b := true) at_X6_item_68 rfl (by decide) ?_
  refine E_aload_n at_X6_item_121 rfl ?_
  refine E_getfield (v := .int (nI (a + 1))) at_X6_item_122 w65 rfl (by decide) rfl ?_
  refine E_istore_n (L2 := [some (.ref 65), some (.int (nI 2)), some (.int (nI 0)), some (.int (nI (a + 1)))]) at_X6_item_125 rfl ?_
  refine E_aload_n at_X6_item_126 rfl ?_
  refine E_callV (v := some (.int (nI 1))) (As := [.ref 65]) (r0 := []) (cs2 := (ww im lf s d k ls rf rz ra rn rq lt m1 m2 m3 m4 bd fc hd sz el q (fUp (fUp (fUp (fUp (fUp (fUp g 27 (nI (160 * j))) 29 (nI n)) 6 (-1)) 28 (nI (cnE e n a))) 30 (nI (nuV e n (a + 1)))) 31 x31) fm hm so si sh ce ca td wa kp la bf oo bo pw ow tr)) at_X6_item_127 rfl rfl (Nat.le_of_ble_eq_true rfl) rfl (ab_rvOf w65 rfl) (m_rd1 hj hn (by omega) l_ce hce hdg) (by decide) w_lens ?_
  refine E_if (t := 135) (b := true) at_X6_item_130 rfl (by decide) ?_
  refine E_aload_n at_X6_item_135 rfl ?_
  refine E_iload_n at_X6_item_136 rfl ?_
  refine E_iload_n at_X6_item_137 rfl ?_
  have e2 : Ev ab_Z0 2 161 [.ref 65, .int (nI 2), .int (nI 0)] (ww im lf s d k ls rf rz ra rn rq lt m1 m2 m3 m4 bd fc hd sz el q (fUp (fUp (fUp (fUp (fUp (fUp g 27 (nI (160 * j))) 29 (nI n)) 6 (-1)) 28 (nI (cnE e n a))) 30 (nI (nuV e n (a + 1)))) 31 x31) fm hm so si sh ce ca td wa kp la bf oo bo pw ow tr) (some (.int (nI 1)), (ww im lf s d k ls rf rz ra rn rq lt m1 m2 m3 m4 bd fc hd sz el q (fUp (fUp (fUp (fUp (fUp (fUp g 27 (nI (160 * j))) 29 (nI n)) 6 (-1)) 28 (nI (cnE e n a))) 30 (nI (nuV e n (a + 1)))) 31 x31) fm hm so si sh ce ca td wa kp la bf oo bo pw ow tr)) := by
    refine Ef.in (md := mX6_isSo) (L := [some (.ref 65), some (.int (nI 2)), some (.int (nI 0))]) rfl (Nat.le_of_ble_eq_true rfl) rfl ?_
    refine E_iload_n at_X6_isSo_0 rfl ?_
    refine E_iconst (x := nI 3) at_X6_isSo_1 (by decide) ?_
    refine E_ic (t := 48) (b := false) at_X6_isSo_2 rfl (by decide) ?_
    refine E_aload_n at_X6_isSo_5 rfl ?_
    refine E_aload_n at_X6_isSo_6 rfl ?_
    refine E_getfield (v := .int (nI (nuV e n (a + 1)))) at_X6_isSo_7 w65 rfl (by decide) rfl ?_
    refine E_iload_n at_X6_isSo_10 rfl ?_
    refine E_if (t := 19) (b := true) at_X6_isSo_11 rfl (by decide) ?_
    refine E_iload_n at_X6_isSo_19 rfl ?_
    refine E_iconst (x := nI 2) at_X6_isSo_20 (by decide) ?_
    refine E_ic (t := 33) (b := false) at_X6_isSo_21 rfl (by decide) ?_
    refine E_iload_n at_X6_isSo_24 rfl ?_
    refine E_iconst (x := nI 1) at_X6_isSo_25 (by decide) ?_
    refine E_ic (t := 33) (b := true) at_X6_isSo_26 rfl (by decide) ?_
    refine E_iconst (x := nI 0) at_X6_isSo_33 (by decide) ?_
    refine E_aload_n at_X6_isSo_34 rfl ?_
    refine E_getfield (v := .ref 84) at_X6_isSo_35 w65 rfl (by decide) rfl ?_
    refine E_iconst (x := nI 3) at_X6_isSo_38 (by decide) ?_
    refine E_iload_n at_X6_isSo_39 rfl ?_
    refine E_imul (z := nI 6) at_X6_isSo_40 (by decide) ?_
    refine E_iload_n at_X6_isSo_41 rfl ?_
    refine E_iadd (z := nI 6) at_X6_isSo_42 (by decide) ?_
    refine E_ialN (l := [6, 9, 50, 99, 9, 7, 7, 60]) (v := 7) at_X6_isSo_43 w84 (by omega) (by omega) rfl ?_
    have e1 : Ev ab_Z0 1 134 [.ref 65, .int (nI (nuV e n (a + 1))), .int (nI 0), .int (nI 7)] (ww im lf s d k ls rf rz ra rn rq lt m1 m2 m3 m4 bd fc hd sz el q (fUp (fUp (fUp (fUp (fUp (fUp g 27 (nI (160 * j))) 29 (nI n)) 6 (-1)) 28 (nI (cnE e n a))) 30 (nI (nuV e n (a + 1)))) 31 x31) fm hm so si sh ce ca td wa kp la bf oo bo pw ow tr) (some (.int (nI 1)), (ww im lf s d k ls rf rz ra rn rq lt m1 m2 m3 m4 bd fc hd sz el q (fUp (fUp (fUp (fUp (fUp (fUp g 27 (nI (160 * j))) 29 (nI n)) 6 (-1)) 28 (nI (cnE e n a))) 30 (nI (nuV e n (a + 1)))) 31 x31) fm hm so si sh ce ca td wa kp la bf oo bo pw ow tr)) := by
      refine Ef.in (md := mX6_isFrom) (L := [some (.ref 65), some (.int (nI (nuV e n (a + 1)))), some (.int (nI 0)), some (.int (nI 7))]) rfl (Nat.le_of_ble_eq_true rfl) rfl ?_
      refine E_iload_n at_X6_isFrom_0 rfl ?_
      refine E_iload_n at_X6_isFrom_1 rfl ?_
      refine E_ic (t := 14) (b := false) at_X6_isFrom_2 rfl ((cn_lt (nI_toInt (by omega)) (nI_toInt (by omega))).trans (decide_eq_false (by omega))) ?_
      refine E_iload_n at_X6_isFrom_5 rfl ?_
      refine E_iload_n at_X6_isFrom_6 rfl ?_
      refine E_ic (t := 14) (b := false) at_X6_isFrom_7 rfl ((cn_gt (nI_toInt (by omega)) (nI_toInt (by omega))).trans (decide_eq_false (by omega))) ?_
      refine E_iconst (x := nI 1) at_X6_isFrom_10 (by decide) ?_
      refine E_goto (t := 15) at_X6_isFrom_11 rfl ?_
      exact E_iret at_X6_isFrom_15 rfl
    refine E_callV (v := some (.int (nI 1))) (As := [.ref 65, .int (nI (nuV e n (a + 1))), .int (nI 0), .int (nI 7)]) (r0 := []) (cs2 := (ww im lf s d k ls rf rz ra rn rq lt m1 m2 m3 m4 bd fc hd sz el q (fUp (fUp (fUp (fUp (fUp (fUp g 27 (nI (160 * j))) 29 (nI n)) 6 (-1)) 28 (nI (cnE e n a))) 30 (nI (nuV e n (a + 1)))) 31 x31) fm hm so si sh ce ca td wa kp la bf oo bo pw ow tr)) at_X6_isSo_44 rfl rfl (Nat.le_of_ble_eq_true rfl) rfl (ab_rvOf w65 rfl) e1 (by decide) rfl ?_
    exact E_iret at_X6_isSo_47 rfl
  refine E_callV (v := some (.int (nI 1))) (As := [.ref 65, .int (nI 2), .int (nI 0)]) (r0 := []) (cs2 := (ww im lf s d k ls rf rz ra rn rq lt m1 m2 m3 m4 bd fc hd sz el q (fUp (fUp (fUp (fUp (fUp (fUp g 27 (nI (160 * j))) 29 (nI n)) 6 (-1)) 28 (nI (cnE e n a))) 30 (nI (nuV e n (a + 1)))) 31 x31) fm hm so si sh ce ca td wa kp la bf oo bo pw ow tr)) at_X6_item_138 rfl rfl (Nat.le_of_ble_eq_true rfl) rfl (ab_rvOf w65 rfl) e2 (by decide) rfl ?_
  refine E_if (t := 150) (b := true) at_X6_item_141 rfl (by decide) ?_
  refine E_aload_n at_X6_item_150 rfl ?_
  refine E_getfield (v := .ref 85) at_X6_item_151 w65 rfl (by decide) rfl ?_
  refine E_iload_n at_X6_item_154 rfl ?_
  refine E_aload_n at_X6_item_155 rfl ?_
  refine E_getfield (v := .int (nI (nuV e n (a + 1)))) at_X6_item_156 w65 rfl (by decide) rfl ?_
  refine E_iasI (l := td) (cs2 := (ww im lf s d k ls rf rz ra rn rq lt m1 m2 m3 m4 bd fc hd sz el q (fUp (fUp (fUp (fUp (fUp (fUp g 27 (nI (160 * j))) 29 (nI n)) 6 (-1)) 28 (nI (cnE e n a))) 30 (nI (nuV e n (a + 1)))) 31 x31) fm hm so si sh ce ca (td.set 0 (nI (nuV e n (a + 1)))) wa kp la bf oo bo pw ow tr)) at_X6_item_159 w85 (by omega) (by omega) rfl ?_
  refine E_iinc (y := nI 1) (L2 := [some (.ref 65), some (.int (nI 2)), some (.int (nI 1)), some (.int (nI (a + 1)))]) at_X6_item_160 rfl (by decide) rfl ?_
  refine E_goto (t := 57) at_X6_item_163 rfl ?_
  exact K
set_option maxHeartbeats 1000000 in
theorem mb20 {e : List Int64} {n a j : Nat} {x30 x31 : Int32} {q : ab_q} (hj : j < 8) (hn : n ≤ 160) (ha : a ≤ n) (Iq : qI q) (l_td : td.length = 3) (l_ce : ce.length = 1280) (hce : ∀ p, p < 160 → e.getD p 0 = ce.getD (160 * j + p) 0) {x3 : Option Value} (hb : chB e n a 32 = true) (hdg : dgB e n (a + 1) = false) : Ef ab_Z0 2 mX6_item (57, [some (.ref 65), some (.int (nI 2)), some (.int (nI 0)), x3], [], (ww im lf s d k ls rf rz ra rn rq lt m1 m2 m3 m4 bd fc hd sz el q (fUp (fUp (fUp (fUp (fUp (fUp g 27 (nI (160 * j))) 29 (nI n)) 6 (-1)) 28 (nI (a + 1))) 30 x30) 31 x31) fm hm so si sh ce ca td wa kp la bf oo bo pw ow tr)) (some (.int (nI 0)), (ww im lf s d k ls rf rz ra rn rq lt m1 m2 m3 m4 bd fc hd sz el q (fUp (fUp (fUp (fUp (fUp (fUp g 27 (nI (160 * j))) 29 (nI n)) 6 (-1)) 28 (nI (a + 1))) 30 (nI 0)) 31 (nI (a + 1))) fm hm so si sh ce ca td wa kp la bf oo bo pw ow tr)) := by
  have hb_ := chB_t hb
  have : ([3, 3, 2, 2, 1, 0, 0] : List Nat).length = 7 := rfl
  refine E_iload_n at_X6_item_57 rfl ?_
  refine E_aload_n at_X6_item_58 rfl ?_
  refine E_getfield (v := .ref 83) at_X6_item_59 w65 rfl (by decide) rfl ?_
  refine E_iload_n at_X6_item_62 rfl ?_
  refine E_ialN (l := [3, 3, 2, 2, 1, 0, 0]) (v := 2) at_X6_item_63 w83 (by omega) (by omega) rfl ?_
  refine E_ic (t := 166) (b := false) at_X6_item_64 rfl (by decide) ?_
  refine E_iload_n at_X6_item_67 rfl ?_
  refine E_if (t := 121) (b := true) at_X6_item_68 rfl (by decide) ?_
  refine E_aload_n at_X6_item_121 rfl ?_
  refine E_getfield (v := .int (nI (a + 1))) at_X6_item_122 w65 rfl (by decide) rfl ?_
  refine E_istore_n (L2 := [some (.ref 65), some (.int (nI 2)), some (.int (nI 0)), some (.int (nI (a + 1)))]) at_X6_item_125 rfl ?_
  refine E_aload_n at_X6_item_126 rfl ?_
  refine E_callV (v := some (.int (nI 0))) (As := [.ref 65]) (r0 := []) (cs2 := (ww im lf s d k ls rf rz ra rn rq lt m1 m2 m3 m4 bd fc hd sz el q (fUp (fUp (fUp (fUp (fUp (fUp g 27 (nI (160 * j))) 29 (nI n)) 6 (-1)) 28 (nI (a + 1))) 30 (nI 0)) 31 (nI (a + 1))) fm hm so si sh ce ca td wa kp la bf oo bo pw ow tr)) at_X6_item_127 rfl rfl (Nat.le_of_ble_eq_true rfl) rfl (ab_rvOf w65 rfl) (m_rd0 hj hn (by omega) l_ce hce hdg) (by decide) w_lens ?_
  refine E_if (t := 135) (b := false) at_X6_item_130 rfl (by decide) ?_
  refine E_iconst (x := nI 0) at_X6_item_133 (by decide) ?_
  exact E_iret at_X6_item_134 rfl
set_option maxHeartbeats 1000000 in
theorem md200 {e : List Int64} {n a j : Nat} {x30 x31 : Int32} {q : ab_q} (hj : j < 8) (hn : n ≤ 160) (ha : a ≤ n) (Iq : qI q) (l_td : td.length = 3) (l_ce : ce.length = 1280) (hce : ∀ p, p < 160 → e.getD p 0 = ce.getD (160 * j + p) 0) {x3 : Option Value} (hb : chB e n a 32 = true) (hdg : dgB e n (a + 1) = true) (hr : 8 ≤ nuV e n (a + 1)) : Ef ab_Z0 2 mX6_item (57, [some (.ref 65), some (.int (nI 2)), some (.int (nI 0)), x3], [], (ww im lf s d k ls rf rz ra rn rq lt m1 m2 m3 m4 bd fc hd sz el q (fUp (fUp (fUp (fUp (fUp (fUp g 27 (nI (160 * j))) 29 (nI n)) 6 (-1)) 28 (nI (a + 1))) 30 x30) 31 x31) fm hm so si sh ce ca td wa kp la bf oo bo pw ow tr)) (some (.int (nI 0)), (ww im lf s d k ls rf rz ra rn rq lt m1 m2 m3 m4 bd fc hd sz el q (fUp (fUp (fUp (fUp (fUp (fUp g 27 (nI (160 * j))) 29 (nI n)) 6 (-1)) 28 (nI (cnE e n a))) 30 (nI (nuV e n (a + 1)))) 31 (nI (a + 1))) fm hm so si sh ce ca td wa kp la bf oo bo pw ow tr)) := by
  obtain ⟨⟨i0, i1, i2, i3⟩, ⟨i4, i5, i6, i7, i8⟩, ⟨i9, i10⟩, I1_, I2_, I3_, I4_⟩ := id Iq
  have hb_ := chB_t hb
  have hd_ := dgB_t hdg
  have h99 := nuV_99 hdg
  have hcn := cnE_n hdg
  have : ([3, 3, 2, 2, 1, 0, 0] : List Nat).length = 7 := rfl
  have : ([6, 9, 50, 99, 9, 7, 7, 60] : List Nat).length = 8 := rfl
  refine E_iload_n at_X6_item_57 rfl ?_
  refine E_aload_n at_X6_item_58 rfl ?_
  refine E_getfield (v := .ref 83) at_X6_item_59 w65 rfl (by decide) rfl ?_
  refine E_iload_n at_X6_item_62 rfl ?_
  refine E_ialN (l := [3, 3, 2, 2, 1, 0, 0]) (v := 2) at_X6_item_63 w83 (by omega) (by omega) rfl ?_
  refine E_ic (t := 166) (b := false) at_X6_item_64 rfl (by decide) ?_
  refine E_iload_n at_X6_item_67 rfl ?_
  refine E_if (t := 121) (b := true) at_X6_item_68 rfl (by decide) ?_
  refine E_aload_n at_X6_item_121 rfl ?_
  refine E_getfield (v := .int (nI (a + 1))) at_X6_item_122 w65 rfl (by decide) rfl ?_
  refine E_istore_n (L2 := [some (.ref 65), some (.int (nI 2)), some (.int (nI 0)), some (.int (nI (a + 1)))]) at_X6_item_125 rfl ?_
  refine E_aload_n at_X6_item_126 rfl ?_
  refine E_callV (v := some (.int (nI 1))) (As := [.ref 65]) (r0 := []) (cs2 := (ww im lf s d k ls rf rz ra rn rq lt m1 m2 m3 m4 bd fc hd sz el q (fUp (fUp (fUp (fUp (fUp (fUp g 27 (nI (160 * j))) 29 (nI n)) 6 (-1)) 28 (nI (cnE e n a))) 30 (nI (nuV e n (a + 1)))) 31 x31) fm hm so si sh ce ca td wa kp la bf oo bo pw ow tr)) at_X6_item_127 rfl rfl (Nat.le_of_ble_eq_true rfl) rfl (ab_rvOf w65 rfl) (m_rd1 hj hn (by omega) l_ce hce hdg) (by decide) w_lens ?_
  refine E_if (t := 135) (b := true) at_X6_item_130 rfl (by decide) ?_
  refine E_aload_n at_X6_item_135 rfl ?_
  refine E_iload_n at_X6_item_136 rfl ?_
  refine E_iload_n at_X6_item_137 rfl ?_
  have e2 : Ev ab_Z0 2 161 [.ref 65, .int (nI 2), .int (nI 0)] (ww im lf s d k ls rf rz ra rn rq lt m1 m2 m3 m4 bd fc hd sz el q (fUp (fUp (fUp (fUp (fUp (fUp g 27 (nI (160 * j))) 29 (nI n)) 6 (-1)) 28 (nI (cnE e n a))) 30 (nI (nuV e n (a + 1)))) 31 x31) fm hm so si sh ce ca td wa kp la bf oo bo pw ow tr) (some (.int (nI 0)), (ww im lf s d k ls rf rz ra rn rq lt m1 m2 m3 m4 bd fc hd sz el q (fUp (fUp (fUp (fUp (fUp (fUp g 27 (nI (160 * j))) 29 (nI n)) 6 (-1)) 28 (nI (cnE e n a))) 30 (nI (nuV e n (a + 1)))) 31 x31) fm hm so si sh ce ca td wa kp la bf oo bo pw ow tr)) := by
    refine Ef.in (md := mX6_isSo) (L := [some (.ref 65), some (.int (nI 2)), some (.int (nI 0))]) rfl (Nat.le_of_ble_eq_true rfl) rfl ?_
    refine E_iload_n at_X6_isSo_0 rfl ?_
    refine E_iconst (x := nI 3) at_X6_isSo_1 (by decide) ?_
    refine E_ic (t := 48) (b := false) at_X6_isSo_2 rfl (by decide) ?_
    refine E_aload_n at_X6_isSo_5 rfl ?_
    refine E_aload_n at_X6_isSo_6 rfl ?_
    refine E_getfield (v := .int (nI (nuV e n (a + 1)))) at_X6_isSo_7 w65 rfl (by decide) rfl ?_
    refine E_iload_n at_X6_isSo_10 rfl ?_
    refine E_if (t := 19) (b := true) at_X6_isSo_11 rfl (by decide) ?_
    refine E_iload_n at_X6_isSo_19 rfl ?_
    refine E_iconst (x := nI 2) at_X6_isSo_20 (by decide) ?_
    refine E_ic (t := 33) (b := false) at_X6_isSo_21 rfl (by decide) ?_
    refine E_iload_n at_X6_isSo_24 rfl ?_
    refine E_iconst (x := nI 1) at_X6_isSo_25 (by decide) ?_
    refine E_ic (t := 33) (b := true) at_X6_isSo_26 rfl (by decide) ?_
    refine E_iconst (x := nI 0) at_X6_isSo_33 (by decide) ?_
    refine E_aload_n at_X6_isSo_34 rfl ?_
    refine E_getfield (v := .ref 84) at_X6_isSo_35 w65 rfl (by decide) rfl ?_
    refine E_iconst (x := nI 3) at_X6_isSo_38 (by decide) ?_
    refine E_iload_n at_X6_isSo_39 rfl ?_
    refine E_imul (z := nI 6) at_X6_isSo_40 (by decide) ?_
    refine E_iload_n at_X6_isSo_41 rfl ?_
    refine E_iadd (z := nI 6) at_X6_isSo_42 (by decide) ?_
    refine E_ialN (l := [6, 9, 50, 99, 9, 7, 7, 60]) (v := 7) at_X6_isSo_43 w84 (by omega) (by omega) rfl ?_
    have e1 : Ev ab_Z0 1 134 [.ref 65, .int (nI (nuV e n (a + 1))), .int (nI 0), .int (nI 7)] (ww im lf s d k ls rf rz ra rn rq lt m1 m2 m3 m4 bd fc hd sz el q (fUp (fUp (fUp (fUp (fUp (fUp g 27 (nI (160 * j))) 29 (nI n)) 6 (-1)) 28 (nI (cnE e n a))) 30 (nI (nuV e n (a + 1)))) 31 x31) fm hm so si sh ce ca td wa kp la bf oo bo pw ow tr) (some (.int (nI 0)), (ww im lf s d k ls rf rz ra rn rq lt m1 m2 m3 m4 bd fc hd sz el q (fUp (fUp (fUp (fUp (fUp (fUp g 27 (nI (160 * j))) 29 (nI n)) 6 (-1)) 28 (nI (cnE e n a))) 30 (nI (nuV e n (a + 1)))) 31 x31) fm hm so si sh ce ca td wa kp la bf oo bo pw ow tr)) := by
      refine Ef.in (md := mX6_isFrom) (L := [some (.ref 65), some (.int (nI (nuV e n (a + 1)))), some (.int (nI 0)), some (.int (nI 7))]) rfl (Nat.le_of_ble_eq_true rfl) rfl ?_
      refine E_iload_n at_X6_isFrom_0 rfl ?_
      refine E_iload_n at_X6_isFrom_1 rfl ?_
      refine E_ic (t := 14) (b := false) at_X6_isFrom_2 rfl ((cn_lt (nI_toInt (by omega)) (nI_toInt (by omega))).trans (decide_eq_false (by omega))) ?_
      refine E_iload_n at_X6_isFrom_5 rfl ?_
      refine E_iload_n at_X6_isFrom_6 rfl ?_
      refine E_ic (t := 14) (b := true) at_X6_isFrom_7 rfl ((cn_gt (nI_toInt (by omega)) (nI_toInt (by omega))).trans (decide_eq_true (by omega))) ?_
      refine E_iconst (x := nI 0) at_X6_isFrom_14 (by decide) ?_
      exact E_iret at_X6_isFrom_15 rfl
    refine E_callV (v := some (.int (nI 0))) (As := [.ref 65, .int (nI (nuV e n (a + 1))), .int (nI 0), .int (nI 7)]) (r0 := []) (cs2 := (ww im lf s d k ls rf rz ra rn rq lt m1 m2 m3 m4 bd fc hd sz el q (fUp (fUp (fUp (fUp (fUp (fUp g 27 (nI (160 * j))) 29 (nI n)) 6 (-1)) 28 (nI (cnE e n a))) 30 (nI (nuV e n (a + 1)))) 31 x31) fm hm so si sh ce ca td wa kp la bf oo bo pw ow tr)) at_X6_isSo_44 rfl rfl (Nat.le_of_ble_eq_true rfl) rfl (ab_rvOf w65 rfl) e1 (by decide) rfl ?_
    exact E_iret at_X6_isSo_47 rfl
  refine E_callV (v := some (.int (nI 0))) (As := [.ref 65, .int (nI 2), .int (nI 0)]) (r0 := []) (cs2 := (ww im lf s d k ls rf rz ra rn rq lt m1 m2 m3 m4 bd fc hd sz el q (fUp (fUp (fUp (fUp (fUp (fUp g 27 (nI (160 * j))) 29 (nI n)) 6 (-1)) 28 (nI (cnE e n a))) 30 (nI (nuV e n (a + 1)))) 31 x31) fm hm so si sh ce ca td wa kp la bf oo bo pw ow tr)) at_X6_item_138 rfl rfl (Nat.le_of_ble_eq_true rfl) rfl (ab_rvOf w65 rfl) e2 (by decide) rfl ?_
  refine E_if (t := 150) (b := false) at_X6_item_141 rfl (by decide) ?_
  refine E_aload_n at_X6_item_144 rfl ?_
  refine E_iload_n at_X6_item_145 rfl ?_
  have e3 : Ev ab_Z0 1 156 [.ref 65, .int (nI (a + 1))] (ww im lf s d k ls rf rz ra rn rq lt m1 m2 m3 m4 bd fc hd sz el q (fUp (fUp (fUp (fUp (fUp (fUp g 27 (nI (160 * j))) 29 (nI n)) 6 (-1)) 28 (nI (cnE e n a))) 30 (nI (nuV e n (a + 1)))) 31 x31) fm hm so si sh ce ca td wa kp la bf oo bo pw ow tr) (some (.int (nI 0)), (ww im lf s d k ls rf rz ra rn rq lt m1 m2 m3 m4 bd fc hd sz el q (fUp (fUp (fUp (fUp (fUp (fUp g 27 (nI (160 * j))) 29 (nI n)) 6 (-1)) 28 (nI (cnE e n a))) 30 (nI (nuV e n (a + 1)))) 31 (nI (a + 1))) fm hm so si sh ce ca td wa kp la bf oo bo pw ow tr)) := by
    refine Ef.in (md := mX6_wrong) (L := [some (.ref 65), some (.int (nI (a + 1)))]) rfl (Nat.le_of_ble_eq_true rfl) rfl ?_
    refine E_aload_n at_X6_wrong_0 rfl ?_
    refine E_iload_n at_X6_wrong_1 rfl ?_
    refine E_putfield (cs2 := (ww im lf s d k ls rf rz ra rn rq lt m1 m2 m3 m4 bd fc hd sz el q (fUp (fUp (fUp (fUp (fUp (fUp g 27 (nI (160 * j))) 29 (nI n)) 6 (-1)) 28 (nI (cnE e n a))) 30 (nI (nuV e n (a + 1)))) 31 (nI (a + 1))) fm hm so si sh ce ca td wa kp la bf oo bo pw ow tr)) at_X6_wrong_2 w65 rfl (by decide) (Nat.le_of_ble_eq_true rfl) rfl rfl rfl (w_pt65_31.trans (by rw [gn31])) ?_
    refine E_iconst (x := nI 0) at_X6_wrong_5 (by decide) ?_
    exact E_iret at_X6_wrong_6 rfl
  refine E_callV (v := some (.int (nI 0))) (As := [.ref 65, .int (nI (a + 1))]) (r0 := []) (cs2 := (ww im lf s d k ls rf rz ra rn rq lt m1 m2 m3 m4 bd fc hd sz el q (fUp (fUp (fUp (fUp (fUp (fUp g 27 (nI (160 * j))) 29 (nI n)) 6 (-1)) 28 (nI (cnE e n a))) 30 (nI (nuV e n (a + 1)))) 31 (nI (a + 1))) fm hm so si sh ce ca td wa kp la bf oo bo pw ow tr)) at_X6_item_146 rfl rfl (Nat.le_of_ble_eq_true rfl) rfl (ab_rvOf w65 rfl) e3 (by decide) w_lens ?_
  exact E_iret at_X6_item_149 rfl
set_option maxHeartbeats 1000000 in
theorem mc21 {e : List Int64} {n a j : Nat} {x30 x31 : Int32} {q : ab_q} (hj : j < 8) (hn : n ≤ 160) (ha : a ≤ n) (Iq : qI q) (l_td : td.length = 3) (l_ce : ce.length = 1280) (hce : ∀ p, p < 160 → e.getD p 0 = ce.getD (160 * j + p) 0) {x3 : Option Value} (hb : chB e n a 32 = true) (hdg : dgB e n (a + 1) = true) (ho0 : 1 ≤ nuV e n (a + 1)) (ho1 : nuV e n (a + 1) < 61) {r : Option Value × List ab_C} (K : Ef ab_Z0 2 mX6_item (57, [some (.ref 65), some (.int (nI 2)), some (.int (nI 2)), some (.int (nI (a + 1)))], [], (ww im lf s d k ls rf rz ra rn rq lt m1 m2 m3 m4 bd fc hd sz el q (fUp (fUp (fUp (fUp (fUp (fUp g 27 (nI (160 * j))) 29 (nI n)) 6 (-1)) 28 (nI (cnE e n a))) 30 (nI (nuV e n (a + 1)))) 31 x31) fm hm so si sh ce ca (td.set 1 (nI (nuV e n (a + 1)))) wa kp la bf oo bo pw ow tr)) r) : Ef ab_Z0 2 mX6_item (57, [some (.ref 65), some (.int (nI 2)), some (.int (nI 1)), x3], [], (ww im lf s d k ls rf rz ra rn rq lt m1 m2 m3 m4 bd fc hd sz el q (fUp (fUp (fUp (fUp (fUp (fUp g 27 (nI (160 * j))) 29 (nI n)) 6 (-1)) 28 (nI a)) 30 x30) 31 x31) fm hm so si sh ce ca td wa kp la bf oo bo pw ow tr)) r := by
  obtain ⟨⟨i0, i1, i2, i3⟩, ⟨i4, i5, i6, i7, i8⟩, ⟨i9, i10⟩, I1_, I2_, I3_, I4_⟩ := id Iq
  have hb_ := chB_t hb
  have hd_ := dgB_t hdg
  have h99 := nuV_99 hdg
  have hcn := cnE_n hdg
  have : ([3, 3, 2, 2, 1, 0, 0] : List Nat).length = 7 := rfl
  have : ([6, 9, 50, 99, 9, 7, 7, 60] : List Nat).length = 8 := rfl
  refine E_iload_n at_X6_item_57 rfl ?_
  refine E_aload_n at_X6_item_58 rfl ?_
  refine E_getfield (v := .ref 83) at_X6_item_59 w65 rfl (by decide) rfl ?_
  refine E_iload_n at_X6_item_62 rfl ?_
  refine E_ialN (l := [3, 3, 2, 2, 1, 0, 0]) (v := 2) at_X6_item_63 w83 (by omega) (by omega) rfl ?_
  refine E_ic (t := 166) (b := false) at_X6_item_64 rfl (by decide) ?_
  refine E_iload_n at_X6_item_67 rfl ?_
  refine E_if (t := 121) (b := false) at_X6_item_68 rfl (by decide) ?_
  refine E_aload_n at_X6_item_71 rfl ?_
  refine E_getfield (v := .int (nI a)) at_X6_item_72 w65 rfl (by decide) rfl ?_
  refine E_aload_n at_X6_item_75 rfl ?_
  refine E_getfield (v := .int (nI n)) at_X6_item_76 w65 rfl (by decide) rfl ?_
  refine E_ic (t := 102) (b := false) at_X6_item_79 rfl ((cn_ge (nI_toInt (by omega)) (nI_toInt (by omega))).trans (decide_eq_false (by omega))) ?_
  refine E_aload_n at_X6_item_82 rfl ?_
  refine E_getfield (v := .ref 80) at_X6_item_83 w65 rfl (by decide) rfl ?_
  refine E_aload_n at_X6_item_86 rfl ?_
  refine E_getfield (v := .int (nI (160 * j))) at_X6_item_87 w65 rfl (by decide) rfl ?_
  refine E_aload_n at_X6_item_90 rfl ?_
  refine E_getfield (v := .int (nI a)) at_X6_item_91 w65 rfl (by decide) rfl ?_
  refine E_iadd (z := nI ((160 * j) + a)) at_X6_item_94 (nI_add _ _) ?_
  refine E_lalL (l := ce) (v := ce.getD ((160 * j) + a) 0) at_X6_item_95 w80 (by omega) (by omega) rfl ?_
  refine E_l2i (z := tw e a) at_X6_item_96 (by unfold tw; rw [hce a (by omega)]) ?_
  refine E_bipush (x := nI 32) at_X6_item_97 (by decide) ?_
  refine E_ic (t := 111) (b := true) at_X6_item_99 rfl ((cn_eq rfl (nI_toInt (by omega))).trans (decide_eq_true (by omega))) ?_
  refine E_aload_n at_X6_item_111 rfl ?_
  refine E_dup at_X6_item_112 rfl ?_
  refine E_getfield (v := .int (nI a)) at_X6_item_113 w65 rfl (by decide) rfl ?_
  refine E_iconst (x := nI 1) at_X6_item_116 (by decide) ?_
  refine E_iadd (z := nI (a + 1)) at_X6_item_117 (nI_add _ _) ?_
  refine E_putfield (cs2 := (ww im lf s d k ls rf rz ra rn rq lt m1 m2 m3 m4 bd fc hd sz el q (fUp (fUp (fUp (fUp (fUp (fUp g 27 (nI (160 * j))) 29 (nI n)) 6 (-1)) 28 (nI (a + 1))) 30 x30) 31 x31) fm hm so si sh ce ca td wa kp la bf oo bo pw ow tr)) at_X6_item_118 w65 rfl (by decide) (Nat.le_of_ble_eq_true rfl) rfl rfl rfl (w_pt65_28.trans (by rw [gn28])) ?_
  refine E_aload_n at_X6_item_121 rfl ?_
  refine E_getfield (v := .int (nI (a + 1))) at_X6_item_122 w65 rfl (by decide) rfl ?_
  refine E_istore_n (L2 := [some (.ref 65), some (.int (nI 2)), some (.int (nI 1)), some (.int (nI (a + 1)))]) at_X6_item_125 rfl ?_
  refine E_aload_n at_X6_item_126 rfl ?_
  refine E_callV (v := some (.int (nI 1))) (As := [.ref 65]) (r0 := []) (cs2 := (ww im lf s d k ls rf rz ra rn rq lt m1 m2 m3 m4 bd fc hd sz el q (fUp (fUp (fUp (fUp (fUp (fUp g 27 (nI (160 * j))) 29 (nI n)) 6 (-1)) 28 (nI (cnE e n a))) 30 (nI (nuV e n (a + 1)))) 31 x31) fm hm so si sh ce ca td wa kp la bf oo bo pw ow tr)) at_X6_item_127 rfl rfl (Nat.le_of_ble_eq_true rfl) rfl (ab_rvOf w65 rfl) (m_rd1 hj hn (by omega) l_ce hce hdg) (by decide) w_lens ?_
  refine E_if (t := 135) (b := true) at_X6_item_130 rfl (by decide) ?_
  refine E_aload_n at_X6_item_135 rfl ?_
  refine E_iload_n at_X6_item_136 rfl ?_
  refine E_iload_n at_X6_item_137 rfl ?_
  have e2 : Ev ab_Z0 2 161 [.ref 65, .int (nI 2), .int (nI 1)] (ww im lf s d k ls rf rz ra rn rq lt m1 m2 m3 m4 bd fc hd sz el q (fUp (fUp (fUp (fUp (fUp (fUp g 27 (nI (160 * j))) 29 (nI n)) 6 (-1)) 28 (nI (cnE e n a))) 30 (nI (nuV e n (a + 1)))) 31 x31) fm hm so si sh ce ca td wa kp la bf oo bo pw ow tr) (some (.int (nI 1)), (ww im lf s d k ls rf rz ra rn rq lt m1 m2 m3 m4 bd fc hd sz el q (fUp (fUp (fUp (fUp (fUp (fUp g 27 (nI (160 * j))) 29 (nI n)) 6 (-1)) 28 (nI (cnE e n a))) 30 (nI (nuV e n (a + 1)))) 31 x31) fm hm so si sh ce ca td wa kp la bf oo bo pw ow tr)) := by
    refine Ef.in (md := mX6_isSo) (L := [some (.ref 65), some (.int (nI 2)), some (.int (nI 1))]) rfl (Nat.le_of_ble_eq_true rfl) rfl ?_
    refine E_iload_n at_X6_isSo_0 rfl ?_
    refine E_iconst (x := nI 3) at_X6_isSo_1 (by decide) ?_
    refine E_ic (t := 48) (b := false) at_X6_isSo_2 rfl (by decide) ?_
    refine E_aload_n at_X6_isSo_5 rfl ?_
    refine E_aload_n at_X6_isSo_6 rfl ?_
    refine E_getfield (v := .int (nI (nuV e n (a + 1)))) at_X6_isSo_7 w65 rfl (by decide) rfl ?_
    refine E_iload_n at_X6_isSo_10 rfl ?_
    refine E_if (t := 19) (b := true) at_X6_isSo_11 rfl (by decide) ?_
    refine E_iload_n at_X6_isSo_19 rfl ?_
    refine E_iconst (x := nI 2) at_X6_isSo_20 (by decide) ?_
    refine E_ic (t := 33) (b := false) at_X6_isSo_21 rfl (by decide) ?_
    refine E_iload_n at_X6_isSo_24 rfl ?_
    refine E_iconst (x := nI 1) at_X6_isSo_25 (by decide) ?_
    refine E_ic (t := 33) (b := false) at_X6_isSo_26 rfl (by decide) ?_
    refine E_iconst (x := nI 1) at_X6_isSo_29 (by decide) ?_
    refine E_goto (t := 34) at_X6_isSo_30 rfl ?_
    refine E_aload_n at_X6_isSo_34 rfl ?_
    refine E_getfield (v := .ref 84) at_X6_isSo_35 w65 rfl (by decide) rfl ?_
    refine E_iconst (x := nI 3) at_X6_isSo_38 (by decide) ?_
    refine E_iload_n at_X6_isSo_39 rfl ?_
    refine E_imul (z := nI 6) at_X6_isSo_40 (by decide) ?_
    refine E_iload_n at_X6_isSo_41 rfl ?_
    refine E_iadd (z := nI 7) at_X6_isSo_42 (by decide) ?_
    refine E_ialN (l := [6, 9, 50, 99, 9, 7, 7, 60]) (v := 60) at_X6_isSo_43 w84 (by omega) (by omega) rfl ?_
    have e1 : Ev ab_Z0 1 134 [.ref 65, .int (nI (nuV e n (a + 1))), .int (nI 1), .int (nI 60)] (ww im lf s d k ls rf rz ra rn rq lt m1 m2 m3 m4 bd fc hd sz el q (fUp (fUp (fUp (fUp (fUp (fUp g 27 (nI (160 * j))) 29 (nI n)) 6 (-1)) 28 (nI (cnE e n a))) 30 (nI (nuV e n (a + 1)))) 31 x31) fm hm so si sh ce ca td wa kp la bf oo bo pw ow tr) (some (.int (nI 1)), (ww im lf s d k ls rf rz ra rn rq lt m1 m2 m3 m4 bd fc hd sz el q (fUp (fUp (fUp (fUp (fUp (fUp g 27 (nI (160 * j))) 29 (nI n)) 6 (-1)) 28 (nI (cnE e n a))) 30 (nI (nuV e n (a + 1)))) 31 x31) fm hm so si sh ce ca td wa kp la bf oo bo pw ow tr)) := by
      refine Ef.in (md := mX6_isFrom) (L := [some (.ref 65), some (.int (nI (nuV e n (a + 1)))), some (.int (nI 1)), some (.int (nI 60))]) rfl (Nat.le_of_ble_eq_true rfl) rfl ?_
      refine E_iload_n at_X6_isFrom_0 rfl ?_
      refine E_iload_n at_X6_isFrom_1 rfl ?_
      refine E_ic (t := 14) (b := false) at_X6_isFrom_2 rfl ((cn_lt (nI_toInt (by omega)) (nI_toInt (by omega))).trans (decide_eq_false (by omega))) ?_
      refine E_iload_n at_X6_isFrom_5 rfl ?_
      refine E_iload_n at_X6_isFrom_6 rfl ?_
      refine E_ic (t := 14) (b := false) at_X6_isFrom_7 rfl ((cn_gt (nI_toInt (by omega)) (nI_toInt (by omega))).trans (decide_eq_false (by omega))) ?_
      refine E_iconst (x := nI 1) at_X6_isFrom_10 (by decide) ?_
      refine E_goto (t := 15) at_X6_isFrom_11 rfl ?_
      exact E_iret at_X6_isFrom_15 rfl
    refine E_callV (v := some (.int (nI 1))) (As := [.ref 65, .int (nI (nuV e n (a + 1))), .int (nI 1), .int (nI 60)]) (r0 := []) (cs2 := (ww im lf s d k ls rf rz ra rn rq lt m1 m2 m3 m4 bd fc hd sz el q (fUp (fUp (fUp (fUp (fUp (fUp g 27 (nI (160 * j))) 29 (nI n)) 6 (-1)) 28 (nI (cnE e n a))) 30 (nI (nuV e n (a + 1)))) 31 x31) fm hm so si sh ce ca td wa kp la bf oo bo pw ow tr)) at_X6_isSo_44 rfl rfl (Nat.le_of_ble_eq_true rfl) rfl (ab_rvOf w65 rfl) e1 (by decide) rfl ?_
    exact E_iret at_X6_isSo_47 rfl
  refine E_callV (v := some (.int (nI 1))) (As := [.ref 65, .int (nI 2), .int (nI 1)]) (r0 := []) (cs2 := (ww im lf s d k ls rf rz ra rn rq lt m1 m2 m3 m4 bd fc hd sz el q (fUp (fUp (fUp (fUp (fUp (fUp g 27 (nI (160 * j))) 29 (nI n)) 6 (-1)) 28 (nI (cnE e n a))) 30 (nI (nuV e n (a + 1)))) 31 x31) fm hm so si sh ce ca td wa kp la bf oo bo pw ow tr)) at_X6_item_138 rfl rfl (Nat.le_of_ble_eq_true rfl) rfl (ab_rvOf w65 rfl) e2 (by decide) rfl ?_
  refine E_if (t := 150) (b := true) at_X6_item_141 rfl (by decide) ?_
  refine E_aload_n at_X6_item_150 rfl ?_
  refine E_getfield (v := .ref 85) at_X6_item_151 w65 rfl (by decide) rfl ?_
  refine E_iload_n at_X6_item_154 rfl ?_
  refine E_aload_n at_X6_item_155 rfl ?_
  refine E_getfield (v := .int (nI (nuV e n (a + 1)))) at_X6_item_156 w65 rfl (by decide) rfl ?_
  refine E_iasI (l := td) (cs2 := (ww im lf s d k ls rf rz ra rn rq lt m1 m2 m3 m4 bd fc hd sz el q (fUp (fUp (fUp (fUp (fUp (fUp g 27 (nI (160 * j))) 29 (nI n)) 6 (-1)) 28 (nI (cnE e n a))) 30 (nI (nuV e n (a + 1)))) 31 x31) fm hm so si sh ce ca (td.set 1 (nI (nuV e n (a + 1)))) wa kp la bf oo bo pw ow tr)) at_X6_item_159 w85 (by omega) (by omega) rfl ?_
  refine E_iinc (y := nI 2) (L2 := [some (.ref 65), some (.int (nI 2)), some (.int (nI 2)), some (.int (nI (a + 1)))]) at_X6_item_160 rfl (by decide) rfl ?_
  refine E_goto (t := 57) at_X6_item_163 rfl ?_
  exact K
set_option maxHeartbeats 1000000 in
theorem ma21 {e : List Int64} {n a j : Nat} {x30 x31 : Int32} {q : ab_q} (hj : j < 8) (hn : n ≤ 160) (ha : a ≤ n) (Iq : qI q) (l_td : td.length = 3) (l_ce : ce.length = 1280) (hce : ∀ p, p < 160 → e.getD p 0 = ce.getD (160 * j + p) 0) {x3 : Option Value} (hb : chB e n a 32 = false) : Ef ab_Z0 2 mX6_item (57, [some (.ref 65), some (.int (nI 2)), some (.int (nI 1)), x3], [], (ww im lf s d k ls rf rz ra rn rq lt m1 m2 m3 m4 bd fc hd sz el q (fUp (fUp (fUp (fUp (fUp (fUp g 27 (nI (160 * j))) 29 (nI n)) 6 (-1)) 28 (nI a)) 30 x30) 31 x31) fm hm so si sh ce ca td wa kp la bf oo bo pw ow tr)) (some (.int (nI 0)), (ww im lf s d k ls rf rz ra rn rq lt m1 m2 m3 m4 bd fc hd sz el q (fUp (fUp (fUp (fUp (fUp (fUp g 27 (nI (160 * j))) 29 (nI n)) 6 (-1)) 28 (nI a)) 30 x30) 31 (nI a)) fm hm so si sh ce ca td wa kp la bf oo bo pw ow tr)) := by
  rcases chB_f hb with h3 | h3
  · have : ([3, 3, 2, 2, 1, 0, 0] : List Nat).length = 7 := rfl
    refine E_iload_n at_X6_item_57 rfl ?_
    refine E_aload_n at_X6_item_58 rfl ?_
    refine E_getfield (v := .ref 83) at_X6_item_59 w65 rfl (by decide) rfl ?_
    refine E_iload_n at_X6_item_62 rfl ?_
    refine E_ialN (l := [3, 3, 2, 2, 1, 0, 0]) (v := 2) at_X6_item_63 w83 (by omega) (by omega) rfl ?_
    refine E_ic (t := 166) (b := false) at_X6_item_64 rfl (by decide) ?_
    refine E_iload_n at_X6_item_67 rfl ?_
    refine E_if (t := 121) (b := false) at_X6_item_68 rfl (by decide) ?_
    refine E_aload_n at_X6_item_71 rfl ?_
    refine E_getfield (v := .int (nI a)) at_X6_item_72 w65 rfl (by decide) rfl ?_
    refine E_aload_n at_X6_item_75 rfl ?_
    refine E_getfield (v := .int (nI n)) at_X6_item_76 w65 rfl (by decide) rfl ?_
    refine E_ic (t := 102) (b := true) at_X6_item_79 rfl ((cn_ge (nI_toInt (by omega)) (nI_toInt (by omega))).trans (decide_eq_true (by omega))) ?_
    refine E_aload_n at_X6_item_102 rfl ?_
    refine E_aload_n at_X6_item_103 rfl ?_
    refine E_getfield (v := .int (nI a)) at_X6_item_104 w65 rfl (by decide) rfl ?_
    have e1 : Ev ab_Z0 1 156 [.ref 65, .int (nI a)] (ww im lf s d k ls rf rz ra rn rq lt m1 m2 m3 m4 bd fc hd sz el q (fUp (fUp (fUp (fUp (fUp (fUp g 27 (nI (160 * j))) 29 (nI n)) 6 (-1)) 28 (nI a)) 30 x30) 31 x31) fm hm so si sh ce ca td wa kp la bf oo bo pw ow tr) (some (.int (nI 0)), (ww im lf s d k ls rf rz ra rn rq lt m1 m2 m3 m4 bd fc hd sz el q (fUp (fUp (fUp (fUp (fUp (fUp g 27 (nI (160 * j))) 29 (nI n)) 6 (-1)) 28 (nI a)) 30 x30) 31 (nI a)) fm hm so si sh ce ca td wa kp la bf oo bo pw ow tr)) := by
      refine Ef.in (md := mX6_wrong) (L := [some (.ref 65), some (.int (nI a))]) rfl (Nat.le_of_ble_eq_true rfl) rfl ?_
      refine E_aload_n at_X6_wrong_0 rfl ?_
      refine E_iload_n at_X6_wrong_1 rfl ?_
      refine E_putfield (cs2 := (ww im lf s d k ls rf rz ra rn rq lt m1 m2 m3 m4 bd fc hd sz el q (fUp (fUp (fUp (fUp (fUp (fUp g 27 (nI (160 * j))) 29 (nI n)) 6 (-1)) 28 (nI a)) 30 x30) 31 (nI a)) fm hm so si sh ce ca td wa kp la bf oo bo pw ow tr)) at_X6_wrong_2 w65 rfl (by decide) (Nat.le_of_ble_eq_true rfl) rfl rfl rfl (w_pt65_31.trans (by rw [gn31])) ?_
      refine E_iconst (x := nI 0) at_X6_wrong_5 (by decide) ?_
      exact E_iret at_X6_wrong_6 rfl
    refine E_callV (v := some (.int (nI 0))) (As := [.ref 65, .int (nI a)]) (r0 := []) (cs2 := (ww im lf s d k ls rf rz ra rn rq lt m1 m2 m3 m4 bd fc hd sz el q (fUp (fUp (fUp (fUp (fUp (fUp g 27 (nI (160 * j))) 29 (nI n)) 6 (-1)) 28 (nI a)) 30 x30) 31 (nI a)) fm hm so si sh ce ca td wa kp la bf oo bo pw ow tr)) at_X6_item_107 rfl rfl (Nat.le_of_ble_eq_true rfl) rfl (ab_rvOf w65 rfl) e1 (by decide) w_lens ?_
    exact E_iret at_X6_item_110 rfl
  · have : ([3, 3, 2, 2, 1, 0, 0] : List Nat).length = 7 := rfl
    refine E_iload_n at_X6_item_57 rfl ?_
    refine E_aload_n at_X6_item_58 rfl ?_
    refine E_getfield (v := .ref 83) at_X6_item_59 w65 rfl (by decide) rfl ?_
    refine E_iload_n at_X6_item_62 rfl ?_
    refine E_ialN (l := [3, 3, 2, 2, 1, 0, 0]) (v := 2) at_X6_item_63 w83 (by omega) (by omega) rfl ?_
    refine E_ic (t := 166) (b := false) at_X6_item_64 rfl (by decide) ?_
    refine E_iload_n at_X6_item_67 rfl ?_
    refine E_if (t := 121) (b := false) at_X6_item_68 rfl (by decide) ?_
    refine E_aload_n at_X6_item_71 rfl ?_
    refine E_getfield (v := .int (nI a)) at_X6_item_72 w65 rfl (by decide) rfl ?_
    refine E_aload_n at_X6_item_75 rfl ?_
    refine E_getfield (v := .int (nI n)) at_X6_item_76 w65 rfl (by decide) rfl ?_
    refine E_ic (t := 102) (b := false) at_X6_item_79 rfl ((cn_ge (nI_toInt (by omega)) (nI_toInt (by omega))).trans (decide_eq_false (by omega))) ?_
    refine E_aload_n at_X6_item_82 rfl ?_
    refine E_getfield (v := .ref 80) at_X6_item_83 w65 rfl (by decide) rfl ?_
    refine E_aload_n at_X6_item_86 rfl ?_
    refine E_getfield (v := .int (nI (160 * j))) at_X6_item_87 w65 rfl (by decide) rfl ?_
    refine E_aload_n at_X6_item_90 rfl ?_
    refine E_getfield (v := .int (nI a)) at_X6_item_91 w65 rfl (by decide) rfl ?_
    refine E_iadd (z := nI ((160 * j) + a)) at_X6_item_94 (nI_add _ _) ?_
    refine E_lalL (l := ce) (v := ce.getD ((160 * j) + a) 0) at_X6_item_95 w80 (by omega) (by omega) rfl ?_
    refine E_l2i (z := tw e a) at_X6_item_96 (by unfold tw; rw [hce a (by omega)]) ?_
    refine E_bipush (x := nI 32) at_X6_item_97 (by decide) ?_
    refine E_ic (t := 111) (b := false) at_X6_item_99 rfl ((cn_eq rfl (nI_toInt (by omega))).trans (decide_eq_false (by omega))) ?_
    refine E_aload_n at_X6_item_102 rfl ?_
    refine E_aload_n at_X6_item_103 rfl ?_
    refine E_getfield (v := .int (nI a)) at_X6_item_104 w65 rfl (by decide) rfl ?_
    have e1 : Ev ab_Z0 1 156 [.ref 65, .int (nI a)] (ww im lf s d k ls rf rz ra rn rq lt m1 m2 m3 m4 bd fc hd sz el q (fUp (fUp (fUp (fUp (fUp (fUp g 27 (nI (160 * j))) 29 (nI n)) 6 (-1)) 28 (nI a)) 30 x30) 31 x31) fm hm so si sh ce ca td wa kp la bf oo bo pw ow tr) (some (.int (nI 0)), (ww im lf s d k ls rf rz ra rn rq lt m1 m2 m3 m4 bd fc hd sz el q (fUp (fUp (fUp (fUp (fUp (fUp g 27 (nI (160 * j))) 29 (nI n)) 6 (-1)) 28 (nI a)) 30 x30) 31 (nI a)) fm hm so si sh ce ca td wa kp la bf oo bo pw ow tr)) := by
      refine Ef.in (md := mX6_wrong) (L := [some (.ref 65), some (.int (nI a))]) rfl (Nat.le_of_ble_eq_true rfl) rfl ?_
      refine E_aload_n at_X6_wrong_0 rfl ?_
      refine E_iload_n at_X6_wrong_1 rfl ?_
      refine E_putfield (cs2 := (ww im lf s d k ls rf rz ra rn rq lt m1 m2 m3 m4 bd fc hd sz el q (fUp (fUp (fUp (fUp (fUp (fUp g 27 (nI (160 * j))) 29 (nI n)) 6 (-1)) 28 (nI a)) 30 x30) 31 (nI a)) fm hm so si sh ce ca td wa kp la bf oo bo pw ow tr)) at_X6_wrong_2 w65 rfl (by decide) (Nat.le_of_ble_eq_true rfl) rfl rfl rfl (w_pt65_31.trans (by rw [gn31])) ?_
      refine E_iconst (x := nI 0) at_X6_wrong_5 (by decide) ?_
      exact E_iret at_X6_wrong_6 rfl
    refine E_callV (v := some (.int (nI 0))) (As := [.ref 65, .int (nI a)]) (r0 := []) (cs2 := (ww im lf s d k ls rf rz ra rn rq lt m1 m2 m3 m4 bd fc hd sz el q (fUp (fUp (fUp (fUp (fUp (fUp g 27 (nI (160 * j))) 29 (nI n)) 6 (-1)) 28 (nI a)) 30 x30) 31 (nI a)) fm hm so si sh ce ca td wa kp la bf oo bo pw ow tr)) at_X6_item_107 rfl rfl (Nat.le_of_ble_eq_true rfl) rfl (ab_rvOf w65 rfl) e1 (by decide) w_lens ?_
    exact E_iret at_X6_item_110 rfl
set_option maxHeartbeats 1000000 in
theorem mb21 {e : List Int64} {n a j : Nat} {x30 x31 : Int32} {q : ab_q} (hj : j < 8) (hn : n ≤ 160) (ha : a ≤ n) (Iq : qI q) (l_td : td.length = 3) (l_ce : ce.length = 1280) (hce : ∀ p, p < 160 → e.getD p 0 = ce.getD (160 * j + p) 0) {x3 : Option Value} (hb : chB e n a 32 = true) (hdg : dgB e n (a + 1) = false) : Ef ab_Z0 2 mX6_item (57, [some (.ref 65), some (.int (nI 2)), some (.int (nI 1)), x3], [], (ww im lf s d k ls rf rz ra rn rq lt m1 m2 m3 m4 bd fc hd sz el q (fUp (fUp (fUp (fUp (fUp (fUp g 27 (nI (160 * j))) 29 (nI n)) 6 (-1)) 28 (nI a)) 30 x30) 31 x31) fm hm so si sh ce ca td wa kp la bf oo bo pw ow tr)) (some (.int (nI 0)), (ww im lf s d k ls rf rz ra rn rq lt m1 m2 m3 m4 bd fc hd sz el q (fUp (fUp (fUp (fUp (fUp (fUp g 27 (nI (160 * j))) 29 (nI n)) 6 (-1)) 28 (nI (a + 1))) 30 (nI 0)) 31 (nI (a + 1))) fm hm so si sh ce ca td wa kp la bf oo bo pw ow tr)) := by
  have hb_ := chB_t hb
  have : ([3, 3, 2, 2, 1, 0, 0] : List Nat).length = 7 := rfl
  refine E_iload_n at_X6_item_57 rfl ?_
  refine E_aload_n at_X6_item_58 rfl ?_
  refine E_getfield (v := .ref 83) at_X6_item_59 w65 rfl (by decide) rfl ?_
  refine E_iload_n at_X6_item_62 rfl ?_
  refine E_ialN (l := [3, 3, 2, 2, 1, 0, 0]) (v := 2) at_X6_item_63 w83 (by omega) (by omega) rfl ?_
  refine E_ic (t := 166) (b := false) at_X6_item_64 rfl (by decide) ?_
  refine E_iload_n at_X6_item_67 rfl ?_
  refine E_if (t := 121) (b := false) at_X6_item_68 rfl (by decide) ?_
  refine E_aload_n at_X6_item_71 rfl ?_
  refine E_getfield (v := .int (nI a)) at_X6_item_72 w65 rfl (by decide) rfl ?_
  refine E_aload_n at_X6_item_75 rfl ?_
  refine E_getfield (v := .int (nI n)) at_X6_item_76 w65 rfl (by decide) rfl ?_
  refine E_ic (t := 102) (b := false) at_X6_item_79 rfl ((cn_ge (nI_toInt (by omega)) (nI_toInt (by omega))).trans (decide_eq_false (by omega))) ?_
  refine E_aload_n at_X6_item_82 rfl ?_
  refine E_getfield (v := .ref 80) at_X6_item_83 w65 rfl (by decide) rfl ?_
  refine E_aload_n at_X6_item_86 rfl ?_
  refine E_getfield (v := .int (nI (160 * j))) at_X6_item_87 w65 rfl (by decide) rfl ?_
  refine E_aload_n at_X6_item_90 rfl ?_
  refine E_getfield (v := .int (nI a)) at_X6_item_91 w65 rfl (by decide) rfl ?_
  refine E_iadd (z := nI ((160 * j) + a)) at_X6_item_94 (nI_add _ _) ?_
  refine E_lalL (l := ce) (v := ce.getD ((160 * j) + a) 0) at_X6_item_95 w80 (by omega) (by omega) rfl ?_
  refine E_l2i (z := tw e a) at_X6_item_96 (by unfold tw; rw [hce a (by omega)]) ?_
  refine E_bipush (x := nI 32) at_X6_item_97 (by decide) ?_
  refine E_ic (t := 111) (b := true) at_X6_item_99 rfl ((cn_eq rfl (nI_toInt (by omega))).trans (decide_eq_true (by omega))) ?_
  refine E_aload_n at_X6_item_111 rfl ?_
  refine E_dup at_X6_item_112 rfl ?_
  refine E_getfield (v := .int (nI a)) at_X6_item_113 w65 rfl (by decide) rfl ?_
  refine E_iconst (x := nI 1) at_X6_item_116 (by decide) ?_
  refine E_iadd (z := nI (a + 1)) at_X6_item_117 (nI_add _ _) ?_
  refine E_putfield (cs2 := (ww im lf s d k ls rf rz ra rn rq lt m1 m2 m3 m4 bd fc hd sz el q (fUp (fUp (fUp (fUp (fUp (fUp g 27 (nI (160 * j))) 29 (nI n)) 6 (-1)) 28 (nI (a + 1))) 30 x30) 31 x31) fm hm so si sh ce ca td wa kp la bf oo bo pw ow tr)) at_X6_item_118 w65 rfl (by decide) (Nat.le_of_ble_eq_true rfl) rfl rfl rfl (w_pt65_28.trans (by rw [gn28])) ?_
  refine E_aload_n at_X6_item_121 rfl ?_
  refine E_getfield (v := .int (nI (a + 1))) at_X6_item_122 w65 rfl (by decide) rfl ?_
  refine E_istore_n (L2 := [some (.ref 65), some (.int (nI 2)), some (.int (nI 1)), some (.int (nI (a + 1)))]) at_X6_item_125 rfl ?_
  refine E_aload_n at_X6_item_126 rfl ?_
  refine E_callV (v := some (.int (nI 0))) (As := [.ref 65]) (r0 := []) (cs2 := (ww im lf s d k ls rf rz ra rn rq lt m1 m2 m3 m4 bd fc hd sz el q (fUp (fUp (fUp (fUp (fUp (fUp g 27 (nI (160 * j))) 29 (nI n)) 6 (-1)) 28 (nI (a + 1))) 30 (nI 0)) 31 (nI (a + 1))) fm hm so si sh ce ca td wa kp la bf oo bo pw ow tr)) at_X6_item_127 rfl rfl (Nat.le_of_ble_eq_true rfl) rfl (ab_rvOf w65 rfl) (m_rd0 hj hn (by omega) l_ce hce hdg) (by decide) w_lens ?_
  refine E_if (t := 135) (b := false) at_X6_item_130 rfl (by decide) ?_
  refine E_iconst (x := nI 0) at_X6_item_133 (by decide) ?_
  exact E_iret at_X6_item_134 rfl
set_option maxHeartbeats 1000000 in
theorem md210 {e : List Int64} {n a j : Nat} {x30 x31 : Int32} {q : ab_q} (hj : j < 8) (hn : n ≤ 160) (ha : a ≤ n) (Iq : qI q) (l_td : td.length = 3) (l_ce : ce.length = 1280) (hce : ∀ p, p < 160 → e.getD p 0 = ce.getD (160 * j + p) 0) {x3 : Option Value} (hb : chB e n a 32 = true) (hdg : dgB e n (a + 1) = true) (hr : nuV e n (a + 1) < 1) : Ef ab_Z0 2 mX6_item (57, [some (.ref 65), some (.int (nI 2)), some (.int (nI 1)), x3], [], (ww im lf s d k ls rf rz ra rn rq lt m1 m2 m3 m4 bd fc hd sz el q (fUp (fUp (fUp (fUp (fUp (fUp g 27 (nI (160 * j))) 29 (nI n)) 6 (-1)) 28 (nI a)) 30 x30) 31 x31) fm hm so si sh ce ca td wa kp la bf oo bo pw ow tr)) (some (.int (nI 0)), (ww im lf s d k ls rf rz ra rn rq lt m1 m2 m3 m4 bd fc hd sz el q (fUp (fUp (fUp (fUp (fUp (fUp g 27 (nI (160 * j))) 29 (nI n)) 6 (-1)) 28 (nI (cnE e n a))) 30 (nI (nuV e n (a + 1)))) 31 (nI (a + 1))) fm hm so si sh ce ca td wa kp la bf oo bo pw ow tr)) := by
  obtain ⟨⟨i0, i1, i2, i3⟩, ⟨i4, i5, i6, i7, i8⟩, ⟨i9, i10⟩, I1_, I2_, I3_, I4_⟩ := id Iq
  have hb_ := chB_t hb
  have hd_ := dgB_t hdg
  have h99 := nuV_99 hdg
  have hcn := cnE_n hdg
  have : ([3, 3, 2, 2, 1, 0, 0] : List Nat).length = 7 := rfl
  have : ([6, 9, 50, 99, 9, 7, 7, 60] : List Nat).length = 8 := rfl
  refine E_iload_n at_X6_item_57 rfl ?_
  refine E_aload_n at_X6_item_58 rfl ?_
  refine E_getfield (v := .ref 83) at_X6_item_59 w65 rfl (by decide) rfl ?_
  refine E_iload_n at_X6_item_62 rfl ?_
  refine E_ialN (l := [3, 3, 2, 2, 1, 0, 0]) (v := 2) at_X6_item_63 w83 (by omega) (by omega) rfl ?_
  refine E_ic (t := 166) (b := false) at_X6_item_64 rfl (by decide) ?_
  refine E_iload_n at_X6_item_67 rfl ?_
  refine E_if (t := 121) (b := false) at_X6_item_68 rfl (by decide) ?_
  refine E_aload_n at_X6_item_71 rfl ?_
  refine E_getfield (v := .int (nI a)) at_X6_item_72 w65 rfl (by decide) rfl ?_
  refine E_aload_n at_X6_item_75 rfl ?_
  refine E_getfield (v := .int (nI n)) at_X6_item_76 w65 rfl (by decide) rfl ?_
  refine E_ic (t := 102) (b := false) at_X6_item_79 rfl ((cn_ge (nI_toInt (by omega)) (nI_toInt (by omega))).trans (decide_eq_false (by omega))) ?_
  refine E_aload_n at_X6_item_82 rfl ?_
  refine E_getfield (v := .ref 80) at_X6_item_83 w65 rfl (by decide) rfl ?_
  refine E_aload_n at_X6_item_86 rfl ?_
  refine E_getfield (v := .int (nI (160 * j))) at_X6_item_87 w65 rfl (by decide) rfl ?_
  refine E_aload_n at_X6_item_90 rfl ?_
  refine E_getfield (v := .int (nI a)) at_X6_item_91 w65 rfl (by decide) rfl ?_
  refine E_iadd (z := nI ((160 * j) + a)) at_X6_item_94 (nI_add _ _) ?_
  refine E_lalL (l := ce) (v := ce.getD ((160 * j) + a) 0) at_X6_item_95 w80 (by omega) (by omega) rfl ?_
  refine E_l2i (z := tw e a) at_X6_item_96 (by unfold tw; rw [hce a (by omega)]) ?_
  refine E_bipush (x := nI 32) at_X6_item_97 (by decide) ?_
  refine E_ic (t := 111) (b := true) at_X6_item_99 rfl ((cn_eq rfl (nI_toInt (by omega))).trans (decide_eq_true (by omega))) ?_
  refine E_aload_n at_X6_item_111 rfl ?_
  refine E_dup at_X6_item_112 rfl ?_
  refine E_getfield (v := .int (nI a)) at_X6_item_113 w65 rfl (by decide) rfl ?_
  refine E_iconst (x := nI 1) at_X6_item_116 (by decide) ?_
  refine E_iadd (z := nI (a + 1)) at_X6_item_117 (nI_add _ _) ?_
  refine E_putfield (cs2 := (ww im lf s d k ls rf rz ra rn rq lt m1 m2 m3 m4 bd fc hd sz el q (fUp (fUp (fUp (fUp (fUp (fUp g 27 (nI (160 * j))) 29 (nI n)) 6 (-1)) 28 (nI (a + 1))) 30 x30) 31 x31) fm hm so si sh ce ca td wa kp la bf oo bo pw ow tr)) at_X6_item_118 w65 rfl (by decide) (Nat.le_of_ble_eq_true rfl) rfl rfl rfl (w_pt65_28.trans (by rw [gn28])) ?_
  refine E_aload_n at_X6_item_121 rfl ?_
  refine E_getfield (v := .int (nI (a + 1))) at_X6_item_122 w65 rfl (by decide) rfl ?_
  refine E_istore_n (L2 := [some (.ref 65), some (.int (nI 2)), some (.int (nI 1)), some (.int (nI (a + 1)))]) at_X6_item_125 rfl ?_
  refine E_aload_n at_X6_item_126 rfl ?_
  refine E_callV (v := some (.int (nI 1))) (As := [.ref 65]) (r0 := []) (cs2 := (ww im lf s d k ls rf rz ra rn rq lt m1 m2 m3 m4 bd fc hd sz el q (fUp (fUp (fUp (fUp (fUp (fUp g 27 (nI (160 * j))) 29 (nI n)) 6 (-1)) 28 (nI (cnE e n a))) 30 (nI (nuV e n (a + 1)))) 31 x31) fm hm so si sh ce ca td wa kp la bf oo bo pw ow tr)) at_X6_item_127 rfl rfl (Nat.le_of_ble_eq_true rfl) rfl (ab_rvOf w65 rfl) (m_rd1 hj hn (by omega) l_ce hce hdg) (by decide) w_lens ?_
  refine E_if (t := 135) (b := true) at_X6_item_130 rfl (by decide) ?_
  refine E_aload_n at_X6_item_135 rfl ?_
  refine E_iload_n at_X6_item_136 rfl ?_
  refine E_iload_n at_X6_item_137 rfl ?_
  have e2 : Ev ab_Z0 2 161 [.ref 65, .int (nI 2), .int (nI 1)] (ww im lf s d k ls rf rz ra rn rq lt m1 m2 m3 m4 bd fc hd sz el q (fUp (fUp (fUp (fUp (fUp (fUp g 27 (nI (160 * j))) 29 (nI n)) 6 (-1)) 28 (nI (cnE e n a))) 30 (nI (nuV e n (a + 1)))) 31 x31) fm hm so si sh ce ca td wa kp la bf oo bo pw ow tr) (some (.int (nI 0)), (ww im lf s d k ls rf rz ra rn rq lt m1 m2 m3 m4 bd fc hd sz el q (fUp (fUp (fUp (fUp (fUp (fUp g 27 (nI (160 * j))) 29 (nI n)) 6 (-1)) 28 (nI (cnE e n a))) 30 (nI (nuV e n (a + 1)))) 31 x31) fm hm so si sh ce ca td wa kp la bf oo bo pw ow tr)) := by
    refine Ef.in (md := mX6_isSo) (L := [some (.ref 65), some (.int (nI 2)), some (.int (nI 1))]) rfl (Nat.le_of_ble_eq_true rfl) rfl ?_
    refine E_iload_n at_X6_isSo_0 rfl ?_
    refine E_iconst (x := nI 3) at_X6_isSo_1 (by decide) ?_
    refine E_ic (t := 48) (b := false) at_X6_isSo_2 rfl (by decide) ?_
    refine E_aload_n at_X6_isSo_5 rfl ?_
    refine E_aload_n at_X6_isSo_6 rfl ?_
    refine E_getfield (v := .int (nI (nuV e n (a + 1)))) at_X6_isSo_7 w65 rfl (by decide) rfl ?_
    refine E_iload_n at_X6_isSo_10 rfl ?_
    refine E_if (t := 19) (b := true) at_X6_isSo_11 rfl (by decide) ?_
    refine E_iload_n at_X6_isSo_19 rfl ?_
    refine E_iconst (x := nI 2) at_X6_isSo_20 (by decide) ?_
    refine E_ic (t := 33) (b := false) at_X6_isSo_21 rfl (by decide) ?_
    refine E_iload_n at_X6_isSo_24 rfl ?_
    refine E_iconst (x := nI 1) at_X6_isSo_25 (by decide) ?_
    refine E_ic (t := 33) (b := false) at_X6_isSo_26 rfl (by decide) ?_
    refine E_iconst (x := nI 1) at_X6_isSo_29 (by decide) ?_
    refine E_goto (t := 34) at_X6_isSo_30 rfl ?_
    refine E_aload_n at_X6_isSo_34 rfl ?_
    refine E_getfield (v := .ref 84) at_X6_isSo_35 w65 rfl (by decide) rfl ?_
    refine E_iconst (x := nI 3) at_X6_isSo_38 (by decide) ?_
    refine E_iload_n at_X6_isSo_39 rfl ?_
    refine E_imul (z := nI 6) at_X6_isSo_40 (by decide) ?_
    refine E_iload_n at_X6_isSo_41 rfl ?_
    refine E_iadd (z := nI 7) at_X6_isSo_42 (by decide) ?_
    refine E_ialN (l := [6, 9, 50, 99, 9, 7, 7, 60]) (v := 60) at_X6_isSo_43 w84 (by omega) (by omega) rfl ?_
    have e1 : Ev ab_Z0 1 134 [.ref 65, .int (nI (nuV e n (a + 1))), .int (nI 1), .int (nI 60)] (ww im lf s d k ls rf rz ra rn rq lt m1 m2 m3 m4 bd fc hd sz el q (fUp (fUp (fUp (fUp (fUp (fUp g 27 (nI (160 * j))) 29 (nI n)) 6 (-1)) 28 (nI (cnE e n a))) 30 (nI (nuV e n (a + 1)))) 31 x31) fm hm so si sh ce ca td wa kp la bf oo bo pw ow tr) (some (.int (nI 0)), (ww im lf s d k ls rf rz ra rn rq lt m1 m2 m3 m4 bd fc hd sz el q (fUp (fUp (fUp (fUp (fUp (fUp g 27 (nI (160 * j))) 29 (nI n)) 6 (-1)) 28 (nI (cnE e n a))) 30 (nI (nuV e n (a + 1)))) 31 x31) fm hm so si sh ce ca td wa kp la bf oo bo pw ow tr)) := by
      refine Ef.in (md := mX6_isFrom) (L := [some (.ref 65), some (.int (nI (nuV e n (a + 1)))), some (.int (nI 1)), some (.int (nI 60))]) rfl (Nat.le_of_ble_eq_true rfl) rfl ?_
      refine E_iload_n at_X6_isFrom_0 rfl ?_
      refine E_iload_n at_X6_isFrom_1 rfl ?_
      refine E_ic (t := 14) (b := true) at_X6_isFrom_2 rfl ((cn_lt (nI_toInt (by omega)) (nI_toInt (by omega))).trans (decide_eq_true (by omega))) ?_
      refine E_iconst (x := nI 0) at_X6_isFrom_14 (by decide) ?_
      exact E_iret at_X6_isFrom_15 rfl
    refine E_callV (v := some (.int (nI 0))) (As := [.ref 65, .int (nI (nuV e n (a + 1))), .int (nI 1), .int (nI 60)]) (r0 := []) (cs2 := (ww im lf s d k ls rf rz ra rn rq lt m1 m2 m3 m4 bd fc hd sz el q (fUp (fUp (fUp (fUp (fUp (fUp g 27 (nI (160 * j))) 29 (nI n)) 6 (-1)) 28 (nI (cnE e n a))) 30 (nI (nuV e n (a + 1)))) 31 x31) fm hm so si sh ce ca td wa kp la bf oo bo pw ow tr)) at_X6_isSo_44 rfl rfl (Nat.le_of_ble_eq_true rfl) rfl (ab_rvOf w65 rfl) e1 (by decide) rfl ?_
    exact E_iret at_X6_isSo_47 rfl
  refine E_callV (v := some (.int (nI 0))) (As := [.ref 65, .int (nI 2), .int (nI 1)]) (r0 := []) (cs2 := (ww im lf s d k ls rf rz ra rn rq lt m1 m2 m3 m4 bd fc hd sz el q (fUp (fUp (fUp (fUp (fUp (fUp g 27 (nI (160 * j))) 29 (nI n)) 6 (-1)) 28 (nI (cnE e n a))) 30 (nI (nuV e n (a + 1)))) 31 x31) fm hm so si sh ce ca td wa kp la bf oo bo pw ow tr)) at_X6_item_138 rfl rfl (Nat.le_of_ble_eq_true rfl) rfl (ab_rvOf w65 rfl) e2 (by decide) rfl ?_
  refine E_if (t := 150) (b := false) at_X6_item_141 rfl (by decide) ?_
  refine E_aload_n at_X6_item_144 rfl ?_
  refine E_iload_n at_X6_item_145 rfl ?_
  have e3 : Ev ab_Z0 1 156 [.ref 65, .int (nI (a + 1))] (ww im lf s d k ls rf rz ra rn rq lt m1 m2 m3 m4 bd fc hd sz el q (fUp (fUp (fUp (fUp (fUp (fUp g 27 (nI (160 * j))) 29 (nI n)) 6 (-1)) 28 (nI (cnE e n a))) 30 (nI (nuV e n (a + 1)))) 31 x31) fm hm so si sh ce ca td wa kp la bf oo bo pw ow tr) (some (.int (nI 0)), (ww im lf s d k ls rf rz ra rn rq lt m1 m2 m3 m4 bd fc hd sz el q (fUp (fUp (fUp (fUp (fUp (fUp g 27 (nI (160 * j))) 29 (nI n)) 6 (-1)) 28 (nI (cnE e n a))) 30 (nI (nuV e n (a + 1)))) 31 (nI (a + 1))) fm hm so si sh ce ca td wa kp la bf oo bo pw ow tr)) := by
    refine Ef.in (md := mX6_wrong) (L := [some (.ref 65), some (.int (nI (a + 1)))]) rfl (Nat.le_of_ble_eq_true rfl) rfl ?_
    refine E_aload_n at_X6_wrong_0 rfl ?_
    refine E_iload_n at_X6_wrong_1 rfl ?_
    refine E_putfield (cs2 := (ww im lf s d k ls rf rz ra rn rq lt m1 m2 m3 m4 bd fc hd sz el q (fUp (fUp (fUp (fUp (fUp (fUp g 27 (nI (160 * j))) 29 (nI n)) 6 (-1)) 28 (nI (cnE e n a))) 30 (nI (nuV e n (a + 1)))) 31 (nI (a + 1))) fm hm so si sh ce ca td wa kp la bf oo bo pw ow tr)) at_X6_wrong_2 w65 rfl (by decide) (Nat.le_of_ble_eq_true rfl) rfl rfl rfl (w_pt65_31.trans (by rw [gn31])) ?_
    refine E_iconst (x := nI 0) at_X6_wrong_5 (by decide) ?_
    exact E_iret at_X6_wrong_6 rfl
  refine E_callV (v := some (.int (nI 0))) (As := [.ref 65, .int (nI (a + 1))]) (r0 := []) (cs2 := (ww im lf s d k ls rf rz ra rn rq lt m1 m2 m3 m4 bd fc hd sz el q (fUp (fUp (fUp (fUp (fUp (fUp g 27 (nI (160 * j))) 29 (nI n)) 6 (-1)) 28 (nI (cnE e n a))) 30 (nI (nuV e n (a + 1)))) 31 (nI (a + 1))) fm hm so si sh ce ca td wa kp la bf oo bo pw ow tr)) at_X6_item_146 rfl rfl (Nat.le_of_ble_eq_true rfl) rfl (ab_rvOf w65 rfl) e3 (by decide) w_lens ?_
  exact E_iret at_X6_item_149 rfl
set_option maxHeartbeats 1000000 in
theorem md211 {e : List Int64} {n a j : Nat} {x30 x31 : Int32} {q : ab_q} (hj : j < 8) (hn : n ≤ 160) (ha : a ≤ n) (Iq : qI q) (l_td : td.length = 3) (l_ce : ce.length = 1280) (hce : ∀ p, p < 160 → e.getD p 0 = ce.getD (160 * j + p) 0) {x3 : Option Value} (hb : chB e n a 32 = true) (hdg : dgB e n (a + 1) = true) (hr : 61 ≤ nuV e n (a + 1)) : Ef ab_Z0 2 mX6_item (57, [some (.ref 65), some (.int (nI 2)), some (.int (nI 1)), x3], [], (ww im lf s d k ls rf rz ra rn rq lt m1 m2 m3 m4 bd fc hd sz el q (fUp (fUp (fUp (fUp (fUp (fUp g 27 (nI (160 * j))) 29 (nI n)) 6 (-1)) 28 (nI a)) 30 x30) 31 x31) fm hm so si sh ce ca td wa kp la bf oo bo pw ow tr)) (some (.int (nI 0)), (ww im lf s d k ls rf rz ra rn rq lt m1 m2 m3 m4 bd fc hd sz el q (fUp (fUp (fUp (fUp (fUp (fUp g 27 (nI (160 * j))) 29 (nI n)) 6 (-1)) 28 (nI (cnE e n a))) 30 (nI (nuV e n (a + 1)))) 31 (nI (a + 1))) fm hm so si sh ce ca td wa kp la bf oo bo pw ow tr)) := by
  obtain ⟨⟨i0, i1, i2, i3⟩, ⟨i4, i5, i6, i7, i8⟩, ⟨i9, i10⟩, I1_, I2_, I3_, I4_⟩ := id Iq
  have hb_ := chB_t hb
  have hd_ := dgB_t hdg
  have h99 := nuV_99 hdg
  have hcn := cnE_n hdg
  have : ([3, 3, 2, 2, 1, 0, 0] : List Nat).length = 7 := rfl
  have : ([6, 9, 50, 99, 9, 7, 7, 60] : List Nat).length = 8 := rfl
  refine E_iload_n at_X6_item_57 rfl ?_
  refine E_aload_n at_X6_item_58 rfl ?_
  refine E_getfield (v := .ref 83) at_X6_item_59 w65 rfl (by decide) rfl ?_
  refine E_iload_n at_X6_item_62 rfl ?_
  refine E_ialN (l := [3, 3, 2, 2, 1, 0, 0]) (v := 2) at_X6_item_63 w83 (by omega) (by omega) rfl ?_
  refine E_ic (t := 166) (b := false) at_X6_item_64 rfl (by decide) ?_
  refine E_iload_n at_X6_item_67 rfl ?_
  refine E_if (t := 121) (b := false) at_X6_item_68 rfl (by decide) ?_
  refine E_aload_n at_X6_item_71 rfl ?_
  refine E_getfield (v := .int (nI a)) at_X6_item_72 w65 rfl (by decide) rfl ?_
  refine E_aload_n at_X6_item_75 rfl ?_
  refine E_getfield (v := .int (nI n)) at_X6_item_76 w65 rfl (by decide) rfl ?_
  refine E_ic (t := 102) (b := false) at_X6_item_79 rfl ((cn_ge (nI_toInt (by omega)) (nI_toInt (by omega))).trans (decide_eq_false (by omega))) ?_
  refine E_aload_n at_X6_item_82 rfl ?_
  refine E_getfield (v := .ref 80) at_X6_item_83 w65 rfl (by decide) rfl ?_
  refine E_aload_n at_X6_item_86 rfl ?_
  refine E_getfield (v := .int (nI (160 * j))) at_X6_item_87 w65 rfl (by decide) rfl ?_
  refine E_aload_n at_X6_item_90 rfl ?_
  refine E_getfield (v := .int (nI a)) at_X6_item_91 w65 rfl (by decide) rfl ?_
  refine E_iadd (z := nI ((160 * j) + a)) at_X6_item_94 (nI_add _ _) ?_
  refine E_lalL (l := ce) (v := ce.getD ((160 * j) + a) 0) at_X6_item_95 w80 (by omega) (by omega) rfl ?_
  refine E_l2i (z := tw e a) at_X6_item_96 (by unfold tw; rw [hce a (by omega)]) ?_
  refine E_bipush (x := nI 32) at_X6_item_97 (by decide) ?_
  refine E_ic (t := 111) (b := true) at_X6_item_99 rfl ((cn_eq rfl (nI_toInt (by omega))).trans (decide_eq_true (by omega))) ?_
  refine E_aload_n at_X6_item_111 rfl ?_
  refine E_dup at_X6_item_112 rfl ?_
  refine E_getfield (v := .int (nI a)) at_X6_item_113 w65 rfl (by decide) rfl ?_
  refine E_iconst (x := nI 1) at_X6_item_116 (by decide) ?_
  refine E_iadd (z := nI (a + 1)) at_X6_item_117 (nI_add _ _) ?_
  refine E_putfield (cs2 := (ww im lf s d k ls rf rz ra rn rq lt m1 m2 m3 m4 bd fc hd sz el q (fUp (fUp (fUp (fUp (fUp (fUp g 27 (nI (160 * j))) 29 (nI n)) 6 (-1)) 28 (nI (a + 1))) 30 x30) 31 x31) fm hm so si sh ce ca td wa kp la bf oo bo pw ow tr)) at_X6_item_118 w65 rfl (by decide) (Nat.le_of_ble_eq_true rfl) rfl rfl rfl (w_pt65_28.trans (by rw [gn28])) ?_
  refine E_aload_n at_X6_item_121 rfl ?_
  refine E_getfield (v := .int (nI (a + 1))) at_X6_item_122 w65 rfl (by decide) rfl ?_
  refine E_istore_n (L2 := [some (.ref 65), some (.int (nI 2)), some (.int (nI 1)), some (.int (nI (a + 1)))]) at_X6_item_125 rfl ?_
  refine E_aload_n at_X6_item_126 rfl ?_
  refine E_callV (v := some (.int (nI 1))) (As := [.ref 65]) (r0 := []) (cs2 := (ww im lf s d k ls rf rz ra rn rq lt m1 m2 m3 m4 bd fc hd sz el q (fUp (fUp (fUp (fUp (fUp (fUp g 27 (nI (160 * j))) 29 (nI n)) 6 (-1)) 28 (nI (cnE e n a))) 30 (nI (nuV e n (a + 1)))) 31 x31) fm hm so si sh ce ca td wa kp la bf oo bo pw ow tr)) at_X6_item_127 rfl rfl (Nat.le_of_ble_eq_true rfl) rfl (ab_rvOf w65 rfl) (m_rd1 hj hn (by omega) l_ce hce hdg) (by decide) w_lens ?_
  refine E_if (t := 135) (b := true) at_X6_item_130 rfl (by decide) ?_
  refine E_aload_n at_X6_item_135 rfl ?_
  refine E_iload_n at_X6_item_136 rfl ?_
  refine E_iload_n at_X6_item_137 rfl ?_
  have e2 : Ev ab_Z0 2 161 [.ref 65, .int (nI 2), .int (nI 1)] (ww im lf s d k ls rf rz ra rn rq lt m1 m2 m3 m4 bd fc hd sz el q (fUp (fUp (fUp (fUp (fUp (fUp g 27 (nI (160 * j))) 29 (nI n)) 6 (-1)) 28 (nI (cnE e n a))) 30 (nI (nuV e n (a + 1)))) 31 x31) fm hm so si sh ce ca td wa kp la bf oo bo pw ow tr) (some (.int (nI 0)), (ww im lf s d k ls rf rz ra rn rq lt m1 m2 m3 m4 bd fc hd sz el q (fUp (fUp (fUp (fUp (fUp (fUp g 27 (nI (160 * j))) 29 (nI n)) 6 (-1)) 28 (nI (cnE e n a))) 30 (nI (nuV e n (a + 1)))) 31 x31) fm hm so si sh ce ca td wa kp la bf oo bo pw ow tr)) := by
    refine Ef.in (md := mX6_isSo) (L := [some (.ref 65), some (.int (nI 2)), some (.int (nI 1))]) rfl (Nat.le_of_ble_eq_true rfl) rfl ?_
    refine E_iload_n at_X6_isSo_0 rfl ?_
    refine E_iconst (x := nI 3) at_X6_isSo_1 (by decide) ?_
    refine E_ic (t := 48) (b := false) at_X6_isSo_2 rfl (by decide) ?_
    refine E_aload_n at_X6_isSo_5 rfl ?_
    refine E_aload_n at_X6_isSo_6 rfl ?_
    refine E_getfield (v := .int (nI (nuV e n (a + 1)))) at_X6_isSo_7 w65 rfl (by decide) rfl ?_
    refine E_iload_n at_X6_isSo_10 rfl ?_
    refine E_if (t := 19) (b := true) at_X6_isSo_11 rfl (by decide) ?_
    refine E_iload_n at_X6_isSo_19 rfl ?_
    refine E_iconst (x := nI 2) at_X6_isSo_20 (by decide) ?_
    refine E_ic (t := 33) (b := false) at_X6_isSo_21 rfl (by decide) ?_
    refine E_iload_n at_X6_isSo_24 rfl ?_
    refine E_iconst (x := nI 1) at_X6_isSo_25 (by decide) ?_
    refine E_ic (t := 33) (b := false) at_X6_isSo_26 rfl (by decide) ?_
    refine E_iconst (x := nI 1) at_X6_isSo_29 (by decide) ?_
    refine E_goto (t := 34) at_X6_isSo_30 rfl ?_
    refine E_aload_n at_X6_isSo_34 rfl ?_
    refine E_getfield (v := .ref 84) at_X6_isSo_35 w65 rfl (by decide) rfl ?_
    refine E_iconst (x := nI 3) at_X6_isSo_38 (by decide) ?_
    refine E_iload_n at_X6_isSo_39 rfl ?_
    refine E_imul (z := nI 6) at_X6_isSo_40 (by decide) ?_
    refine E_iload_n at_X6_isSo_41 rfl ?_
    refine E_iadd (z := nI 7) at_X6_isSo_42 (by decide) ?_
    refine E_ialN (l := [6, 9, 50, 99, 9, 7, 7, 60]) (v := 60) at_X6_isSo_43 w84 (by omega) (by omega) rfl ?_
    have e1 : Ev ab_Z0 1 134 [.ref 65, .int (nI (nuV e n (a + 1))), .int (nI 1), .int (nI 60)] (ww im lf s d k ls rf rz ra rn rq lt m1 m2 m3 m4 bd fc hd sz el q (fUp (fUp (fUp (fUp (fUp (fUp g 27 (nI (160 * j))) 29 (nI n)) 6 (-1)) 28 (nI (cnE e n a))) 30 (nI (nuV e n (a + 1)))) 31 x31) fm hm so si sh ce ca td wa kp la bf oo bo pw ow tr) (some (.int (nI 0)), (ww im lf s d k ls rf rz ra rn rq lt m1 m2 m3 m4 bd fc hd sz el q (fUp (fUp (fUp (fUp (fUp (fUp g 27 (nI (160 * j))) 29 (nI n)) 6 (-1)) 28 (nI (cnE e n a))) 30 (nI (nuV e n (a + 1)))) 31 x31) fm hm so si sh ce ca td wa kp la bf oo bo pw ow tr)) := by
      refine Ef.in (md := mX6_isFrom) (L := [some (.ref 65), some (.int (nI (nuV e n (a + 1)))), some (.int (nI 1)), some (.int (nI 60))]) rfl (Nat.le_of_ble_eq_true rfl) rfl ?_
      refine E_iload_n at_X6_isFrom_0 rfl ?_
      refine E_iload_n at_X6_isFrom_1 rfl ?_
      refine E_ic (t := 14) (b := false) at_X6_isFrom_2 rfl ((cn_lt (nI_toInt (by omega)) (nI_toInt (by omega))).trans (decide_eq_false (by omega))) ?_
      refine E_iload_n at_X6_isFrom_5 rfl ?_
      refine E_iload_n at_X6_isFrom_6 rfl ?_
      refine E_ic (t := 14) (b := true) at_X6_isFrom_7 rfl ((cn_gt (nI_toInt (by omega)) (nI_toInt (by omega))).trans (decide_eq_true (by omega))) ?_
      refine E_iconst (x := nI 0) at_X6_isFrom_14 (by decide) ?_
      exact E_iret at_X6_isFrom_15 rfl
    refine E_callV (v := some (.int (nI 0))) (As := [.ref 65, .int (nI (nuV e n (a + 1))), .int (nI 1), .int (nI 60)]) (r0 := []) (cs2 := (ww im lf s d k ls rf rz ra rn rq lt m1 m2 m3 m4 bd fc hd sz el q (fUp (fUp (fUp (fUp (fUp (fUp g 27 (nI (160 * j))) 29 (nI n)) 6 (-1)) 28 (nI (cnE e n a))) 30 (nI (nuV e n (a + 1)))) 31 x31) fm hm so si sh ce ca td wa kp la bf oo bo pw ow tr)) at_X6_isSo_44 rfl rfl (Nat.le_of_ble_eq_true rfl) rfl (ab_rvOf w65 rfl) e1 (by decide) rfl ?_
    exact E_iret at_X6_isSo_47 rfl
  refine E_callV (v := some (.int (nI 0))) (As := [.ref 65, .int (nI 2), .int (nI 1)]) (r0 := []) (cs2 := (ww im lf s d k ls rf rz ra rn rq lt m1 m2 m3 m4 bd fc hd sz el q (fUp (fUp (fUp (fUp (fUp (fUp g 27 (nI (160 * j))) 29 (nI n)) 6 (-1)) 28 (nI (cnE e n a))) 30 (nI (nuV e n (a + 1)))) 31 x31) fm hm so si sh ce ca td wa kp la bf oo bo pw ow tr)) at_X6_item_138 rfl rfl (Nat.le_of_ble_eq_true rfl) rfl (ab_rvOf w65 rfl) e2 (by decide) rfl ?_
  refine E_if (t := 150) (b := false) at_X6_item_141 rfl (by decide) ?_
  refine E_aload_n at_X6_item_144 rfl ?_
  refine E_iload_n at_X6_item_145 rfl ?_
  have e3 : Ev ab_Z0 1 156 [.ref 65, .int (nI (a + 1))] (ww im lf s d k ls rf rz ra rn rq lt m1 m2 m3 m4 bd fc hd sz el q (fUp (fUp (fUp (fUp (fUp (fUp g 27 (nI (160 * j))) 29 (nI n)) 6 (-1)) 28 (nI (cnE e n a))) 30 (nI (nuV e n (a + 1)))) 31 x31) fm hm so si sh ce ca td wa kp la bf oo bo pw ow tr) (some (.int (nI 0)), (ww im lf s d k ls rf rz ra rn rq lt m1 m2 m3 m4 bd fc hd sz el q (fUp (fUp (fUp (fUp (fUp (fUp g 27 (nI (160 * j))) 29 (nI n)) 6 (-1)) 28 (nI (cnE e n a))) 30 (nI (nuV e n (a + 1)))) 31 (nI (a + 1))) fm hm so si sh ce ca td wa kp la bf oo bo pw ow tr)) := by
    refine Ef.in (md := mX6_wrong) (L := [some (.ref 65), some (.int (nI (a + 1)))]) rfl (Nat.le_of_ble_eq_true rfl) rfl ?_
    refine E_aload_n at_X6_wrong_0 rfl ?_
    refine E_iload_n at_X6_wrong_1 rfl ?_
    refine E_putfield (cs2 := (ww im lf s d k ls rf rz ra rn rq lt m1 m2 m3 m4 bd fc hd sz el q (fUp (fUp (fUp (fUp (fUp (fUp g 27 (nI (160 * j))) 29 (nI n)) 6 (-1)) 28 (nI (cnE e n a))) 30 (nI (nuV e n (a + 1)))) 31 (nI (a + 1))) fm hm so si sh ce ca td wa kp la bf oo bo pw ow tr)) at_X6_wrong_2 w65 rfl (by decide) (Nat.le_of_ble_eq_true rfl) rfl rfl rfl (w_pt65_31.trans (by rw [gn31])) ?_
    refine E_iconst (x := nI 0) at_X6_wrong_5 (by decide) ?_
    exact E_iret at_X6_wrong_6 rfl
  refine E_callV (v := some (.int (nI 0))) (As := [.ref 65, .int (nI (a + 1))]) (r0 := []) (cs2 := (ww im lf s d k ls rf rz ra rn rq lt m1 m2 m3 m4 bd fc hd sz el q (fUp (fUp (fUp (fUp (fUp (fUp g 27 (nI (160 * j))) 29 (nI n)) 6 (-1)) 28 (nI (cnE e n a))) 30 (nI (nuV e n (a + 1)))) 31 (nI (a + 1))) fm hm so si sh ce ca td wa kp la bf oo bo pw ow tr)) at_X6_item_146 rfl rfl (Nat.le_of_ble_eq_true rfl) rfl (ab_rvOf w65 rfl) e3 (by decide) w_lens ?_
  exact E_iret at_X6_item_149 rfl
set_option maxHeartbeats 1000000 in
theorem mc30 {e : List Int64} {n a j : Nat} {x30 x31 : Int32} {q : ab_q} (hj : j < 8) (hn : n ≤ 160) (ha : a ≤ n) (Iq : qI q) (l_td : td.length = 3) (l_ce : ce.length = 1280) (hce : ∀ p, p < 160 → e.getD p 0 = ce.getD (160 * j + p) 0) {x3 : Option Value} (hb : chB e n a 32 = true) (hdg : dgB e n (a + 1) = true) (ho0 : 0 ≤ nuV e n (a + 1)) (ho1 : nuV e n (a + 1) < qN q) (ho2 : (qP q).getD (nuV e n (a + 1)) 0 = 99) {r : Option Value × List ab_C} (K : Ef ab_Z0 2 mX6_item (57, [some (.ref 65), some (.int (nI 3)), some (.int (nI 1)), some (.int (nI (a + 1)))], [], (ww im lf s d k ls rf rz ra rn rq lt m1 m2 m3 m4 bd fc hd sz el q (fUp (fUp (fUp (fUp (fUp (fUp g 27 (nI (160 * j))) 29 (nI n)) 6 (-1)) 28 (nI (cnE e n a))) 30 (nI (nuV e n (a + 1)))) 31 x31) fm hm so si sh ce ca (td.set 0 (nI (nuV e n (a + 1)))) wa kp la bf oo bo pw ow tr)) r) : Ef ab_Z0 2 mX6_item (57, [some (.ref 65), some (.int (nI 3)), some (.int (nI 0)), x3], [], (ww im lf s d k ls rf rz ra rn rq lt m1 m2 m3 m4 bd fc hd sz el q (fUp (fUp (fUp (fUp (fUp (fUp g 27 (nI (160 * j))) 29 (nI n)) 6 (-1)) 28 (nI (a + 1))) 30 x30) 31 x31) fm hm so si sh ce ca td wa kp la bf oo bo pw ow tr)) r := by
  obtain ⟨⟨i0, i1, i2, i3⟩, ⟨i4, i5, i6, i7, i8⟩, ⟨i9, i10⟩, I1_, I2_, I3_, I4_⟩ := id Iq
  have hb_ := chB_t hb
  have hd_ := dgB_t hdg
  have h99 := nuV_99 hdg
  have hcn := cnE_n hdg
  have hP9 := I1_ (nuV e n (a + 1)) (by omega)
  have : ([3, 3, 2, 2, 1, 0, 0] : List Nat).length = 7 := rfl
  have : (qP q).length = 9 := by first | omega | (simp only [List.length_set]; omega)
  refine E_iload_n at_X6_item_57 rfl ?_
  refine E_aload_n at_X6_item_58 rfl ?_
  refine E_getfield (v := .ref 83) at_X6_item_59 w65 rfl (by decide) rfl ?_
  refine E_iload_n at_X6_item_62 rfl ?_
  refine E_ialN (l := [3, 3, 2, 2, 1, 0, 0]) (v := 2) at_X6_item_63 w83 (by omega) (by omega) rfl ?_
  refine E_ic (t := 166) (b := false) at_X6_item_64 rfl (by decide) ?_
  refine E_iload_n at_X6_item_67 rfl ?_
  refine E_if (t := 121) (b := true) at_X6_item_68 rfl (by decide) ?_
  refine E_aload_n at_X6_item_121 rfl ?_
  refine E_getfield (v := .int (nI (a + 1))) at_X6_item_122 w65 rfl (by decide) rfl ?_
  refine E_istore_n (L2 := [some (.ref 65), some (.int (nI 3)), some (.int (nI 0)), some (.int (nI (a + 1)))]) at_X6_item_125 rfl ?_
  refine E_aload_n at_X6_item_126 rfl ?_
  refine E_callV (v := some (.int (nI 1))) (As := [.ref 65]) (r0 := []) (cs2 := (ww im lf s d k ls rf rz ra rn rq lt m1 m2 m3 m4 bd fc hd sz el q (fUp (fUp (fUp (fUp (fUp (fUp g 27 (nI (160 * j))) 29 (nI n)) 6 (-1)) 28 (nI (cnE e n a))) 30 (nI (nuV e n (a + 1)))) 31 x31) fm hm so si sh ce ca td wa kp la bf oo bo pw ow tr)) at_X6_item_127 rfl rfl (Nat.le_of_ble_eq_true rfl) rfl (ab_rvOf w65 rfl) (m_rd1 hj hn (by omega) l_ce hce hdg) (by decide) w_lens ?_
  refine E_if (t := 135) (b := true) at_X6_item_130 rfl (by decide) ?_
  refine E_aload_n at_X6_item_135 rfl ?_
  refine E_iload_n at_X6_item_136 rfl ?_
  refine E_iload_n at_X6_item_137 rfl ?_
  have e1 : Ev ab_Z0 1 161 [.ref 65, .int (nI 3), .int (nI 0)] (ww im lf s d k ls rf rz ra rn rq lt m1 m2 m3 m4 bd fc hd sz el q (fUp (fUp (fUp (fUp (fUp (fUp g 27 (nI (160 * j))) 29 (nI n)) 6 (-1)) 28 (nI (cnE e n a))) 30 (nI (nuV e n (a + 1)))) 31 x31) fm hm so si sh ce ca td wa kp la bf oo bo pw ow tr) (some (.int (nI 1)), (ww im lf s d k ls rf rz ra rn rq lt m1 m2 m3 m4 bd fc hd sz el q (fUp (fUp (fUp (fUp (fUp (fUp g 27 (nI (160 * j))) 29 (nI n)) 6 (-1)) 28 (nI (cnE e n a))) 30 (nI (nuV e n (a + 1)))) 31 x31) fm hm so si sh ce ca td wa kp la bf oo bo pw ow tr)) := by
    refine Ef.in (md := mX6_isSo) (L := [some (.ref 65), some (.int (nI 3)), some (.int (nI 0))]) rfl (Nat.le_of_ble_eq_true rfl) rfl ?_
    refine E_iload_n at_X6_isSo_0 rfl ?_
    refine E_iconst (x := nI 3) at_X6_isSo_1 (by decide) ?_
    refine E_ic (t := 48) (b := true) at_X6_isSo_2 rfl (by decide) ?_
    refine E_iload_n at_X6_isSo_48 rfl ?_
    refine E_iconst (x := nI 3) at_X6_isSo_49 (by decide) ?_
    refine E_ic (t := 75) (b := false) at_X6_isSo_50 rfl (by decide) ?_
    refine E_iload_n at_X6_isSo_53 rfl ?_
    refine E_iconst (x := nI 1) at_X6_isSo_54 (by decide) ?_
    refine E_ic (t := 75) (b := true) at_X6_isSo_55 rfl (by decide) ?_
    refine E_aload_n at_X6_isSo_75 rfl ?_
    refine E_getfield (v := .int (nI (nuV e n (a + 1)))) at_X6_isSo_76 w65 rfl (by decide) rfl ?_
    refine E_aload_n at_X6_isSo_79 rfl ?_
    refine E_getfield (v := .int (nI (qN q))) at_X6_isSo_80 w65 rfl (by decide) rfl ?_
    refine E_ic (t := 122) (b := false) at_X6_isSo_83 rfl ((cn_ge (nI_toInt (by omega)) (nI_toInt (by omega))).trans (decide_eq_false (by omega))) ?_
    refine E_aload_n at_X6_isSo_86 rfl ?_
    refine E_getfield (v := .ref 70) at_X6_isSo_87 w65 rfl (by decide) rfl ?_
    refine E_aload_n at_X6_isSo_90 rfl ?_
    refine E_getfield (v := .int (nI (nuV e n (a + 1)))) at_X6_isSo_91 w65 rfl (by decide) rfl ?_
    refine E_ialN (l := qP q) (v := (qP q).getD (nuV e n (a + 1)) 0) at_X6_isSo_94 w70 (by omega) (by omega) rfl ?_
    refine E_bipush (x := nI 99) at_X6_isSo_95 (by decide) ?_
    refine E_ic (t := 104) (b := false) at_X6_isSo_97 rfl ((cn_ne (nI_toInt (by omega)) (nI_toInt (by omega))).trans (decide_eq_false (by omega))) ?_
    refine E_iconst (x := nI 1) rfl (by decide) ?_
    refine E_goto (t := 105) rfl rfl ?_
    refine E_iload_n at_X6_isSo_105 rfl ?_
    refine E_iconst (x := nI 3) at_X6_isSo_106 (by decide) ?_
    refine E_ic (t := 114) (b := false) at_X6_isSo_107 rfl (by decide) ?_
    refine E_iconst (x := nI 1) rfl (by decide) ?_
    refine E_goto (t := 115) rfl rfl ?_
    refine E_ic (t := 122) (b := false) at_X6_isSo_115 rfl (by decide) ?_
    refine E_iconst (x := nI 1) rfl (by decide) ?_
    refine E_goto (t := 123) rfl rfl ?_
    exact E_iret at_X6_isSo_123 rfl
  refine E_callV (v := some (.int (nI 1))) (As := [.ref 65, .int (nI 3), .int (nI 0)]) (r0 := []) (cs2 := (ww im lf s d k ls rf rz ra rn rq lt m1 m2 m3 m4 bd fc hd sz el q (fUp (fUp (fUp (fUp (fUp (fUp g 27 (nI (160 * j))) 29 (nI n)) 6 (-1)) 28 (nI (cnE e n a))) 30 (nI (nuV e n (a + 1)))) 31 x31) fm hm so si sh ce ca td wa kp la bf oo bo pw ow tr)) at_X6_item_138 rfl rfl (Nat.le_of_ble_eq_true rfl) rfl (ab_rvOf w65 rfl) e1 (by decide) rfl ?_
  refine E_if (t := 150) (b := true) at_X6_item_141 rfl (by decide) ?_
  refine E_aload_n at_X6_item_150 rfl ?_
  refine E_getfield (v := .ref 85) at_X6_item_151 w65 rfl (by decide) rfl ?_
  refine E_iload_n at_X6_item_154 rfl ?_
  refine E_aload_n at_X6_item_155 rfl ?_
  refine E_getfield (v := .int (nI (nuV e n (a + 1)))) at_X6_item_156 w65 rfl (by decide) rfl ?_
  refine E_iasI (l := td) (cs2 := (ww im lf s d k ls rf rz ra rn rq lt m1 m2 m3 m4 bd fc hd sz el q (fUp (fUp (fUp (fUp (fUp (fUp g 27 (nI (160 * j))) 29 (nI n)) 6 (-1)) 28 (nI (cnE e n a))) 30 (nI (nuV e n (a + 1)))) 31 x31) fm hm so si sh ce ca (td.set 0 (nI (nuV e n (a + 1)))) wa kp la bf oo bo pw ow tr)) at_X6_item_159 w85 (by omega) (by omega) rfl ?_
  refine E_iinc (y := nI 1) (L2 := [some (.ref 65), some (.int (nI 3)), some (.int (nI 1)), some (.int (nI (a + 1)))]) at_X6_item_160 rfl (by decide) rfl ?_
  refine E_goto (t := 57) at_X6_item_163 rfl ?_
  exact K
set_option maxHeartbeats 1000000 in
theorem mb30 {e : List Int64} {n a j : Nat} {x30 x31 : Int32} {q : ab_q} (hj : j < 8) (hn : n ≤ 160) (ha : a ≤ n) (Iq : qI q) (l_td : td.length = 3) (l_ce : ce.length = 1280) (hce : ∀ p, p < 160 → e.getD p 0 = ce.getD (160 * j + p) 0) {x3 : Option Value} (hb : chB e n a 32 = true) (hdg : dgB e n (a + 1) = false) : Ef ab_Z0 2 mX6_item (57, [some (.ref 65), some (.int (nI 3)), some (.int (nI 0)), x3], [], (ww im lf s d k ls rf rz ra rn rq lt m1 m2 m3 m4 bd fc hd sz el q (fUp (fUp (fUp (fUp (fUp (fUp g 27 (nI (160 * j))) 29 (nI n)) 6 (-1)) 28 (nI (a + 1))) 30 x30) 31 x31) fm hm so si sh ce ca td wa kp la bf oo bo pw ow tr)) (some (.int (nI 0)), (ww im lf s d k ls rf rz ra rn rq lt m1 m2 m3 m4 bd fc hd sz el q (fUp (fUp (fUp (fUp (fUp (fUp g 27 (nI (160 * j))) 29 (nI n)) 6 (-1)) 28 (nI (a + 1))) 30 (nI 0)) 31 (nI (a + 1))) fm hm so si sh ce ca td wa kp la bf oo bo pw ow tr)) := by
  have hb_ := chB_t hb
  have : ([3, 3, 2, 2, 1, 0, 0] : List Nat).length = 7 := rfl
  refine E_iload_n at_X6_item_57 rfl ?_
  refine E_aload_n at_X6_item_58 rfl ?_
  refine E_getfield (v := .ref 83) at_X6_item_59 w65 rfl (by decide) rfl ?_
  refine E_iload_n at_X6_item_62 rfl ?_
  refine E_ialN (l := [3, 3, 2, 2, 1, 0, 0]) (v := 2) at_X6_item_63 w83 (by omega) (by omega) rfl ?_
  refine E_ic (t := 166) (b := false) at_X6_item_64 rfl (by decide) ?_
  refine E_iload_n at_X6_item_67 rfl ?_
  refine E_if (t := 121) (b := true) at_X6_item_68 rfl (by decide) ?_
  refine E_aload_n at_X6_item_121 rfl ?_
  refine E_getfield (v := .int (nI (a + 1))) at_X6_item_122 w65 rfl (by decide) rfl ?_
  refine E_istore_n (L2 := [some (.ref 65), some (.int (nI 3)), some (.int (nI 0)), some (.int (nI (a + 1)))]) at_X6_item_125 rfl ?_
  refine E_aload_n at_X6_item_126 rfl ?_
  refine E_callV (v := some (.int (nI 0))) (As := [.ref 65]) (r0 := []) (cs2 := (ww im lf s d k ls rf rz ra rn rq lt m1 m2 m3 m4 bd fc hd sz el q (fUp (fUp (fUp (fUp (fUp (fUp g 27 (nI (160 * j))) 29 (nI n)) 6 (-1)) 28 (nI (a + 1))) 30 (nI 0)) 31 (nI (a + 1))) fm hm so si sh ce ca td wa kp la bf oo bo pw ow tr)) at_X6_item_127 rfl rfl (Nat.le_of_ble_eq_true rfl) rfl (ab_rvOf w65 rfl) (m_rd0 hj hn (by omega) l_ce hce hdg) (by decide) w_lens ?_
  refine E_if (t := 135) (b := false) at_X6_item_130 rfl (by decide) ?_
  refine E_iconst (x := nI 0) at_X6_item_133 (by decide) ?_
  exact E_iret at_X6_item_134 rfl
set_option maxHeartbeats 1000000 in
theorem md300 {e : List Int64} {n a j : Nat} {x30 x31 : Int32} {q : ab_q} (hj : j < 8) (hn : n ≤ 160) (ha : a ≤ n) (Iq : qI q) (l_td : td.length = 3) (l_ce : ce.length = 1280) (hce : ∀ p, p < 160 → e.getD p 0 = ce.getD (160 * j + p) 0) {x3 : Option Value} (hb : chB e n a 32 = true) (hdg : dgB e n (a + 1) = true) (hr : qN q ≤ nuV e n (a + 1)) : Ef ab_Z0 2 mX6_item (57, [some (.ref 65), some (.int (nI 3)), some (.int (nI 0)), x3], [], (ww im lf s d k ls rf rz ra rn rq lt m1 m2 m3 m4 bd fc hd sz el q (fUp (fUp (fUp (fUp (fUp (fUp g 27 (nI (160 * j))) 29 (nI n)) 6 (-1)) 28 (nI (a + 1))) 30 x30) 31 x31) fm hm so si sh ce ca td wa kp la bf oo bo pw ow tr)) (some (.int (nI 0)), (ww im lf s d k ls rf rz ra rn rq lt m1 m2 m3 m4 bd fc hd sz el q (fUp (fUp (fUp (fUp (fUp (fUp g 27 (nI (160 * j))) 29 (nI n)) 6 (-1)) 28 (nI (cnE e n a))) 30 (nI (nuV e n (a + 1)))) 31 (nI (a + 1))) fm hm so si sh ce ca td wa kp la bf oo bo pw ow tr)) := by
  obtain ⟨⟨i0, i1, i2, i3⟩, ⟨i4, i5, i6, i7, i8⟩, ⟨i9, i10⟩, I1_, I2_, I3_, I4_⟩ := id Iq
  have hb_ := chB_t hb
  have hd_ := dgB_t hdg
  have h99 := nuV_99 hdg
  have hcn := cnE_n hdg
  have : ([3, 3, 2, 2, 1, 0, 0] : List Nat).length = 7 := rfl
  refine E_iload_n at_X6_item_57 rfl ?_
  refine E_aload_n at_X6_item_58 rfl ?_
  refine E_getfield (v := .ref 83) at_X6_item_59 w65 rfl (by decide) rfl ?_
  refine E_iload_n at_X6_item_62 rfl ?_
  refine E_ialN (l := [3, 3, 2, 2, 1, 0, 0]) (v := 2) at_X6_item_63 w83 (by omega) (by omega) rfl ?_
  refine E_ic (t := 166) (b := false) at_X6_item_64 rfl (by decide) ?_
  refine E_iload_n at_X6_item_67 rfl ?_
  refine E_if (t := 121) (b := true) at_X6_item_68 rfl (by decide) ?_
  refine E_aload_n at_X6_item_121 rfl ?_
  refine E_getfield (v := .int (nI (a + 1))) at_X6_item_122 w65 rfl (by decide) rfl ?_
  refine E_istore_n (L2 := [some (.ref 65), some (.int (nI 3)), some (.int (nI 0)), some (.int (nI (a + 1)))]) at_X6_item_125 rfl ?_
  refine E_aload_n at_X6_item_126 rfl ?_
  refine E_callV (v := some (.int (nI 1))) (As := [.ref 65]) (r0 := []) (cs2 := (ww im lf s d k ls rf rz ra rn rq lt m1 m2 m3 m4 bd fc hd sz el q (fUp (fUp (fUp (fUp (fUp (fUp g 27 (nI (160 * j))) 29 (nI n)) 6 (-1)) 28 (nI (cnE e n a))) 30 (nI (nuV e n (a + 1)))) 31 x31) fm hm so si sh ce ca td wa kp la bf oo bo pw ow tr)) at_X6_item_127 rfl rfl (Nat.le_of_ble_eq_true rfl) rfl (ab_rvOf w65 rfl) (m_rd1 hj hn (by omega) l_ce hce hdg) (by decide) w_lens ?_
  refine E_if (t := 135) (b := true) at_X6_item_130 rfl (by decide) ?_
  refine E_aload_n at_X6_item_135 rfl ?_
  refine E_iload_n at_X6_item_136 rfl ?_
  refine E_iload_n at_X6_item_137 rfl ?_
  have e1 : Ev ab_Z0 1 161 [.ref 65, .int (nI 3), .int (nI 0)] (ww im lf s d k ls rf rz ra rn rq lt m1 m2 m3 m4 bd fc hd sz el q (fUp (fUp (fUp (fUp (fUp (fUp g 27 (nI (160 * j))) 29 (nI n)) 6 (-1)) 28 (nI (cnE e n a))) 30 (nI (nuV e n (a + 1)))) 31 x31) fm hm so si sh ce ca td wa kp la bf oo bo pw ow tr) (some (.int (nI 0)), (ww im lf s d k ls rf rz ra rn rq lt m1 m2 m3 m4 bd fc hd sz el q (fUp (fUp (fUp (fUp (fUp (fUp g 27 (nI (160 * j))) 29 (nI n)) 6 (-1)) 28 (nI (cnE e n a))) 30 (nI (nuV e n (a + 1)))) 31 x31) fm hm so si sh ce ca td wa kp la bf oo bo pw ow tr)) := by
    refine Ef.in (md := mX6_isSo) (L := [some (.ref 65), some (.int (nI 3)), some (.int (nI 0))]) rfl (Nat.le_of_ble_eq_true rfl) rfl ?_
    refine E_iload_n at_X6_isSo_0 rfl ?_
    refine E_iconst (x := nI 3) at_X6_isSo_1 (by decide) ?_
    refine E_ic (t := 48) (b := true) at_X6_isSo_2 rfl (by decide) ?_
    refine E_iload_n at_X6_isSo_48 rfl ?_
    refine E_iconst (x := nI 3) at_X6_isSo_49 (by decide) ?_
    refine E_ic (t := 75) (b := false) at_X6_isSo_50 rfl (by decide) ?_
    refine E_iload_n at_X6_isSo_53 rfl ?_
    refine E_iconst (x := nI 1) at_X6_isSo_54 (by decide) ?_
    refine E_ic (t := 75) (b := true) at_X6_isSo_55 rfl (by decide) ?_
    refine E_aload_n at_X6_isSo_75 rfl ?_
    refine E_getfield (v := .int (nI (nuV e n (a + 1)))) at_X6_isSo_76 w65 rfl (by decide) rfl ?_
    refine E_aload_n at_X6_isSo_79 rfl ?_
    refine E_getfield (v := .int (nI (qN q))) at_X6_isSo_80 w65 rfl (by decide) rfl ?_
    refine E_ic (t := 122) (b := true) at_X6_isSo_83 rfl ((cn_ge (nI_toInt (by omega)) (nI_toInt (by omega))).trans (decide_eq_true (by omega))) ?_
    refine E_iconst (x := nI 0) at_X6_isSo_122 (by decide) ?_
    exact E_iret at_X6_isSo_123 rfl
  refine E_callV (v := some (.int (nI 0))) (As := [.ref 65, .int (nI 3), .int (nI 0)]) (r0 := []) (cs2 := (ww im lf s d k ls rf rz ra rn rq lt m1 m2 m3 m4 bd fc hd sz el q (fUp (fUp (fUp (fUp (fUp (fUp g 27 (nI (160 * j))) 29 (nI n)) 6 (-1)) 28 (nI (cnE e n a))) 30 (nI (nuV e n (a + 1)))) 31 x31) fm hm so si sh ce ca td wa kp la bf oo bo pw ow tr)) at_X6_item_138 rfl rfl (Nat.le_of_ble_eq_true rfl) rfl (ab_rvOf w65 rfl) e1 (by decide) rfl ?_
  refine E_if (t := 150) (b := false) at_X6_item_141 rfl (by decide) ?_
  refine E_aload_n at_X6_item_144 rfl ?_
  refine E_iload_n at_X6_item_145 rfl ?_
  have e2 : Ev ab_Z0 1 156 [.ref 65, .int (nI (a + 1))] (ww im lf s d k ls rf rz ra rn rq lt m1 m2 m3 m4 bd fc hd sz el q (fUp (fUp (fUp (fUp (fUp (fUp g 27 (nI (160 * j))) 29 (nI n)) 6 (-1)) 28 (nI (cnE e n a))) 30 (nI (nuV e n (a + 1)))) 31 x31) fm hm so si sh ce ca td wa kp la bf oo bo pw ow tr) (some (.int (nI 0)), (ww im lf s d k ls rf rz ra rn rq lt m1 m2 m3 m4 bd fc hd sz el q (fUp (fUp (fUp (fUp (fUp (fUp g 27 (nI (160 * j))) 29 (nI n)) 6 (-1)) 28 (nI (cnE e n a))) 30 (nI (nuV e n (a + 1)))) 31 (nI (a + 1))) fm hm so si sh ce ca td wa kp la bf oo bo pw ow tr)) := by
    refine Ef.in (md := mX6_wrong) (L := [some (.ref 65), some (.int (nI (a + 1)))]) rfl (Nat.le_of_ble_eq_true rfl) rfl ?_
    refine E_aload_n at_X6_wrong_0 rfl ?_
    refine E_iload_n at_X6_wrong_1 rfl ?_
    refine E_putfield (cs2 := (ww im lf s d k ls rf rz ra rn rq lt m1 m2 m3 m4 bd fc hd sz el q (fUp (fUp (fUp (fUp (fUp (fUp g 27 (nI (160 * j))) 29 (nI n)) 6 (-1)) 28 (nI (cnE e n a))) 30 (nI (nuV e n (a + 1)))) 31 (nI (a + 1))) fm hm so si sh ce ca td wa kp la bf oo bo pw ow tr)) at_X6_wrong_2 w65 rfl (by decide) (Nat.le_of_ble_eq_true rfl) rfl rfl rfl (w_pt65_31.trans (by rw [gn31])) ?_
    refine E_iconst (x := nI 0) at_X6_wrong_5 (by decide) ?_
    exact E_iret at_X6_wrong_6 rfl
  refine E_callV (v := some (.int (nI 0))) (As := [.ref 65, .int (nI (a + 1))]) (r0 := []) (cs2 := (ww im lf s d k ls rf rz ra rn rq lt m1 m2 m3 m4 bd fc hd sz el q (fUp (fUp (fUp (fUp (fUp (fUp g 27 (nI (160 * j))) 29 (nI n)) 6 (-1)) 28 (nI (cnE e n a))) 30 (nI (nuV e n (a + 1)))) 31 (nI (a + 1))) fm hm so si sh ce ca td wa kp la bf oo bo pw ow tr)) at_X6_item_146 rfl rfl (Nat.le_of_ble_eq_true rfl) rfl (ab_rvOf w65 rfl) e2 (by decide) w_lens ?_
  exact E_iret at_X6_item_149 rfl
set_option maxHeartbeats 1000000 in
theorem md301 {e : List Int64} {n a j : Nat} {x30 x31 : Int32} {q : ab_q} (hj : j < 8) (hn : n ≤ 160) (ha : a ≤ n) (Iq : qI q) (l_td : td.length = 3) (l_ce : ce.length = 1280) (hce : ∀ p, p < 160 → e.getD p 0 = ce.getD (160 * j + p) 0) {x3 : Option Value} (hb : chB e n a 32 = true) (hdg : dgB e n (a + 1) = true) (hr : nuV e n (a + 1) < qN q) (hr2 : ¬ (qP q).getD (nuV e n (a + 1)) 0 = 99) : Ef ab_Z0 2 mX6_item (57, [some (.ref 65), some (.int (nI 3)), some (.int (nI 0)), x3], [], (ww im lf s d k ls rf rz ra rn rq lt m1 m2 m3 m4 bd fc hd sz el q (fUp (fUp (fUp (fUp (fUp (fUp g 27 (nI (160 * j))) 29 (nI n)) 6 (-1)) 28 (nI (a + 1))) 30 x30) 31 x31) fm hm so si sh ce ca td wa kp la bf oo bo pw ow tr)) (some (.int (nI 0)), (ww im lf s d k ls rf rz ra rn rq lt m1 m2 m3 m4 bd fc hd sz el q (fUp (fUp (fUp (fUp (fUp (fUp g 27 (nI (160 * j))) 29 (nI n)) 6 (-1)) 28 (nI (cnE e n a))) 30 (nI (nuV e n (a + 1)))) 31 (nI (a + 1))) fm hm so si sh ce ca td wa kp la bf oo bo pw ow tr)) := by
  obtain ⟨⟨i0, i1, i2, i3⟩, ⟨i4, i5, i6, i7, i8⟩, ⟨i9, i10⟩, I1_, I2_, I3_, I4_⟩ := id Iq
  have hb_ := chB_t hb
  have hd_ := dgB_t hdg
  have h99 := nuV_99 hdg
  have hcn := cnE_n hdg
  have hP9 := I1_ (nuV e n (a + 1)) (by omega)
  have : ([3, 3, 2, 2, 1, 0, 0] : List Nat).length = 7 := rfl
  have : (qP q).length = 9 := by first | omega | (simp only [List.length_set]; omega)
  refine E_iload_n at_X6_item_57 rfl ?_
  refine E_aload_n at_X6_item_58 rfl ?_
  refine E_getfield (v := .ref 83) at_X6_item_59 w65 rfl (by decide) rfl ?_
  refine E_iload_n at_X6_item_62 rfl ?_
  refine E_ialN (l := [3, 3, 2, 2, 1, 0, 0]) (v := 2) at_X6_item_63 w83 (by omega) (by omega) rfl ?_
  refine E_ic (t := 166) (b := false) at_X6_item_64 rfl (by decide) ?_
  refine E_iload_n at_X6_item_67 rfl ?_
  refine E_if (t := 121) (b := true) at_X6_item_68 rfl (by decide) ?_
  refine E_aload_n at_X6_item_121 rfl ?_
  refine E_getfield (v := .int (nI (a + 1))) at_X6_item_122 w65 rfl (by decide) rfl ?_
  refine E_istore_n (L2 := [some (.ref 65), some (.int (nI 3)), some (.int (nI 0)), some (.int (nI (a + 1)))]) at_X6_item_125 rfl ?_
  refine E_aload_n at_X6_item_126 rfl ?_
  refine E_callV (v := some (.int (nI 1))) (As := [.ref 65]) (r0 := []) (cs2 := (ww im lf s d k ls rf rz ra rn rq lt m1 m2 m3 m4 bd fc hd sz el q (fUp (fUp (fUp (fUp (fUp (fUp g 27 (nI (160 * j))) 29 (nI n)) 6 (-1)) 28 (nI (cnE e n a))) 30 (nI (nuV e n (a + 1)))) 31 x31) fm hm so si sh ce ca td wa kp la bf oo bo pw ow tr)) at_X6_item_127 rfl rfl (Nat.le_of_ble_eq_true rfl) rfl (ab_rvOf w65 rfl) (m_rd1 hj hn (by omega) l_ce hce hdg) (by decide) w_lens ?_
  refine E_if (t := 135) (b := true) at_X6_item_130 rfl (by decide) ?_
  refine E_aload_n at_X6_item_135 rfl ?_
  refine E_iload_n at_X6_item_136 rfl ?_
  refine E_iload_n at_X6_item_137 rfl ?_
  have e1 : Ev ab_Z0 1 161 [.ref 65, .int (nI 3), .int (nI 0)] (ww im lf s d k ls rf rz ra rn rq lt m1 m2 m3 m4 bd fc hd sz el q (fUp (fUp (fUp (fUp (fUp (fUp g 27 (nI (160 * j))) 29 (nI n)) 6 (-1)) 28 (nI (cnE e n a))) 30 (nI (nuV e n (a + 1)))) 31 x31) fm hm so si sh ce ca td wa kp la bf oo bo pw ow tr) (some (.int (nI 0)), (ww im lf s d k ls rf rz ra rn rq lt m1 m2 m3 m4 bd fc hd sz el q (fUp (fUp (fUp (fUp (fUp (fUp g 27 (nI (160 * j))) 29 (nI n)) 6 (-1)) 28 (nI (cnE e n a))) 30 (nI (nuV e n (a + 1)))) 31 x31) fm hm so si sh ce ca td wa kp la bf oo bo pw ow tr)) := by
    refine Ef.in (md := mX6_isSo) (L := [some (.ref 65), some (.int (nI 3)), some (.int (nI 0))]) rfl (Nat.le_of_ble_eq_true rfl) rfl ?_
    refine E_iload_n at_X6_isSo_0 rfl ?_
    refine E_iconst (x := nI 3) at_X6_isSo_1 (by decide) ?_
    refine E_ic (t := 48) (b := true) at_X6_isSo_2 rfl (by decide) ?_
    refine E_iload_n at_X6_isSo_48 rfl ?_
    refine E_iconst (x := nI 3) at_X6_isSo_49 (by decide) ?_
    refine E_ic (t := 75) (b := false) at_X6_isSo_50 rfl (by decide) ?_
    refine E_iload_n at_X6_isSo_53 rfl ?_
    refine E_iconst (x := nI 1) at_X6_isSo_54 (by decide) ?_
    refine E_ic (t := 75) (b := true) at_X6_isSo_55 rfl (by decide) ?_
    refine E_aload_n at_X6_isSo_75 rfl ?_
    refine E_getfield (v := .int (nI (nuV e n (a + 1)))) at_X6_isSo_76 w65 rfl (by decide) rfl ?_
    refine E_aload_n at_X6_isSo_79 rfl ?_
    refine E_getfield (v := .int (nI (qN q))) at_X6_isSo_80 w65 rfl (by decide) rfl ?_
    refine E_ic (t := 122) (b := false) at_X6_isSo_83 rfl ((cn_ge (nI_toInt (by omega)) (nI_toInt (by omega))).trans (decide_eq_false (by omega))) ?_
    refine E_aload_n at_X6_isSo_86 rfl ?_
    refine E_getfield (v := .ref 70) at_X6_isSo_87 w65 rfl (by decide) rfl ?_
    refine E_aload_n at_X6_isSo_90 rfl ?_
    refine E_getfield (v := .int (nI (nuV e n (a + 1)))) at_X6_isSo_91 w65 rfl (by decide) rfl ?_
    refine E_ialN (l := qP q) (v := (qP q).getD (nuV e n (a + 1)) 0) at_X6_isSo_94 w70 (by omega) (by omega) rfl ?_
    refine E_bipush (x := nI 99) at_X6_isSo_95 (by decide) ?_
    refine E_ic (t := 104) (b := true) at_X6_isSo_97 rfl ((cn_ne (nI_toInt (by omega)) (nI_toInt (by omega))).trans (decide_eq_true (by omega))) ?_
    refine E_iconst (x := nI 0) rfl (by decide) ?_
    refine E_iload_n at_X6_isSo_105 rfl ?_
    refine E_iconst (x := nI 3) at_X6_isSo_106 (by decide) ?_
    refine E_ic (t := 114) (b := false) at_X6_isSo_107 rfl (by decide) ?_
    refine E_iconst (x := nI 1) rfl (by decide) ?_
    refine E_goto (t := 115) rfl rfl ?_
    refine E_ic (t := 122) (b := true) at_X6_isSo_115 rfl (by decide) ?_
    refine E_iconst (x := nI 0) at_X6_isSo_122 (by decide) ?_
    exact E_iret at_X6_isSo_123 rfl
  refine E_callV (v := some (.int (nI 0))) (As := [.ref 65, .int (nI 3), .int (nI 0)]) (r0 := []) (cs2 := (ww im lf s d k ls rf rz ra rn rq lt m1 m2 m3 m4 bd fc hd sz el q (fUp (fUp (fUp (fUp (fUp (fUp g 27 (nI (160 * j))) 29 (nI n)) 6 (-1)) 28 (nI (cnE e n a))) 30 (nI (nuV e n (a + 1)))) 31 x31) fm hm so si sh ce ca td wa kp la bf oo bo pw ow tr)) at_X6_item_138 rfl rfl (Nat.le_of_ble_eq_true rfl) rfl (ab_rvOf w65 rfl) e1 (by decide) rfl ?_
  refine E_if (t := 150) (b := false) at_X6_item_141 rfl (by decide) ?_
  refine E_aload_n at_X6_item_144 rfl ?_
  refine E_iload_n at_X6_item_145 rfl ?_
  have e2 : Ev ab_Z0 1 156 [.ref 65, .int (nI (a + 1))] (ww im lf s d k ls rf rz ra rn rq lt m1 m2 m3 m4 bd fc hd sz el q (fUp (fUp (fUp (fUp (fUp (fUp g 27 (nI (160 * j))) 29 (nI n)) 6 (-1)) 28 (nI (cnE e n a))) 30 (nI (nuV e n (a + 1)))) 31 x31) fm hm so si sh ce ca td wa kp la bf oo bo pw ow tr) (some (.int (nI 0)), (ww im lf s d k ls rf rz ra rn rq lt m1 m2 m3 m4 bd fc hd sz el q (fUp (fUp (fUp (fUp (fUp (fUp g 27 (nI (160 * j))) 29 (nI n)) 6 (-1)) 28 (nI (cnE e n a))) 30 (nI (nuV e n (a + 1)))) 31 (nI (a + 1))) fm hm so si sh ce ca td wa kp la bf oo bo pw ow tr)) := by
    refine Ef.in (md := mX6_wrong) (L := [some (.ref 65), some (.int (nI (a + 1)))]) rfl (Nat.le_of_ble_eq_true rfl) rfl ?_
    refine E_aload_n at_X6_wrong_0 rfl ?_
    refine E_iload_n at_X6_wrong_1 rfl ?_
    refine E_putfield (cs2 := (ww im lf s d k ls rf rz ra rn rq lt m1 m2 m3 m4 bd fc hd sz el q (fUp (fUp (fUp (fUp (fUp (fUp g 27 (nI (160 * j))) 29 (nI n)) 6 (-1)) 28 (nI (cnE e n a))) 30 (nI (nuV e n (a + 1)))) 31 (nI (a + 1))) fm hm so si sh ce ca td wa kp la bf oo bo pw ow tr)) at_X6_wrong_2 w65 rfl (by decide) (Nat.le_of_ble_eq_true rfl) rfl rfl rfl (w_pt65_31.trans (by rw [gn31])) ?_
    refine E_iconst (x := nI 0) at_X6_wrong_5 (by decide) ?_
    exact E_iret at_X6_wrong_6 rfl
  refine E_callV (v := some (.int (nI 0))) (As := [.ref 65, .int (nI (a + 1))]) (r0 := []) (cs2 := (ww im lf s d k ls rf rz ra rn rq lt m1 m2 m3 m4 bd fc hd sz el q (fUp (fUp (fUp (fUp (fUp (fUp g 27 (nI (160 * j))) 29 (nI n)) 6 (-1)) 28 (nI (cnE e n a))) 30 (nI (nuV e n (a + 1)))) 31 (nI (a + 1))) fm hm so si sh ce ca td wa kp la bf oo bo pw ow tr)) at_X6_item_146 rfl rfl (Nat.le_of_ble_eq_true rfl) rfl (ab_rvOf w65 rfl) e2 (by decide) w_lens ?_
  exact E_iret at_X6_item_149 rfl
set_option maxHeartbeats 1000000 in
theorem mc31 {e : List Int64} {n a j : Nat} {x30 x31 : Int32} {q : ab_q} (hj : j < 8) (hn : n ≤ 160) (ha : a ≤ n) (Iq : qI q) (l_td : td.length = 3) (l_ce : ce.length = 1280) (hce : ∀ p, p < 160 → e.getD p 0 = ce.getD (160 * j + p) 0) {x3 : Option Value} (hb : chB e n a 32 = true) (hdg : dgB e n (a + 1) = true) (ho0 : 0 ≤ nuV e n (a + 1)) (ho1 : nuV e n (a + 1) < qM q) {r : Option Value × List ab_C} (K : Ef ab_Z0 2 mX6_item (57, [some (.ref 65), some (.int (nI 3)), some (.int (nI 2)), some (.int (nI (a + 1)))], [], (ww im lf s d k ls rf rz ra rn rq lt m1 m2 m3 m4 bd fc hd sz el q (fUp (fUp (fUp (fUp (fUp (fUp g 27 (nI (160 * j))) 29 (nI n)) 6 (-1)) 28 (nI (cnE e n a))) 30 (nI (nuV e n (a + 1)))) 31 x31) fm hm so si sh ce ca (td.set 1 (nI (nuV e n (a + 1)))) wa kp la bf oo bo pw ow tr)) r) : Ef ab_Z0 2 mX6_item (57, [some (.ref 65), some (.int (nI 3)), some (.int (nI 1)), x3], [], (ww im lf s d k ls rf rz ra rn rq lt m1 m2 m3 m4 bd fc hd sz el q (fUp (fUp (fUp (fUp (fUp (fUp g 27 (nI (160 * j))) 29 (nI n)) 6 (-1)) 28 (nI a)) 30 x30) 31 x31) fm hm so si sh ce ca td wa kp la bf oo bo pw ow tr)) r := by
  obtain ⟨⟨i0, i1, i2, i3⟩, ⟨i4, i5, i6, i7, i8⟩, ⟨i9, i10⟩, I1_, I2_, I3_, I4_⟩ := id Iq
  have hb_ := chB_t hb
  have hd_ := dgB_t hdg
  have h99 := nuV_99 hdg
  have hcn := cnE_n hdg
  have : ([3, 3, 2, 2, 1, 0, 0] : List Nat).length = 7 := rfl
  refine E_iload_n at_X6_item_57 rfl ?_
  refine E_aload_n at_X6_item_58 rfl ?_
  refine E_getfield (v := .ref 83) at_X6_item_59 w65 rfl (by decide) rfl ?_
  refine E_iload_n at_X6_item_62 rfl ?_
  refine E_ialN (l := [3, 3, 2, 2, 1, 0, 0]) (v := 2) at_X6_item_63 w83 (by omega) (by omega) rfl ?_
  refine E_ic (t := 166) (b := false) at_X6_item_64 rfl (by decide) ?_
  refine E_iload_n at_X6_item_67 rfl ?_
  refine E_if (t := 121) (b := false) at_X6_item_68 rfl (by decide) ?_
  refine E_aload_n at_X6_item_71 rfl ?_
  refine E_getfield (v := .int (nI a)) at_X6_item_72 w65 rfl (by decide) rfl ?_
  refine E_aload_n at_X6_item_75 rfl ?_
  refine E_getfield (v := .int (nI n)) at_X6_item_76 w65 rfl (by decide) rfl ?_
  refine E_ic (t := 102) (b := false) at_X6_item_79 rfl ((cn_ge (nI_toInt (by omega)) (nI_toInt (by omega))).trans (decide_eq_false (by omega))) ?_
  refine E_aload_n at_X6_item_82 rfl ?_
  refine E_getfield (v := .ref 80) at_X6_item_83 w65 rfl (by decide) rfl ?_
  refine E_aload_n at_X6_item_86 rfl ?_
  refine E_getfield (v := .int (nI (160 * j))) at_X6_item_87 w65 rfl (by decide) rfl ?_
  refine E_aload_n at_X6_item_90 rfl ?_
  refine E_getfield (v := .int (nI a)) at_X6_item_91 w65 rfl (by decide) rfl ?_
  refine E_iadd (z := nI ((160 * j) + a)) at_X6_item_94 (nI_add _ _) ?_
  refine E_lalL (l := ce) (v := ce.getD ((160 * j) + a) 0) at_X6_item_95 w80 (by omega) (by omega) rfl ?_
  refine E_l2i (z := tw e a) at_X6_item_96 (by unfold tw; rw [hce a (by omega)]) ?_
  refine E_bipush (x := nI 32) at_X6_item_97 (by decide) ?_
  refine E_ic (t := 111) (b := true) at_X6_item_99 rfl ((cn_eq rfl (nI_toInt (by omega))).trans (decide_eq_true (by omega))) ?_
  refine E_aload_n at_X6_item_111 rfl ?_
  refine E_dup at_X6_item_112 rfl ?_
  refine E_getfield (v := .int (nI a)) at_X6_item_113 w65 rfl (by decide) rfl ?_
  refine E_iconst (x := nI 1) at_X6_item_116 (by decide) ?_
  refine E_iadd (z := nI (a + 1)) at_X6_item_117 (nI_add _ _) ?_
  refine E_putfield (cs2 := (ww im lf s d k ls rf rz ra rn rq lt m1 m2 m3 m4 bd fc hd sz el q (fUp (fUp (fUp (fUp (fUp (fUp g 27 (nI (160 * j))) 29 (nI n)) 6 (-1)) 28 (nI (a + 1))) 30 x30) 31 x31) fm hm so si sh ce ca td wa kp la bf oo bo pw ow tr)) at_X6_item_118 w65 rfl (by decide) (Nat.le_of_ble_eq_true rfl) rfl rfl rfl (w_pt65_28.trans (by rw [gn28])) ?_
  refine E_aload_n at_X6_item_121 rfl ?_
  refine E_getfield (v := .int (nI (a + 1))) at_X6_item_122 w65 rfl (by decide) rfl ?_
  refine E_istore_n (L2 := [some (.ref 65), some (.int (nI 3)), some (.int (nI 1)), some (.int (nI (a + 1)))]) at_X6_item_125 rfl ?_
  refine E_aload_n at_X6_item_126 rfl ?_
  refine E_callV (v := some (.int (nI 1))) (As := [.ref 65]) (r0 := []) (cs2 := (ww im lf s d k ls rf rz ra rn rq lt m1 m2 m3 m4 bd fc hd sz el q (fUp (fUp (fUp (fUp (fUp (fUp g 27 (nI (160 * j))) 29 (nI n)) 6 (-1)) 28 (nI (cnE e n a))) 30 (nI (nuV e n (a + 1)))) 31 x31) fm hm so si sh ce ca td wa kp la bf oo bo pw ow tr)) at_X6_item_127 rfl rfl (Nat.le_of_ble_eq_true rfl) rfl (ab_rvOf w65 rfl) (m_rd1 hj hn (by omega) l_ce hce hdg) (by decide) w_lens ?_
  refine E_if (t := 135) (b := true) at_X6_item_130 rfl (by decide) ?_
  refine E_aload_n at_X6_item_135 rfl ?_
  refine E_iload_n at_X6_item_136 rfl ?_
  refine E_iload_n at_X6_item_137 rfl ?_
  have e1 : Ev ab_Z0 1 161 [.ref 65, .int (nI 3), .int (nI 1)] (ww im lf s d k ls rf rz ra rn rq lt m1 m2 m3 m4 bd fc hd sz el q (fUp (fUp (fUp (fUp (fUp (fUp g 27 (nI (160 * j))) 29 (nI n)) 6 (-1)) 28 (nI (cnE e n a))) 30 (nI (nuV e n (a + 1)))) 31 x31) fm hm so si sh ce ca td wa kp la bf oo bo pw ow tr) (some (.int (nI 1)), (ww im lf s d k ls rf rz ra rn rq lt m1 m2 m3 m4 bd fc hd sz el q (fUp (fUp (fUp (fUp (fUp (fUp g 27 (nI (160 * j))) 29 (nI n)) 6 (-1)) 28 (nI (cnE e n a))) 30 (nI (nuV e n (a + 1)))) 31 x31) fm hm so si sh ce ca td wa kp la bf oo bo pw ow tr)) := by
    refine Ef.in (md := mX6_isSo) (L := [some (.ref 65), some (.int (nI 3)), some (.int (nI 1))]) rfl (Nat.le_of_ble_eq_true rfl) rfl ?_
    refine E_iload_n at_X6_isSo_0 rfl ?_
    refine E_iconst (x := nI 3) at_X6_isSo_1 (by decide) ?_
    refine E_ic (t := 48) (b := true) at_X6_isSo_2 rfl (by decide) ?_
    refine E_iload_n at_X6_isSo_48 rfl ?_
    refine E_iconst (x := nI 3) at_X6_isSo_49 (by decide) ?_
    refine E_ic (t := 75) (b := false) at_X6_isSo_50 rfl (by decide) ?_
    refine E_iload_n at_X6_isSo_53 rfl ?_
    refine E_iconst (x := nI 1) at_X6_isSo_54 (by decide) ?_
    refine E_ic (t := 75) (b := false) at_X6_isSo_55 rfl (by decide) ?_
    refine E_aload_n rfl rfl ?_
    refine E_getfield (v := .int (nI (nuV e n (a + 1)))) rfl w65 rfl (by decide) rfl ?_
    refine E_aload_n rfl rfl ?_
    refine E_getfield (v := .int (nI (qM q))) rfl w65 rfl (by decide) rfl ?_
    refine E_ic (t := 73) (b := false) rfl rfl ((cn_ge (nI_toInt (by omega)) (nI_toInt (by omega))).trans (decide_eq_false (by omega))) ?_
    refine E_iconst (x := nI 1) rfl (by decide) ?_
    refine E_goto (t := 74) rfl rfl ?_
    exact E_iret rfl rfl
  refine E_callV (v := some (.int (nI 1))) (As := [.ref 65, .int (nI 3), .int (nI 1)]) (r0 := []) (cs2 := (ww im lf s d k ls rf rz ra rn rq lt m1 m2 m3 m4 bd fc hd sz el q (fUp (fUp (fUp (fUp (fUp (fUp g 27 (nI (160 * j))) 29 (nI n)) 6 (-1)) 28 (nI (cnE e n a))) 30 (nI (nuV e n (a + 1)))) 31 x31) fm hm so si sh ce ca td wa kp la bf oo bo pw ow tr)) at_X6_item_138 rfl rfl (Nat.le_of_ble_eq_true rfl) rfl (ab_rvOf w65 rfl) e1 (by decide) rfl ?_
  refine E_if (t := 150) (b := true) at_X6_item_141 rfl (by decide) ?_
  refine E_aload_n at_X6_item_150 rfl ?_
  refine E_getfield (v := .ref 85) at_X6_item_151 w65 rfl (by decide) rfl ?_
  refine E_iload_n at_X6_item_154 rfl ?_
  refine E_aload_n at_X6_item_155 rfl ?_
  refine E_getfield (v := .int (nI (nuV e n (a + 1)))) at_X6_item_156 w65 rfl (by decide) rfl ?_
  refine E_iasI (l := td) (cs2 := (ww im lf s d k ls rf rz ra rn rq lt m1 m2 m3 m4 bd fc hd sz el q (fUp (fUp (fUp (fUp (fUp (fUp g 27 (nI (160 * j))) 29 (nI n)) 6 (-1)) 28 (nI (cnE e n a))) 30 (nI (nuV e n (a + 1)))) 31 x31) fm hm so si sh ce ca (td.set 1 (nI (nuV e n (a + 1)))) wa kp la bf oo bo pw ow tr)) at_X6_item_159 w85 (by omega) (by omega) rfl ?_
  refine E_iinc (y := nI 2) (L2 := [some (.ref 65), some (.int (nI 3)), some (.int (nI 2)), some (.int (nI (a + 1)))]) at_X6_item_160 rfl (by decide) rfl ?_
  refine E_goto (t := 57) at_X6_item_163 rfl ?_
  exact K
set_option maxHeartbeats 1000000 in
theorem ma31 {e : List Int64} {n a j : Nat} {x30 x31 : Int32} {q : ab_q} (hj : j < 8) (hn : n ≤ 160) (ha : a ≤ n) (Iq : qI q) (l_td : td.length = 3) (l_ce : ce.length = 1280) (hce : ∀ p, p < 160 → e.getD p 0 = ce.getD (160 * j + p) 0) {x3 : Option Value} (hb : chB e n a 32 = false) : Ef ab_Z0 2 mX6_item (57, [some (.ref 65), some (.int (nI 3)), some (.int (nI 1)), x3], [], (ww im lf s d k ls rf rz ra rn rq lt m1 m2 m3 m4 bd fc hd sz el q (fUp (fUp (fUp (fUp (fUp (fUp g 27 (nI (160 * j))) 29 (nI n)) 6 (-1)) 28 (nI a)) 30 x30) 31 x31) fm hm so si sh ce ca td wa kp la bf oo bo pw ow tr)) (some (.int (nI 0)), (ww im lf s d k ls rf rz ra rn rq lt m1 m2 m3 m4 bd fc hd sz el q (fUp (fUp (fUp (fUp (fUp (fUp g 27 (nI (160 * j))) 29 (nI n)) 6 (-1)) 28 (nI a)) 30 x30) 31 (nI a)) fm hm so si sh ce ca td wa kp la bf oo bo pw ow tr)) := by
  rcases chB_f hb with h3 | h3
  · have : ([3, 3, 2, 2, 1, 0, 0] : List Nat).length = 7 := rfl
    refine E_iload_n at_X6_item_57 rfl ?_
    refine E_aload_n at_X6_item_58 rfl ?_
    refine E_getfield (v := .ref 83) at_X6_item_59 w65 rfl (by decide) rfl ?_
    refine E_iload_n at_X6_item_62 rfl ?_
    refine E_ialN (l := [3, 3, 2, 2, 1, 0, 0]) (v := 2) at_X6_item_63 w83 (by omega) (by omega) rfl ?_
    refine E_ic (t := 166) (b := false) at_X6_item_64 rfl (by decide) ?_
    refine E_iload_n at_X6_item_67 rfl ?_
    refine E_if (t := 121) (b := false) at_X6_item_68 rfl (by decide) ?_
    refine E_aload_n at_X6_item_71 rfl ?_
    refine E_getfield (v := .int (nI a)) at_X6_item_72 w65 rfl (by decide) rfl ?_
    refine E_aload_n at_X6_item_75 rfl ?_
    refine E_getfield (v := .int (nI n)) at_X6_item_76 w65 rfl (by decide) rfl ?_
    refine E_ic (t := 102) (b := true) at_X6_item_79 rfl ((cn_ge (nI_toInt (by omega)) (nI_toInt (by omega))).trans (decide_eq_true (by omega))) ?_
    refine E_aload_n at_X6_item_102 rfl ?_
    refine E_aload_n at_X6_item_103 rfl ?_
    refine E_getfield (v := .int (nI a)) at_X6_item_104 w65 rfl (by decide) rfl ?_
    have e1 : Ev ab_Z0 1 156 [.ref 65, .int (nI a)] (ww im lf s d k ls rf rz ra rn rq lt m1 m2 m3 m4 bd fc hd sz el q (fUp (fUp (fUp (fUp (fUp (fUp g 27 (nI (160 * j))) 29 (nI n)) 6 (-1)) 28 (nI a)) 30 x30) 31 x31) fm hm so si sh ce ca td wa kp la bf oo bo pw ow tr) (some (.int (nI 0)), (ww im lf s d k ls rf rz ra rn rq lt m1 m2 m3 m4 bd fc hd sz el q (fUp (fUp (fUp (fUp (fUp (fUp g 27 (nI (160 * j))) 29 (nI n)) 6 (-1)) 28 (nI a)) 30 x30) 31 (nI a)) fm hm so si sh ce ca td wa kp la bf oo bo pw ow tr)) := by
      refine Ef.in (md := mX6_wrong) (L := [some (.ref 65), some (.int (nI a))]) rfl (Nat.le_of_ble_eq_true rfl) rfl ?_
      refine E_aload_n at_X6_wrong_0 rfl ?_
      refine E_iload_n at_X6_wrong_1 rfl ?_
      refine E_putfield (cs2 := (ww im lf s d k ls rf rz ra rn rq lt m1 m2 m3 m4 bd fc hd sz el q (fUp (fUp (fUp (fUp (fUp (fUp g 27 (nI (160 * j))) 29 (nI n)) 6 (-1)) 28 (nI a)) 30 x30) 31 (nI a)) fm hm so si sh ce ca td wa kp la bf oo bo pw ow tr)) at_X6_wrong_2 w65 rfl (by decide) (Nat.le_of_ble_eq_true rfl) rfl rfl rfl (w_pt65_31.trans (by rw [gn31])) ?_
      refine E_iconst (x := nI 0) at_X6_wrong_5 (by decide) ?_
      exact E_iret at_X6_wrong_6 rfl
    refine E_callV (v := some (.int (nI 0))) (As := [.ref 65, .int (nI a)]) (r0 := []) (cs2 := (ww im lf s d k ls rf rz ra rn rq lt m1 m2 m3 m4 bd fc hd sz el q (fUp (fUp (fUp (fUp (fUp (fUp g 27 (nI (160 * j))) 29 (nI n)) 6 (-1)) 28 (nI a)) 30 x30) 31 (nI a)) fm hm so si sh ce ca td wa kp la bf oo bo pw ow tr)) at_X6_item_107 rfl rfl (Nat.le_of_ble_eq_true rfl) rfl (ab_rvOf w65 rfl) e1 (by decide) w_lens ?_
    exact E_iret at_X6_item_110 rfl
  · have : ([3, 3, 2, 2, 1, 0, 0] : List Nat).length = 7 := rfl
    refine E_iload_n at_X6_item_57 rfl ?_
    refine E_aload_n at_X6_item_58 rfl ?_
    refine E_getfield (v := .ref 83) at_X6_item_59 w65 rfl (by decide) rfl ?_
    refine E_iload_n at_X6_item_62 rfl ?_
    refine E_ialN (l := [3, 3, 2, 2, 1, 0, 0]) (v := 2) at_X6_item_63 w83 (by omega) (by omega) rfl ?_
    refine E_ic (t := 166) (b := false) at_X6_item_64 rfl (by decide) ?_
    refine E_iload_n at_X6_item_67 rfl ?_
    refine E_if (t := 121) (b := false) at_X6_item_68 rfl (by decide) ?_
    refine E_aload_n at_X6_item_71 rfl ?_
    refine E_getfield (v := .int (nI a)) at_X6_item_72 w65 rfl (by decide) rfl ?_
    refine E_aload_n at_X6_item_75 rfl ?_
    refine E_getfield (v := .int (nI n)) at_X6_item_76 w65 rfl (by decide) rfl ?_
    refine E_ic (t := 102) (b := false) at_X6_item_79 rfl ((cn_ge (nI_toInt (by omega)) (nI_toInt (by omega))).trans (decide_eq_false (by omega))) ?_
    refine E_aload_n at_X6_item_82 rfl ?_
    refine E_getfield (v := .ref 80) at_X6_item_83 w65 rfl (by decide) rfl ?_
    refine E_aload_n at_X6_item_86 rfl ?_
    refine E_getfield (v := .int (nI (160 * j))) at_X6_item_87 w65 rfl (by decide) rfl ?_
    refine E_aload_n at_X6_item_90 rfl ?_
    refine E_getfield (v := .int (nI a)) at_X6_item_91 w65 rfl (by decide) rfl ?_
    refine E_iadd (z := nI ((160 * j) + a)) at_X6_item_94 (nI_add _ _) ?_
    refine E_lalL (l := ce) (v := ce.getD ((160 * j) + a) 0) at_X6_item_95 w80 (by omega) (by omega) rfl ?_
    refine E_l2i (z := tw e a) at_X6_item_96 (by unfold tw; rw [hce a (by omega)]) ?_
    refine E_bipush (x := nI 32) at_X6_item_97 (by decide) ?_
    refine E_ic (t := 111) (b := false) at_X6_item_99 rfl ((cn_eq rfl (nI_toInt (by omega))).trans (decide_eq_false (by omega))) ?_
    refine E_aload_n at_X6_item_102 rfl ?_
    refine E_aload_n at_X6_item_103 rfl ?_
    refine E_getfield (v := .int (nI a)) at_X6_item_104 w65 rfl (by decide) rfl ?_
    have e1 : Ev ab_Z0 1 156 [.ref 65, .int (nI a)] (ww im lf s d k ls rf rz ra rn rq lt m1 m2 m3 m4 bd fc hd sz el q (fUp (fUp (fUp (fUp (fUp (fUp g 27 (nI (160 * j))) 29 (nI n)) 6 (-1)) 28 (nI a)) 30 x30) 31 x31) fm hm so si sh ce ca td wa kp la bf oo bo pw ow tr) (some (.int (nI 0)), (ww im lf s d k ls rf rz ra rn rq lt m1 m2 m3 m4 bd fc hd sz el q (fUp (fUp (fUp (fUp (fUp (fUp g 27 (nI (160 * j))) 29 (nI n)) 6 (-1)) 28 (nI a)) 30 x30) 31 (nI a)) fm hm so si sh ce ca td wa kp la bf oo bo pw ow tr)) := by
      refine Ef.in (md := mX6_wrong) (L := [some (.ref 65), some (.int (nI a))]) rfl (Nat.le_of_ble_eq_true rfl) rfl ?_
      refine E_aload_n at_X6_wrong_0 rfl ?_
      refine E_iload_n at_X6_wrong_1 rfl ?_
      refine E_putfield (cs2 := (ww im lf s d k ls rf rz ra rn rq lt m1 m2 m3 m4 bd fc hd sz el q (fUp (fUp (fUp (fUp (fUp (fUp g 27 (nI (160 * j))) 29 (nI n)) 6 (-1)) 28 (nI a)) 30 x30) 31 (nI a)) fm hm so si sh ce ca td wa kp la bf oo bo pw ow tr)) at_X6_wrong_2 w65 rfl (by decide) (Nat.le_of_ble_eq_true rfl) rfl rfl rfl (w_pt65_31.trans (by rw [gn31])) ?_
      refine E_iconst (x := nI 0) at_X6_wrong_5 (by decide) ?_
      exact E_iret at_X6_wrong_6 rfl
    refine E_callV (v := some (.int (nI 0))) (As := [.ref 65, .int (nI a)]) (r0 := []) (cs2 := (ww im lf s d k ls rf rz ra rn rq lt m1 m2 m3 m4 bd fc hd sz el q (fUp (fUp (fUp (fUp (fUp (fUp g 27 (nI (160 * j))) 29 (nI n)) 6 (-1)) 28 (nI a)) 30 x30) 31 (nI a)) fm hm so si sh ce ca td wa kp la bf oo bo pw ow tr)) at_X6_item_107 rfl rfl (Nat.le_of_ble_eq_true rfl) rfl (ab_rvOf w65 rfl) e1 (by decide) w_lens ?_
    exact E_iret at_X6_item_110 rfl
set_option maxHeartbeats 1000000 in
theorem mb31 {e : List Int64} {n a j : Nat} {x30 x31 : Int32} {q : ab_q} (hj : j < 8) (hn : n ≤ 160) (ha : a ≤ n) (Iq : qI q) (l_td : td.length = 3) (l_ce : ce.length = 1280) (hce : ∀ p, p < 160 → e.getD p 0 = ce.getD (160 * j + p) 0) {x3 : Option Value} (hb : chB e n a 32 = true) (hdg : dgB e n (a + 1) = false) : Ef ab_Z0 2 mX6_item (57, [some (.ref 65), some (.int (nI 3)), some (.int (nI 1)), x3], [], (ww im lf s d k ls rf rz ra rn rq lt m1 m2 m3 m4 bd fc hd sz el q (fUp (fUp (fUp (fUp (fUp (fUp g 27 (nI (160 * j))) 29 (nI n)) 6 (-1)) 28 (nI a)) 30 x30) 31 x31) fm hm so si sh ce ca td wa kp la bf oo bo pw ow tr)) (some (.int (nI 0)), (ww im lf s d k ls rf rz ra rn rq lt m1 m2 m3 m4 bd fc hd sz el q (fUp (fUp (fUp (fUp (fUp (fUp g 27 (nI (160 * j))) 29 (nI n)) 6 (-1)) 28 (nI (a + 1))) 30 (nI 0)) 31 (nI (a + 1))) fm hm so si sh ce ca td wa kp la bf oo bo pw ow tr)) := by
  have hb_ := chB_t hb
  have : ([3, 3, 2, 2, 1, 0, 0] : List Nat).length = 7 := rfl
  refine E_iload_n at_X6_item_57 rfl ?_
  refine E_aload_n at_X6_item_58 rfl ?_
  refine E_getfield (v := .ref 83) at_X6_item_59 w65 rfl (by decide) rfl ?_
  refine E_iload_n at_X6_item_62 rfl ?_
  refine E_ialN (l := [3, 3, 2, 2, 1, 0, 0]) (v := 2) at_X6_item_63 w83 (by omega) (by omega) rfl ?_
  refine E_ic (t := 166) (b := false) at_X6_item_64 rfl (by decide) ?_
  refine E_iload_n at_X6_item_67 rfl ?_
  refine E_if (t := 121) (b := false) at_X6_item_68 rfl (by decide) ?_
  refine E_aload_n at_X6_item_71 rfl ?_
  refine E_getfield (v := .int (nI a)) at_X6_item_72 w65 rfl (by decide) rfl ?_
  refine E_aload_n at_X6_item_75 rfl ?_
  refine E_getfield (v := .int (nI n)) at_X6_item_76 w65 rfl (by decide) rfl ?_
  refine E_ic (t := 102) (b := false) at_X6_item_79 rfl ((cn_ge (nI_toInt (by omega)) (nI_toInt (by omega))).trans (decide_eq_false (by omega))) ?_
  refine E_aload_n at_X6_item_82 rfl ?_
  refine E_getfield (v := .ref 80) at_X6_item_83 w65 rfl (by decide) rfl ?_
  refine E_aload_n at_X6_item_86 rfl ?_
  refine E_getfield (v := .int (nI (160 * j))) at_X6_item_87 w65 rfl (by decide) rfl ?_
  refine E_aload_n at_X6_item_90 rfl ?_
  refine E_getfield (v := .int (nI a)) at_X6_item_91 w65 rfl (by decide) rfl ?_
  refine E_iadd (z := nI ((160 * j) + a)) at_X6_item_94 (nI_add _ _) ?_
  refine E_lalL (l := ce) (v := ce.getD ((160 * j) + a) 0) at_X6_item_95 w80 (by omega) (by omega) rfl ?_
  refine E_l2i (z := tw e a) at_X6_item_96 (by unfold tw; rw [hce a (by omega)]) ?_
  refine E_bipush (x := nI 32) at_X6_item_97 (by decide) ?_
  refine E_ic (t := 111) (b := true) at_X6_item_99 rfl ((cn_eq rfl (nI_toInt (by omega))).trans (decide_eq_true (by omega))) ?_
  refine E_aload_n at_X6_item_111 rfl ?_
  refine E_dup at_X6_item_112 rfl ?_
  refine E_getfield (v := .int (nI a)) at_X6_item_113 w65 rfl (by decide) rfl ?_
  refine E_iconst (x := nI 1) at_X6_item_116 (by decide) ?_
  refine E_iadd (z := nI (a + 1)) at_X6_item_117 (nI_add _ _) ?_
  refine E_putfield (cs2 := (ww im lf s d k ls rf rz ra rn rq lt m1 m2 m3 m4 bd fc hd sz el q (fUp (fUp (fUp (fUp (fUp (fUp g 27 (nI (160 * j))) 29 (nI n)) 6 (-1)) 28 (nI (a + 1))) 30 x30) 31 x31) fm hm so si sh ce ca td wa kp la bf oo bo pw ow tr)) at_X6_item_118 w65 rfl (by decide) (Nat.le_of_ble_eq_true rfl) rfl rfl rfl (w_pt65_28.trans (by rw [gn28])) ?_
  refine E_aload_n at_X6_item_121 rfl ?_
  refine E_getfield (v := .int (nI (a + 1))) at_X6_item_122 w65 rfl (by decide) rfl ?_
  refine E_istore_n (L2 := [some (.ref 65), some (.int (nI 3)), some (.int (nI 1)), some (.int (nI (a + 1)))]) at_X6_item_125 rfl ?_
  refine E_aload_n at_X6_item_126 rfl ?_
  refine E_callV (v := some (.int (nI 0))) (As := [.ref 65]) (r0 := []) (cs2 := (ww im lf s d k ls rf rz ra rn rq lt m1 m2 m3 m4 bd fc hd sz el q (fUp (fUp (fUp (fUp (fUp (fUp g 27 (nI (160 * j))) 29 (nI n)) 6 (-1)) 28 (nI (a + 1))) 30 (nI 0)) 31 (nI (a + 1))) fm hm so si sh ce ca td wa kp la bf oo bo pw ow tr)) at_X6_item_127 rfl rfl (Nat.le_of_ble_eq_true rfl) rfl (ab_rvOf w65 rfl) (m_rd0 hj hn (by omega) l_ce hce hdg) (by decide) w_lens ?_
  refine E_if (t := 135) (b := false) at_X6_item_130 rfl (by decide) ?_
  refine E_iconst (x := nI 0) at_X6_item_133 (by decide) ?_
  exact E_iret at_X6_item_134 rfl
set_option maxHeartbeats 1000000 in
theorem md310 {e : List Int64} {n a j : Nat} {x30 x31 : Int32} {q : ab_q} (hj : j < 8) (hn : n ≤ 160) (ha : a ≤ n) (Iq : qI q) (l_td : td.length = 3) (l_ce : ce.length = 1280) (hce : ∀ p, p < 160 → e.getD p 0 = ce.getD (160 * j + p) 0) {x3 : Option Value} (hb : chB e n a 32 = true) (hdg : dgB e n (a + 1) = true) (hr : qM q ≤ nuV e n (a + 1)) : Ef ab_Z0 2 mX6_item (57, [some (.ref 65), some (.int (nI 3)), some (.int (nI 1)), x3], [], (ww im lf s d k ls rf rz ra rn rq lt m1 m2 m3 m4 bd fc hd sz el q (fUp (fUp (fUp (fUp (fUp (fUp g 27 (nI (160 * j))) 29 (nI n)) 6 (-1)) 28 (nI a)) 30 x30) 31 x31) fm hm so si sh ce ca td wa kp la bf oo bo pw ow tr)) (some (.int (nI 0)), (ww im lf s d k ls rf rz ra rn rq lt m1 m2 m3 m4 bd fc hd sz el q (fUp (fUp (fUp (fUp (fUp (fUp g 27 (nI (160 * j))) 29 (nI n)) 6 (-1)) 28 (nI (cnE e n a))) 30 (nI (nuV e n (a + 1)))) 31 (nI (a + 1))) fm hm so si sh ce ca td wa kp la bf oo bo pw ow tr)) := by
  obtain ⟨⟨i0, i1, i2, i3⟩, ⟨i4, i5, i6, i7, i8⟩, ⟨i9, i10⟩, I1_, I2_, I3_, I4_⟩ := id Iq
  have hb_ := chB_t hb
  have hd_ := dgB_t hdg
  have h99 := nuV_99 hdg
  have hcn := cnE_n hdg
  have : ([3, 3, 2, 2, 1, 0, 0] : List Nat).length = 7 := rfl
  refine E_iload_n at_X6_item_57 rfl ?_
  refine E_aload_n at_X6_item_58 rfl ?_
  refine E_getfield (v := .ref 83) at_X6_item_59 w65 rfl (by decide) rfl ?_
  refine E_iload_n at_X6_item_62 rfl ?_
  refine E_ialN (l := [3, 3, 2, 2, 1, 0, 0]) (v := 2) at_X6_item_63 w83 (by omega) (by omega) rfl ?_
  refine E_ic (t := 166) (b := false) at_X6_item_64 rfl (by decide) ?_
  refine E_iload_n at_X6_item_67 rfl ?_
  refine E_if (t := 121) (b := false) at_X6_item_68 rfl (by decide) ?_
  refine E_aload_n at_X6_item_71 rfl ?_
  refine E_getfield (v := .int (nI a)) at_X6_item_72 w65 rfl (by decide) rfl ?_
  refine E_aload_n at_X6_item_75 rfl ?_
  refine E_getfield (v := .int (nI n)) at_X6_item_76 w65 rfl (by decide) rfl ?_
  refine E_ic (t := 102) (b := false) at_X6_item_79 rfl ((cn_ge (nI_toInt (by omega)) (nI_toInt (by omega))).trans (decide_eq_false (by omega))) ?_
  refine E_aload_n at_X6_item_82 rfl ?_
  refine E_getfield (v := .ref 80) at_X6_item_83 w65 rfl (by decide) rfl ?_
  refine E_aload_n at_X6_item_86 rfl ?_
  refine E_getfield (v := .int (nI (160 * j))) at_X6_item_87 w65 rfl (by decide) rfl ?_
  refine E_aload_n at_X6_item_90 rfl ?_
  refine E_getfield (v := .int (nI a)) at_X6_item_91 w65 rfl (by decide) rfl ?_
  refine E_iadd (z := nI ((160 * j) + a)) at_X6_item_94 (nI_add _ _) ?_
  refine E_lalL (l := ce) (v := ce.getD ((160 * j) + a) 0) at_X6_item_95 w80 (by omega) (by omega) rfl ?_
  refine E_l2i (z := tw e a) at_X6_item_96 (by unfold tw; rw [hce a (by omega)]) ?_
  refine E_bipush (x := nI 32) at_X6_item_97 (by decide) ?_
  refine E_ic (t := 111) (b := true) at_X6_item_99 rfl ((cn_eq rfl (nI_toInt (by omega))).trans (decide_eq_true (by omega))) ?_
  refine E_aload_n at_X6_item_111 rfl ?_
  refine E_dup at_X6_item_112 rfl ?_
  refine E_getfield (v := .int (nI a)) at_X6_item_113 w65 rfl (by decide) rfl ?_
  refine E_iconst (x := nI 1) at_X6_item_116 (by decide) ?_
  refine E_iadd (z := nI (a + 1)) at_X6_item_117 (nI_add _ _) ?_
  refine E_putfield (cs2 := (ww im lf s d k ls rf rz ra rn rq lt m1 m2 m3 m4 bd fc hd sz el q (fUp (fUp (fUp (fUp (fUp (fUp g 27 (nI (160 * j))) 29 (nI n)) 6 (-1)) 28 (nI (a + 1))) 30 x30) 31 x31) fm hm so si sh ce ca td wa kp la bf oo bo pw ow tr)) at_X6_item_118 w65 rfl (by decide) (Nat.le_of_ble_eq_true rfl) rfl rfl rfl (w_pt65_28.trans (by rw [gn28])) ?_
  refine E_aload_n at_X6_item_121 rfl ?_
  refine E_getfield (v := .int (nI (a + 1))) at_X6_item_122 w65 rfl (by decide) rfl ?_
  refine E_istore_n (L2 := [some (.ref 65), some (.int (nI 3)), some (.int (nI 1)), some (.int (nI (a + 1)))]) at_X6_item_125 rfl ?_
  refine E_aload_n at_X6_item_126 rfl ?_
  refine E_callV (v := some (.int (nI 1))) (As := [.ref 65]) (r0 := []) (cs2 := (ww im lf s d k ls rf rz ra rn rq lt m1 m2 m3 m4 bd fc hd sz el q (fUp (fUp (fUp (fUp (fUp (fUp g 27 (nI (160 * j))) 29 (nI n)) 6 (-1)) 28 (nI (cnE e n a))) 30 (nI (nuV e n (a + 1)))) 31 x31) fm hm so si sh ce ca td wa kp la bf oo bo pw ow tr)) at_X6_item_127 rfl rfl (Nat.le_of_ble_eq_true rfl) rfl (ab_rvOf w65 rfl) (m_rd1 hj hn (by omega) l_ce hce hdg) (by decide) w_lens ?_
  refine E_if (t := 135) (b := true) at_X6_item_130 rfl (by decide) ?_
  refine E_aload_n at_X6_item_135 rfl ?_
  refine E_iload_n at_X6_item_136 rfl ?_
  refine E_iload_n at_X6_item_137 rfl ?_
  have e1 : Ev ab_Z0 1 161 [.ref 65, .int (nI 3), .int (nI 1)] (ww im lf s d k ls rf rz ra rn rq lt m1 m2 m3 m4 bd fc hd sz el q (fUp (fUp (fUp (fUp (fUp (fUp g 27 (nI (160 * j))) 29 (nI n)) 6 (-1)) 28 (nI (cnE e n a))) 30 (nI (nuV e n (a + 1)))) 31 x31) fm hm so si sh ce ca td wa kp la bf oo bo pw ow tr) (some (.int (nI 0)), (ww im lf s d k ls rf rz ra rn rq lt m1 m2 m3 m4 bd fc hd sz el q (fUp (fUp (fUp (fUp (fUp (fUp g 27 (nI (160 * j))) 29 (nI n)) 6 (-1)) 28 (nI (cnE e n a))) 30 (nI (nuV e n (a + 1)))) 31 x31) fm hm so si sh ce ca td wa kp la bf oo bo pw ow tr)) := by
    refine Ef.in (md := mX6_isSo) (L := [some (.ref 65), some (.int (nI 3)), some (.int (nI 1))]) rfl (Nat.le_of_ble_eq_true rfl) rfl ?_
    refine E_iload_n at_X6_isSo_0 rfl ?_
    refine E_iconst (x := nI 3) at_X6_isSo_1 (by decide) ?_
    refine E_ic (t := 48) (b := true) at_X6_isSo_2 rfl (by decide) ?_
    refine E_iload_n at_X6_isSo_48 rfl ?_
    refine E_iconst (x := nI 3) at_X6_isSo_49 (by decide) ?_
    refine E_ic (t := 75) (b := false) at_X6_isSo_50 rfl (by decide) ?_
    refine E_iload_n at_X6_isSo_53 rfl ?_
    refine E_iconst (x := nI 1) at_X6_isSo_54 (by decide) ?_
    refine E_ic (t := 75) (b := false) at_X6_isSo_55 rfl (by decide) ?_
    refine E_aload_n rfl rfl ?_
    refine E_getfield (v := .int (nI (nuV e n (a + 1)))) rfl w65 rfl (by decide) rfl ?_
    refine E_aload_n rfl rfl ?_
    refine E_getfield (v := .int (nI (qM q))) rfl w65 rfl (by decide) rfl ?_
    refine E_ic (t := 73) (b := true) rfl rfl ((cn_ge (nI_toInt (by omega)) (nI_toInt (by omega))).trans (decide_eq_true (by omega))) ?_
    refine E_iconst (x := nI 0) rfl (by decide) ?_
    exact E_iret rfl rfl
  refine E_callV (v := some (.int (nI 0))) (As := [.ref 65, .int (nI 3), .int (nI 1)]) (r0 := []) (cs2 := (ww im lf s d k ls rf rz ra rn rq lt m1 m2 m3 m4 bd fc hd sz el q (fUp (fUp (fUp (fUp (fUp (fUp g 27 (nI (160 * j))) 29 (nI n)) 6 (-1)) 28 (nI (cnE e n a))) 30 (nI (nuV e n (a + 1)))) 31 x31) fm hm so si sh ce ca td wa kp la bf oo bo pw ow tr)) at_X6_item_138 rfl rfl (Nat.le_of_ble_eq_true rfl) rfl (ab_rvOf w65 rfl) e1 (by decide) rfl ?_
  refine E_if (t := 150) (b := false) at_X6_item_141 rfl (by decide) ?_
  refine E_aload_n at_X6_item_144 rfl ?_
  refine E_iload_n at_X6_item_145 rfl ?_
  have e2 : Ev ab_Z0 1 156 [.ref 65, .int (nI (a + 1))] (ww im lf s d k ls rf rz ra rn rq lt m1 m2 m3 m4 bd fc hd sz el q (fUp (fUp (fUp (fUp (fUp (fUp g 27 (nI (160 * j))) 29 (nI n)) 6 (-1)) 28 (nI (cnE e n a))) 30 (nI (nuV e n (a + 1)))) 31 x31) fm hm so si sh ce ca td wa kp la bf oo bo pw ow tr) (some (.int (nI 0)), (ww im lf s d k ls rf rz ra rn rq lt m1 m2 m3 m4 bd fc hd sz el q (fUp (fUp (fUp (fUp (fUp (fUp g 27 (nI (160 * j))) 29 (nI n)) 6 (-1)) 28 (nI (cnE e n a))) 30 (nI (nuV e n (a + 1)))) 31 (nI (a + 1))) fm hm so si sh ce ca td wa kp la bf oo bo pw ow tr)) := by
    refine Ef.in (md := mX6_wrong) (L := [some (.ref 65), some (.int (nI (a + 1)))]) rfl (Nat.le_of_ble_eq_true rfl) rfl ?_
    refine E_aload_n at_X6_wrong_0 rfl ?_
    refine E_iload_n at_X6_wrong_1 rfl ?_
    refine E_putfield (cs2 := (ww im lf s d k ls rf rz ra rn rq lt m1 m2 m3 m4 bd fc hd sz el q (fUp (fUp (fUp (fUp (fUp (fUp g 27 (nI (160 * j))) 29 (nI n)) 6 (-1)) 28 (nI (cnE e n a))) 30 (nI (nuV e n (a + 1)))) 31 (nI (a + 1))) fm hm so si sh ce ca td wa kp la bf oo bo pw ow tr)) at_X6_wrong_2 w65 rfl (by decide) (Nat.le_of_ble_eq_true rfl) rfl rfl rfl (w_pt65_31.trans (by rw [gn31])) ?_
    refine E_iconst (x := nI 0) at_X6_wrong_5 (by decide) ?_
    exact E_iret at_X6_wrong_6 rfl
  refine E_callV (v := some (.int (nI 0))) (As := [.ref 65, .int (nI (a + 1))]) (r0 := []) (cs2 := (ww im lf s d k ls rf rz ra rn rq lt m1 m2 m3 m4 bd fc hd sz el q (fUp (fUp (fUp (fUp (fUp (fUp g 27 (nI (160 * j))) 29 (nI n)) 6 (-1)) 28 (nI (cnE e n a))) 30 (nI (nuV e n (a + 1)))) 31 (nI (a + 1))) fm hm so si sh ce ca td wa kp la bf oo bo pw ow tr)) at_X6_item_146 rfl rfl (Nat.le_of_ble_eq_true rfl) rfl (ab_rvOf w65 rfl) e2 (by decide) w_lens ?_
  exact E_iret at_X6_item_149 rfl
set_option maxHeartbeats 1000000 in
theorem mc40 {e : List Int64} {n a j : Nat} {x30 x31 : Int32} {q : ab_q} (hj : j < 8) (hn : n ≤ 160) (ha : a ≤ n) (Iq : qI q) (l_td : td.length = 3) (l_ce : ce.length = 1280) (hce : ∀ p, p < 160 → e.getD p 0 = ce.getD (160 * j + p) 0) {x3 : Option Value} (hb : chB e n a 32 = true) (hdg : dgB e n (a + 1) = true) (ho0 : 0 ≤ nuV e n (a + 1)) (ho1 : nuV e n (a + 1) < qN q) (ho2 : ¬ (qP q).getD (nuV e n (a + 1)) 0 = 99) {r : Option Value × List ab_C} (K : Ef ab_Z0 2 mX6_item (57, [some (.ref 65), some (.int (nI 4)), some (.int (nI 1)), some (.int (nI (a + 1)))], [], (ww im lf s d k ls rf rz ra rn rq lt m1 m2 m3 m4 bd fc hd sz el q (fUp (fUp (fUp (fUp (fUp (fUp g 27 (nI (160 * j))) 29 (nI n)) 6 (-1)) 28 (nI (cnE e n a))) 30 (nI (nuV e n (a + 1)))) 31 x31) fm hm so si sh ce ca (td.set 0 (nI (nuV e n (a + 1)))) wa kp la bf oo bo pw ow tr)) r) : Ef ab_Z0 2 mX6_item (57, [some (.ref 65), some (.int (nI 4)), some (.int (nI 0)), x3], [], (ww im lf s d k ls rf rz ra rn rq lt m1 m2 m3 m4 bd fc hd sz el q (fUp (fUp (fUp (fUp (fUp (fUp g 27 (nI (160 * j))) 29 (nI n)) 6 (-1)) 28 (nI (a + 1))) 30 x30) 31 x31) fm hm so si sh ce ca td wa kp la bf oo bo pw ow tr)) r := by
  obtain ⟨⟨i0, i1, i2, i3⟩, ⟨i4, i5, i6, i7, i8⟩, ⟨i9, i10⟩, I1_, I2_, I3_, I4_⟩ := id Iq
  have hb_ := chB_t hb
  have hd_ := dgB_t hdg
  have h99 := nuV_99 hdg
  have hcn := cnE_n hdg
  have hP9 := I1_ (nuV e n (a + 1)) (by omega)
  have : ([3, 3, 2, 2, 1, 0, 0] : List Nat).length = 7 := rfl
  have : (qP q).length = 9 := by first | omega | (simp only [List.length_set]; omega)
  refine E_iload_n at_X6_item_57 rfl ?_
  refine E_aload_n at_X6_item_58 rfl ?_
  refine E_getfield (v := .ref 83) at_X6_item_59 w65 rfl (by decide) rfl ?_
  refine E_iload_n at_X6_item_62 rfl ?_
  refine E_ialN (l := [3, 3, 2, 2, 1, 0, 0]) (v := 1) at_X6_item_63 w83 (by omega) (by omega) rfl ?_
  refine E_ic (t := 166) (b := false) at_X6_item_64 rfl (by decide) ?_
  refine E_iload_n at_X6_item_67 rfl ?_
  refine E_if (t := 121) (b := true) at_X6_item_68 rfl (by decide) ?_
  refine E_aload_n at_X6_item_121 rfl ?_
  refine E_getfield (v := .int (nI (a + 1))) at_X6_item_122 w65 rfl (by decide) rfl ?_
  refine E_istore_n (L2 := [some (.ref 65), some (.int (nI 4)), some (.int (nI 0)), some (.int (nI (a + 1)))]) at_X6_item_125 rfl ?_
  refine E_aload_n at_X6_item_126 rfl ?_
  refine E_callV (v := some (.int (nI 1))) (As := [.ref 65]) (r0 := []) (cs2 := (ww im lf s d k ls rf rz ra rn rq lt m1 m2 m3 m4 bd fc hd sz el q (fUp (fUp (fUp (fUp (fUp (fUp g 27 (nI (160 * j))) 29 (nI n)) 6 (-1)) 28 (nI (cnE e n a))) 30 (nI (nuV e n (a + 1)))) 31 x31) fm hm so si sh ce ca td wa kp la bf oo bo pw ow tr)) at_X6_item_127 rfl rfl (Nat.le_of_ble_eq_true rfl) rfl (ab_rvOf w65 rfl) (m_rd1 hj hn (by omega) l_ce hce hdg) (by decide) w_lens ?_
  refine E_if (t := 135) (b := true) at_X6_item_130 rfl (by decide) ?_
  refine E_aload_n at_X6_item_135 rfl ?_
  refine E_iload_n at_X6_item_136 rfl ?_
  refine E_iload_n at_X6_item_137 rfl ?_
  have e1 : Ev ab_Z0 1 161 [.ref 65, .int (nI 4), .int (nI 0)] (ww im lf s d k ls rf rz ra rn rq lt m1 m2 m3 m4 bd fc hd sz el q (fUp (fUp (fUp (fUp (fUp (fUp g 27 (nI (160 * j))) 29 (nI n)) 6 (-1)) 28 (nI (cnE e n a))) 30 (nI (nuV e n (a + 1)))) 31 x31) fm hm so si sh ce ca td wa kp la bf oo bo pw ow tr) (some (.int (nI 1)), (ww im lf s d k ls rf rz ra rn rq lt m1 m2 m3 m4 bd fc hd sz el q (fUp (fUp (fUp (fUp (fUp (fUp g 27 (nI (160 * j))) 29 (nI n)) 6 (-1)) 28 (nI (cnE e n a))) 30 (nI (nuV e n (a + 1)))) 31 x31) fm hm so si sh ce ca td wa kp la bf oo bo pw ow tr)) := by
    refine Ef.in (md := mX6_isSo) (L := [some (.ref 65), some (.int (nI 4)), some (.int (nI 0))]) rfl (Nat.le_of_ble_eq_true rfl) rfl ?_
    refine E_iload_n at_X6_isSo_0 rfl ?_
    refine E_iconst (x := nI 3) at_X6_isSo_1 (by decide) ?_
    refine E_ic (t := 48) (b := true) at_X6_isSo_2 rfl (by decide) ?_
    refine E_iload_n at_X6_isSo_48 rfl ?_
    refine E_iconst (x := nI 3) at_X6_isSo_49 (by decide) ?_
    refine E_ic (t := 75) (b := true) at_X6_isSo_50 rfl (by decide) ?_
    refine E_aload_n at_X6_isSo_75 rfl ?_
    refine E_getfield (v := .int (nI (nuV e n (a + 1)))) at_X6_isSo_76 w65 rfl (by decide) rfl ?_
    refine E_aload_n at_X6_isSo_79 rfl ?_
    refine E_getfield (v := .int (nI (qN q))) at_X6_isSo_80 w65 rfl (by decide) rfl ?_
    refine E_ic (t := 122) (b := false) at_X6_isSo_83 rfl ((cn_ge (nI_toInt (by omega)) (nI_toInt (by omega))).trans (decide_eq_false (by omega))) ?_
    refine E_aload_n at_X6_isSo_86 rfl ?_
    refine E_getfield (v := .ref 70) at_X6_isSo_87 w65 rfl (by decide) rfl ?_
    refine E_aload_n at_X6_isSo_90 rfl ?_
    refine E_getfield (v := .int (nI (nuV e n (a + 1)))) at_X6_isSo_91 w65 rfl (by decide) rfl ?_
    refine E_ialN (l := qP q) (v := (qP q).getD (nuV e n (a + 1)) 0) at_X6_isSo_94 w70 (by omega) (by omega) rfl ?_
    refine E_bipush (x := nI 99) at_X6_isSo_95 (by decide) ?_
    refine E_ic (t := 104) (b := true) at_X6_isSo_97 rfl ((cn_ne (nI_toInt (by omega)) (nI_toInt (by omega))).trans (decide_eq_true (by omega))) ?_
    refine E_iconst (x := nI 0) rfl (by decide) ?_
    refine E_iload_n at_X6_isSo_105 rfl ?_
    refine E_iconst (x := nI 3) at_X6_isSo_106 (by decide) ?_
    refine E_ic (t := 114) (b := true) at_X6_isSo_107 rfl (by decide) ?_
    refine E_iconst (x := nI 0) rfl (by decide) ?_
    refine E_ic (t := 122) (b := false) at_X6_isSo_115 rfl (by decide) ?_
    refine E_iconst (x := nI 1) rfl (by decide) ?_
    refine E_goto (t := 123) rfl rfl ?_
    exact E_iret at_X6_isSo_123 rfl
  refine E_callV (v := some (.int (nI 1))) (As := [.ref 65, .int (nI 4), .int (nI 0)]) (r0 := []) (cs2 := (ww im lf s d k ls rf rz ra rn rq lt m1 m2 m3 m4 bd fc hd sz el q (fUp (fUp (fUp (fUp (fUp (fUp g 27 (nI (160 * j))) 29 (nI n)) 6 (-1)) 28 (nI (cnE e n a))) 30 (nI (nuV e n (a + 1)))) 31 x31) fm hm so si sh ce ca td wa kp la bf oo bo pw ow tr)) at_X6_item_138 rfl rfl (Nat.le_of_ble_eq_true rfl) rfl (ab_rvOf w65 rfl) e1 (by decide) rfl ?_
  refine E_if (t := 150) (b := true) at_X6_item_141 rfl (by decide) ?_
  refine E_aload_n at_X6_item_150 rfl ?_
  refine E_getfield (v := .ref 85) at_X6_item_151 w65 rfl (by decide) rfl ?_
  refine E_iload_n at_X6_item_154 rfl ?_
  refine E_aload_n at_X6_item_155 rfl ?_
  refine E_getfield (v := .int (nI (nuV e n (a + 1)))) at_X6_item_156 w65 rfl (by decide) rfl ?_
  refine E_iasI (l := td) (cs2 := (ww im lf s d k ls rf rz ra rn rq lt m1 m2 m3 m4 bd fc hd sz el q (fUp (fUp (fUp (fUp (fUp (fUp g 27 (nI (160 * j))) 29 (nI n)) 6 (-1)) 28 (nI (cnE e n a))) 30 (nI (nuV e n (a + 1)))) 31 x31) fm hm so si sh ce ca (td.set 0 (nI (nuV e n (a + 1)))) wa kp la bf oo bo pw ow tr)) at_X6_item_159 w85 (by omega) (by omega) rfl ?_
  refine E_iinc (y := nI 1) (L2 := [some (.ref 65), some (.int (nI 4)), some (.int (nI 1)), some (.int (nI (a + 1)))]) at_X6_item_160 rfl (by decide) rfl ?_
  refine E_goto (t := 57) at_X6_item_163 rfl ?_
  exact K
set_option maxHeartbeats 1000000 in
theorem mb40 {e : List Int64} {n a j : Nat} {x30 x31 : Int32} {q : ab_q} (hj : j < 8) (hn : n ≤ 160) (ha : a ≤ n) (Iq : qI q) (l_td : td.length = 3) (l_ce : ce.length = 1280) (hce : ∀ p, p < 160 → e.getD p 0 = ce.getD (160 * j + p) 0) {x3 : Option Value} (hb : chB e n a 32 = true) (hdg : dgB e n (a + 1) = false) : Ef ab_Z0 2 mX6_item (57, [some (.ref 65), some (.int (nI 4)), some (.int (nI 0)), x3], [], (ww im lf s d k ls rf rz ra rn rq lt m1 m2 m3 m4 bd fc hd sz el q (fUp (fUp (fUp (fUp (fUp (fUp g 27 (nI (160 * j))) 29 (nI n)) 6 (-1)) 28 (nI (a + 1))) 30 x30) 31 x31) fm hm so si sh ce ca td wa kp la bf oo bo pw ow tr)) (some (.int (nI 0)), (ww im lf s d k ls rf rz ra rn rq lt m1 m2 m3 m4 bd fc hd sz el q (fUp (fUp (fUp (fUp (fUp (fUp g 27 (nI (160 * j))) 29 (nI n)) 6 (-1)) 28 (nI (a + 1))) 30 (nI 0)) 31 (nI (a + 1))) fm hm so si sh ce ca td wa kp la bf oo bo pw ow tr)) := by
  have hb_ := chB_t hb
  have : ([3, 3, 2, 2, 1, 0, 0] : List Nat).length = 7 := rfl
  refine E_iload_n at_X6_item_57 rfl ?_
  refine E_aload_n at_X6_item_58 rfl ?_
  refine E_getfield (v := .ref 83) at_X6_item_59 w65 rfl (by decide) rfl ?_
  refine E_iload_n at_X6_item_62 rfl ?_
  refine E_ialN (l := [3, 3, 2, 2, 1, 0, 0]) (v := 1) at_X6_item_63 w83 (by omega) (by omega) rfl ?_
  refine E_ic (t := 166) (b := false) at_X6_item_64 rfl (by decide) ?_
  refine E_iload_n at_X6_item_67 rfl ?_
  refine E_if (t := 121) (b := true) at_X6_item_68 rfl (by decide) ?_
  refine E_aload_n at_X6_item_121 rfl ?_
  refine E_getfield (v := .int (nI (a + 1))) at_X6_item_122 w65 rfl (by decide) rfl ?_
  refine E_istore_n (L2 := [some (.ref 65), some (.int (nI 4)), some (.int (nI 0)), some (.int (nI (a + 1)))]) at_X6_item_125 rfl ?_
  refine E_aload_n at_X6_item_126 rfl ?_
  refine E_callV (v := some (.int (nI 0))) (As := [.ref 65]) (r0 := []) (cs2 := (ww im lf s d k ls rf rz ra rn rq lt m1 m2 m3 m4 bd fc hd sz el q (fUp (fUp (fUp (fUp (fUp (fUp g 27 (nI (160 * j))) 29 (nI n)) 6 (-1)) 28 (nI (a + 1))) 30 (nI 0)) 31 (nI (a + 1))) fm hm so si sh ce ca td wa kp la bf oo bo pw ow tr)) at_X6_item_127 rfl rfl (Nat.le_of_ble_eq_true rfl) rfl (ab_rvOf w65 rfl) (m_rd0 hj hn (by omega) l_ce hce hdg) (by decide) w_lens ?_
  refine E_if (t := 135) (b := false) at_X6_item_130 rfl (by decide) ?_
  refine E_iconst (x := nI 0) at_X6_item_133 (by decide) ?_
  exact E_iret at_X6_item_134 rfl
set_option maxHeartbeats 1000000 in
theorem md400 {e : List Int64} {n a j : Nat} {x30 x31 : Int32} {q : ab_q} (hj : j < 8) (hn : n ≤ 160) (ha : a ≤ n) (Iq : qI q) (l_td : td.length = 3) (l_ce : ce.length = 1280) (hce : ∀ p, p < 160 → e.getD p 0 = ce.getD (160 * j + p) 0) {x3 : Option Value} (hb : chB e n a 32 = true) (hdg : dgB e n (a + 1) = true) (hr : qN q ≤ nuV e n (a + 1)) : Ef ab_Z0 2 mX6_item (57, [some (.ref 65), some (.int (nI 4)), some (.int (nI 0)), x3], [], (ww im lf s d k ls rf rz ra rn rq lt m1 m2 m3 m4 bd fc hd sz el q (fUp (fUp (fUp (fUp (fUp (fUp g 27 (nI (160 * j))) 29 (nI n)) 6 (-1)) 28 (nI (a + 1))) 30 x30) 31 x31) fm hm so si sh ce ca td wa kp la bf oo bo pw ow tr)) (some (.int (nI 0)), (ww im lf s d k ls rf rz ra rn rq lt m1 m2 m3 m4 bd fc hd sz el q (fUp (fUp (fUp (fUp (fUp (fUp g 27 (nI (160 * j))) 29 (nI n)) 6 (-1)) 28 (nI (cnE e n a))) 30 (nI (nuV e n (a + 1)))) 31 (nI (a + 1))) fm hm so si sh ce ca td wa kp la bf oo bo pw ow tr)) := by
  obtain ⟨⟨i0, i1, i2, i3⟩, ⟨i4, i5, i6, i7, i8⟩, ⟨i9, i10⟩, I1_, I2_, I3_, I4_⟩ := id Iq
  have hb_ := chB_t hb
  have hd_ := dgB_t hdg
  have h99 := nuV_99 hdg
  have hcn := cnE_n hdg
  have : ([3, 3, 2, 2, 1, 0, 0] : List Nat).length = 7 := rfl
  refine E_iload_n at_X6_item_57 rfl ?_
  refine E_aload_n at_X6_item_58 rfl ?_
  refine E_getfield (v := .ref 83) at_X6_item_59 w65 rfl (by decide) rfl ?_
  refine E_iload_n at_X6_item_62 rfl ?_
  refine E_ialN (l := [3, 3, 2, 2, 1, 0, 0]) (v := 1) at_X6_item_63 w83 (by omega) (by omega) rfl ?_
  refine E_ic (t := 166) (b := false) at_X6_item_64 rfl (by decide) ?_
  refine E_iload_n at_X6_item_67 rfl ?_
  refine E_if (t := 121) (b := true) at_X6_item_68 rfl (by decide) ?_
  refine E_aload_n at_X6_item_121 rfl ?_
  refine E_getfield (v := .int (nI (a + 1))) at_X6_item_122 w65 rfl (by decide) rfl ?_
  refine E_istore_n (L2 := [some (.ref 65), some (.int (nI 4)), some (.int (nI 0)), some (.int (nI (a + 1)))]) at_X6_item_125 rfl ?_
  refine E_aload_n at_X6_item_126 rfl ?_
  refine E_callV (v := some (.int (nI 1))) (As := [.ref 65]) (r0 := []) (cs2 := (ww im lf s d k ls rf rz ra rn rq lt m1 m2 m3 m4 bd fc hd sz el q (fUp (fUp (fUp (fUp (fUp (fUp g 27 (nI (160 * j))) 29 (nI n)) 6 (-1)) 28 (nI (cnE e n a))) 30 (nI (nuV e n (a + 1)))) 31 x31) fm hm so si sh ce ca td wa kp la bf oo bo pw ow tr)) at_X6_item_127 rfl rfl (Nat.le_of_ble_eq_true rfl) rfl (ab_rvOf w65 rfl) (m_rd1 hj hn (by omega) l_ce hce hdg) (by decide) w_lens ?_
  refine E_if (t := 135) (b := true) at_X6_item_130 rfl (by decide) ?_
  refine E_aload_n at_X6_item_135 rfl ?_
  refine E_iload_n at_X6_item_136 rfl ?_
  refine E_iload_n at_X6_item_137 rfl ?_
  have e1 : Ev ab_Z0 1 161 [.ref 65, .int (nI 4), .int (nI 0)] (ww im lf s d k ls rf rz ra rn rq lt m1 m2 m3 m4 bd fc hd sz el q (fUp (fUp (fUp (fUp (fUp (fUp g 27 (nI (160 * j))) 29 (nI n)) 6 (-1)) 28 (nI (cnE e n a))) 30 (nI (nuV e n (a + 1)))) 31 x31) fm hm so si sh ce ca td wa kp la bf oo bo pw ow tr) (some (.int (nI 0)), (ww im lf s d k ls rf rz ra rn rq lt m1 m2 m3 m4 bd fc hd sz el q (fUp (fUp (fUp (fUp (fUp (fUp g 27 (nI (160 * j))) 29 (nI n)) 6 (-1)) 28 (nI (cnE e n a))) 30 (nI (nuV e n (a + 1)))) 31 x31) fm hm so si sh ce ca td wa kp la bf oo bo pw ow tr)) := by
    refine Ef.in (md := mX6_isSo) (L := [some (.ref 65), some (.int (nI 4)), some (.int (nI 0))]) rfl (Nat.le_of_ble_eq_true rfl) rfl ?_
    refine E_iload_n at_X6_isSo_0 rfl ?_
    refine E_iconst (x := nI 3) at_X6_isSo_1 (by decide) ?_
    refine E_ic (t := 48) (b := true) at_X6_isSo_2 rfl (by decide) ?_
    refine E_iload_n at_X6_isSo_48 rfl ?_
    refine E_iconst (x := nI 3) at_X6_isSo_49 (by decide) ?_
    refine E_ic (t := 75) (b := true) at_X6_isSo_50 rfl (by decide) ?_
    refine E_aload_n at_X6_isSo_75 rfl ?_
    refine E_getfield (v := .int (nI (nuV e n (a + 1)))) at_X6_isSo_76 w65 rfl (by decide) rfl ?_
    refine E_aload_n at_X6_isSo_79 rfl ?_
    refine E_getfield (v := .int (nI (qN q))) at_X6_isSo_80 w65 rfl (by decide) rfl ?_
    refine E_ic (t := 122) (b := true) at_X6_isSo_83 rfl ((cn_ge (nI_toInt (by omega)) (nI_toInt (by omega))).trans (decide_eq_true (by omega))) ?_
    refine E_iconst (x := nI 0) at_X6_isSo_122 (by decide) ?_
    exact E_iret at_X6_isSo_123 rfl
  refine E_callV (v := some (.int (nI 0))) (As := [.ref 65, .int (nI 4), .int (nI 0)]) (r0 := []) (cs2 := (ww im lf s d k ls rf rz ra rn rq lt m1 m2 m3 m4 bd fc hd sz el q (fUp (fUp (fUp (fUp (fUp (fUp g 27 (nI (160 * j))) 29 (nI n)) 6 (-1)) 28 (nI (cnE e n a))) 30 (nI (nuV e n (a + 1)))) 31 x31) fm hm so si sh ce ca td wa kp la bf oo bo pw ow tr)) at_X6_item_138 rfl rfl (Nat.le_of_ble_eq_true rfl) rfl (ab_rvOf w65 rfl) e1 (by decide) rfl ?_
  refine E_if (t := 150) (b := false) at_X6_item_141 rfl (by decide) ?_
  refine E_aload_n at_X6_item_144 rfl ?_
  refine E_iload_n at_X6_item_145 rfl ?_
  have e2 : Ev ab_Z0 1 156 [.ref 65, .int (nI (a + 1))] (ww im lf s d k ls rf rz ra rn rq lt m1 m2 m3 m4 bd fc hd sz el q (fUp (fUp (fUp (fUp (fUp (fUp g 27 (nI (160 * j))) 29 (nI n)) 6 (-1)) 28 (nI (cnE e n a))) 30 (nI (nuV e n (a + 1)))) 31 x31) fm hm so si sh ce ca td wa kp la bf oo bo pw ow tr) (some (.int (nI 0)), (ww im lf s d k ls rf rz ra rn rq lt m1 m2 m3 m4 bd fc hd sz el q (fUp (fUp (fUp (fUp (fUp (fUp g 27 (nI (160 * j))) 29 (nI n)) 6 (-1)) 28 (nI (cnE e n a))) 30 (nI (nuV e n (a + 1)))) 31 (nI (a + 1))) fm hm so si sh ce ca td wa kp la bf oo bo pw ow tr)) := by
    refine Ef.in (md := mX6_wrong) (L := [some (.ref 65), some (.int (nI (a + 1)))]) rfl (Nat.le_of_ble_eq_true rfl) rfl ?_
    refine E_aload_n at_X6_wrong_0 rfl ?_
    refine E_iload_n at_X6_wrong_1 rfl ?_
    refine E_putfield (cs2 := (ww im lf s d k ls rf rz ra rn rq lt m1 m2 m3 m4 bd fc hd sz el q (fUp (fUp (fUp (fUp (fUp (fUp g 27 (nI (160 * j))) 29 (nI n)) 6 (-1)) 28 (nI (cnE e n a))) 30 (nI (nuV e n (a + 1)))) 31 (nI (a + 1))) fm hm so si sh ce ca td wa kp la bf oo bo pw ow tr)) at_X6_wrong_2 w65 rfl (by decide) (Nat.le_of_ble_eq_true rfl) rfl rfl rfl (w_pt65_31.trans (by rw [gn31])) ?_
    refine E_iconst (x := nI 0) at_X6_wrong_5 (by decide) ?_
    exact E_iret at_X6_wrong_6 rfl
  refine E_callV (v := some (.int (nI 0))) (As := [.ref 65, .int (nI (a + 1))]) (r0 := []) (cs2 := (ww im lf s d k ls rf rz ra rn rq lt m1 m2 m3 m4 bd fc hd sz el q (fUp (fUp (fUp (fUp (fUp (fUp g 27 (nI (160 * j))) 29 (nI n)) 6 (-1)) 28 (nI (cnE e n a))) 30 (nI (nuV e n (a + 1)))) 31 (nI (a + 1))) fm hm so si sh ce ca td wa kp la bf oo bo pw ow tr)) at_X6_item_146 rfl rfl (Nat.le_of_ble_eq_true rfl) rfl (ab_rvOf w65 rfl) e2 (by decide) w_lens ?_
  exact E_iret at_X6_item_149 rfl
set_option maxHeartbeats 1000000 in
theorem md401 {e : List Int64} {n a j : Nat} {x30 x31 : Int32} {q : ab_q} (hj : j < 8) (hn : n ≤ 160) (ha : a ≤ n) (Iq : qI q) (l_td : td.length = 3) (l_ce : ce.length = 1280) (hce : ∀ p, p < 160 → e.getD p 0 = ce.getD (160 * j + p) 0) {x3 : Option Value} (hb : chB e n a 32 = true) (hdg : dgB e n (a + 1) = true) (hr : nuV e n (a + 1) < qN q) (hr2 : (qP q).getD (nuV e n (a + 1)) 0 = 99) : Ef ab_Z0 2 mX6_item (57, [some (.ref 65), some (.int (nI 4)), some (.int (nI 0)), x3], [], (ww im lf s d k ls rf rz ra rn rq lt m1 m2 m3 m4 bd fc hd sz el q (fUp (fUp (fUp (fUp (fUp (fUp g 27 (nI (160 * j))) 29 (nI n)) 6 (-1)) 28 (nI (a + 1))) 30 x30) 31 x31) fm hm so si sh ce ca td wa kp la bf oo bo pw ow tr)) (some (.int (nI 0)), (ww im lf s d k ls rf rz ra rn rq lt m1 m2 m3 m4 bd fc hd sz el q (fUp (fUp (fUp (fUp (fUp (fUp g 27 (nI (160 * j))) 29 (nI n)) 6 (-1)) 28 (nI (cnE e n a))) 30 (nI (nuV e n (a + 1)))) 31 (nI (a + 1))) fm hm so si sh ce ca td wa kp la bf oo bo pw ow tr)) := by
  obtain ⟨⟨i0, i1, i2, i3⟩, ⟨i4, i5, i6, i7, i8⟩, ⟨i9, i10⟩, I1_, I2_, I3_, I4_⟩ := id Iq
  have hb_ := chB_t hb
  have hd_ := dgB_t hdg
  have h99 := nuV_99 hdg
  have hcn := cnE_n hdg
  have hP9 := I1_ (nuV e n (a + 1)) (by omega)
  have : ([3, 3, 2, 2, 1, 0, 0] : List Nat).length = 7 := rfl
  have : (qP q).length = 9 := by first | omega | (simp only [List.length_set]; omega)
  refine E_iload_n at_X6_item_57 rfl ?_
  refine E_aload_n at_X6_item_58 rfl ?_
  refine E_getfield (v := .ref 83) at_X6_item_59 w65 rfl (by decide) rfl ?_
  refine E_iload_n at_X6_item_62 rfl ?_
  refine E_ialN (l := [3, 3, 2, 2, 1, 0, 0]) (v := 1) at_X6_item_63 w83 (by omega) (by omega) rfl ?_
  refine E_ic (t := 166) (b := false) at_X6_item_64 rfl (by decide) ?_
  refine E_iload_n at_X6_item_67 rfl ?_
  refine E_if (t := 121) (b := true) at_X6_item_68 rfl (by decide) ?_
  refine E_aload_n at_X6_item_121 rfl ?_
  refine E_getfield (v := .int (nI (a + 1))) at_X6_item_122 w65 rfl (by decide) rfl ?_
  refine E_istore_n (L2 := [some (.ref 65), some (.int (nI 4)), some (.int (nI 0)), some (.int (nI (a + 1)))]) at_X6_item_125 rfl ?_
  refine E_aload_n at_X6_item_126 rfl ?_
  refine E_callV (v := some (.int (nI 1))) (As := [.ref 65]) (r0 := []) (cs2 := (ww im lf s d k ls rf rz ra rn rq lt m1 m2 m3 m4 bd fc hd sz el q (fUp (fUp (fUp (fUp (fUp (fUp g 27 (nI (160 * j))) 29 (nI n)) 6 (-1)) 28 (nI (cnE e n a))) 30 (nI (nuV e n (a + 1)))) 31 x31) fm hm so si sh ce ca td wa kp la bf oo bo pw ow tr)) at_X6_item_127 rfl rfl (Nat.le_of_ble_eq_true rfl) rfl (ab_rvOf w65 rfl) (m_rd1 hj hn (by omega) l_ce hce hdg) (by decide) w_lens ?_
  refine E_if (t := 135) (b := true) at_X6_item_130 rfl (by decide) ?_
  refine E_aload_n at_X6_item_135 rfl ?_
  refine E_iload_n at_X6_item_136 rfl ?_
  refine E_iload_n at_X6_item_137 rfl ?_
  have e1 : Ev ab_Z0 1 161 [.ref 65, .int (nI 4), .int (nI 0)] (ww im lf s d k ls rf rz ra rn rq lt m1 m2 m3 m4 bd fc hd sz el q (fUp (fUp (fUp (fUp (fUp (fUp g 27 (nI (160 * j))) 29 (nI n)) 6 (-1)) 28 (nI (cnE e n a))) 30 (nI (nuV e n (a + 1)))) 31 x31) fm hm so si sh ce ca td wa kp la bf oo bo pw ow tr) (some (.int (nI 0)), (ww im lf s d k ls rf rz ra rn rq lt m1 m2 m3 m4 bd fc hd sz el q (fUp (fUp (fUp (fUp (fUp (fUp g 27 (nI (160 * j))) 29 (nI n)) 6 (-1)) 28 (nI (cnE e n a))) 30 (nI (nuV e n (a + 1)))) 31 x31) fm hm so si sh ce ca td wa kp la bf oo bo pw ow tr)) := by
    refine Ef.in (md := mX6_isSo) (L := [some (.ref 65), some (.int (nI 4)), some (.int (nI 0))]) rfl (Nat.le_of_ble_eq_true rfl) rfl ?_
    refine E_iload_n at_X6_isSo_0 rfl ?_
    refine E_iconst (x := nI 3) at_X6_isSo_1 (by decide) ?_
    refine E_ic (t := 48) (b := true) at_X6_isSo_2 rfl (by decide) ?_
    refine E_iload_n at_X6_isSo_48 rfl ?_
    refine E_iconst (x := nI 3) at_X6_isSo_49 (by decide) ?_
    refine E_ic (t := 75) (b := true) at_X6_isSo_50 rfl (by decide) ?_
    refine E_aload_n at_X6_isSo_75 rfl ?_
    refine E_getfield (v := .int (nI (nuV e n (a + 1)))) at_X6_isSo_76 w65 rfl (by decide) rfl ?_
    refine E_aload_n at_X6_isSo_79 rfl ?_
    refine E_getfield (v := .int (nI (qN q))) at_X6_isSo_80 w65 rfl (by decide) rfl ?_
    refine E_ic (t := 122) (b := false) at_X6_isSo_83 rfl ((cn_ge (nI_toInt (by omega)) (nI_toInt (by omega))).trans (decide_eq_false (by omega))) ?_
    refine E_aload_n at_X6_isSo_86 rfl ?_
    refine E_getfield (v := .ref 70) at_X6_isSo_87 w65 rfl (by decide) rfl ?_
    refine E_aload_n at_X6_isSo_90 rfl ?_
    refine E_getfield (v := .int (nI (nuV e n (a + 1)))) at_X6_isSo_91 w65 rfl (by decide) rfl ?_
    refine E_ialN (l := qP q) (v := (qP q).getD (nuV e n (a + 1)) 0) at_X6_isSo_94 w70 (by omega) (by omega) rfl ?_
    refine E_bipush (x := nI 99) at_X6_isSo_95 (by decide) ?_
    refine E_ic (t := 104) (b := false) at_X6_isSo_97 rfl ((cn_ne (nI_toInt (by omega)) (nI_toInt (by omega))).trans (decide_eq_false (by omega))) ?_
    refine E_iconst (x := nI 1) rfl (by decide) ?_
    refine E_goto (t := 105) rfl rfl ?_
    refine E_iload_n at_X6_isSo_105 rfl ?_
    refine E_iconst (x := nI 3) at_X6_isSo_106 (by decide) ?_
    refine E_ic (t := 114) (b := true) at_X6_isSo_107 rfl (by decide) ?_
    refine E_iconst (x := nI 0) rfl (by decide) ?_
    refine E_ic (t := 122) (b := true) at_X6_isSo_115 rfl (by decide) ?_
    refine E_iconst (x := nI 0) at_X6_isSo_122 (by decide) ?_
    exact E_iret at_X6_isSo_123 rfl
  refine E_callV (v := some (.int (nI 0))) (As := [.ref 65, .int (nI 4), .int (nI 0)]) (r0 := []) (cs2 := (ww im lf s d k ls rf rz ra rn rq lt m1 m2 m3 m4 bd fc hd sz el q (fUp (fUp (fUp (fUp (fUp (fUp g 27 (nI (160 * j))) 29 (nI n)) 6 (-1)) 28 (nI (cnE e n a))) 30 (nI (nuV e n (a + 1)))) 31 x31) fm hm so si sh ce ca td wa kp la bf oo bo pw ow tr)) at_X6_item_138 rfl rfl (Nat.le_of_ble_eq_true rfl) rfl (ab_rvOf w65 rfl) e1 (by decide) rfl ?_
  refine E_if (t := 150) (b := false) at_X6_item_141 rfl (by decide) ?_
  refine E_aload_n at_X6_item_144 rfl ?_
  refine E_iload_n at_X6_item_145 rfl ?_
  have e2 : Ev ab_Z0 1 156 [.ref 65, .int (nI (a + 1))] (ww im lf s d k ls rf rz ra rn rq lt m1 m2 m3 m4 bd fc hd sz el q (fUp (fUp (fUp (fUp (fUp (fUp g 27 (nI (160 * j))) 29 (nI n)) 6 (-1)) 28 (nI (cnE e n a))) 30 (nI (nuV e n (a + 1)))) 31 x31) fm hm so si sh ce ca td wa kp la bf oo bo pw ow tr) (some (.int (nI 0)), (ww im lf s d k ls rf rz ra rn rq lt m1 m2 m3 m4 bd fc hd sz el q (fUp (fUp (fUp (fUp (fUp (fUp g 27 (nI (160 * j))) 29 (nI n)) 6 (-1)) 28 (nI (cnE e n a))) 30 (nI (nuV e n (a + 1)))) 31 (nI (a + 1))) fm hm so si sh ce ca td wa kp la bf oo bo pw ow tr)) := by
    refine Ef.in (md := mX6_wrong) (L := [some (.ref 65), some (.int (nI (a + 1)))]) rfl (Nat.le_of_ble_eq_true rfl) rfl ?_
    refine E_aload_n at_X6_wrong_0 rfl ?_
    refine E_iload_n at_X6_wrong_1 rfl ?_
    refine E_putfield (cs2 := (ww im lf s d k ls rf rz ra rn rq lt m1 m2 m3 m4 bd fc hd sz el q (fUp (fUp (fUp (fUp (fUp (fUp g 27 (nI (160 * j))) 29 (nI n)) 6 (-1)) 28 (nI (cnE e n a))) 30 (nI (nuV e n (a + 1)))) 31 (nI (a + 1))) fm hm so si sh ce ca td wa kp la bf oo bo pw ow tr)) at_X6_wrong_2 w65 rfl (by decide) (Nat.le_of_ble_eq_true rfl) rfl rfl rfl (w_pt65_31.trans (by rw [gn31])) ?_
    refine E_iconst (x := nI 0) at_X6_wrong_5 (by decide) ?_
    exact E_iret at_X6_wrong_6 rfl
  refine E_callV (v := some (.int (nI 0))) (As := [.ref 65, .int (nI (a + 1))]) (r0 := []) (cs2 := (ww im lf s d k ls rf rz ra rn rq lt m1 m2 m3 m4 bd fc hd sz el q (fUp (fUp (fUp (fUp (fUp (fUp g 27 (nI (160 * j))) 29 (nI n)) 6 (-1)) 28 (nI (cnE e n a))) 30 (nI (nuV e n (a + 1)))) 31 (nI (a + 1))) fm hm so si sh ce ca td wa kp la bf oo bo pw ow tr)) at_X6_item_146 rfl rfl (Nat.le_of_ble_eq_true rfl) rfl (ab_rvOf w65 rfl) e2 (by decide) w_lens ?_
  exact E_iret at_X6_item_149 rfl
set_option maxHeartbeats 4000000 in
theorem m_item {e : List Int64} {n a j : Nat} {x30 x31 : Int32} {q : ab_q} (hj : j < 8) (hn : n ≤ 160) (ha : a ≤ n) (l_ce : ce.length = 1280) (hce : ∀ p, p < 160 → e.getD p 0 = ce.getD (160 * j + p) 0) (Iq : qI q) (l_td : td.length = 3) : ∃ (t2 : ab_q) (y28 y30 y31 : Int32) (td2 : List Int32) (r : Int32), Ev ab_Z0 3 162 [.ref 65] (ww im lf s d k ls rf rz ra rn rq lt m1 m2 m3 m4 bd fc hd sz el q (fUp (fUp (fUp (fUp (fUp (fUp g 27 (nI (160 * j))) 29 (nI n)) 6 (-1)) 28 (nI a)) 30 x30) 31 x31) fm hm so si sh ce ca td wa kp la bf oo bo pw ow tr) (some (.int r), (ww im lf s d k ls rf rz ra rn rq lt m1 m2 m3 m4 bd fc hd sz el t2 (fUp (fUp (fUp (fUp (fUp (fUp g 27 (nI (160 * j))) 29 (nI n)) 6 (-1)) 28 y28) 30 y30) 31 y31) fm hm so si sh ce ca td2 wa kp la bf oo bo pw ow tr)) ∧ td2.length = 3 ∧ ((itF e n q a = 0 ∧ t2 = itQ e n q a ∧ y28 = nI (itA e n a) ∧ r = nI 1 ∧ itA e n a ≤ n ∧ a < itA e n a ∧ qI t2) ∨ ∃ f, itF e n q a = f + 1 ∧ y31 = nI f ∧ t2 = q ∧ r = nI 0) := by
  have hwc := wd_c e n a
  obtain ⟨⟨i0, i1, i2, i3⟩, ⟨i4, i5, i6, i7, i8⟩, ⟨i9, i10⟩, I1_, I2_, I3_, I4_⟩ := id Iq
  rcases wd_c e n a with ⟨hw, hw_0⟩ | ⟨hw, hw_0, hw_1⟩ | ⟨hw, hw_0, hw_1, hw_2⟩ | ⟨hw, hw_0, hw_1, hw_2, hw_3⟩ | ⟨hw, hw_0, hw_1, hw_2, hw_3, hw_4⟩ | ⟨hw, hw_0, hw_1, hw_2, hw_3, hw_4, hw_5⟩ | ⟨hw, hw_0, hw_1, hw_2, hw_3, hw_4, hw_5, hw_6⟩ | ⟨hw, hw_0, hw_1, hw_2, hw_3, hw_4, hw_5, hw_6⟩
  · by_cases f1 : (qN q) = 9
    · have hI : itF e n q a = a + 1 := (it_0 (q := q) hw).1.trans (by rw [if_pos (by omega)])
      refine ⟨q, nI a, x30, nI a, td, nI 0, ?_, l_td, Or.inr ⟨a, by omega, rfl, rfl, rfl⟩⟩
      refine Ef.in (md := mX6_item) (L := [some (.ref 65), none, none, none]) rfl (Nat.le_of_ble_eq_true rfl) rfl ?_
      refine E_aload_n at_X6_item_0 rfl ?_
      refine E_iconst (x := nI 0) at_X6_item_1 (by decide) ?_
      refine E_callV (v := some (.int (nI 1))) (As := [.ref 65, .int (nI 0)]) (r0 := []) (cs2 := (ww im lf s d k ls rf rz ra rn rq lt m1 m2 m3 m4 bd fc hd sz el q (fUp (fUp (fUp (fUp (fUp (fUp g 27 (nI (160 * j))) 29 (nI n)) 6 (-1)) 28 (nI a)) 30 x30) 31 x31) fm hm so si sh ce ca td wa kp la bf oo bo pw ow tr)) at_X6_item_2 rfl rfl (Nat.le_of_ble_eq_true rfl) rfl (ab_rvOf w65 rfl) (Ev.vi (congrArg nI (if_pos (by omega))) (m_sd0 hj hn ha l_ce hce)) (by decide) rfl ?_
      refine E_if (t := 17) (b := false) at_X6_item_5 rfl (by decide) ?_
      refine E_aload_n at_X6_item_8 rfl ?_
      refine E_getfield (v := .int (nI (qN q))) at_X6_item_9 w65 rfl (by decide) rfl ?_
      refine E_bipush (x := nI 9) at_X6_item_12 (by decide) ?_
      refine E_ic (t := 34) (b := true) at_X6_item_14 rfl ((cn_eq (nI_toInt (by omega)) (nI_toInt (by omega))).trans (decide_eq_true (by omega))) ?_
      refine E_aload_n rfl rfl ?_
      refine E_aload_n rfl rfl ?_
      refine E_getfield (v := .int (nI a)) rfl w65 rfl (by decide) rfl ?_
      have e1 : Ev ab_Z0 1 156 [.ref 65, .int (nI a)] (ww im lf s d k ls rf rz ra rn rq lt m1 m2 m3 m4 bd fc hd sz el q (fUp (fUp (fUp (fUp (fUp (fUp g 27 (nI (160 * j))) 29 (nI n)) 6 (-1)) 28 (nI a)) 30 x30) 31 x31) fm hm so si sh ce ca td wa kp la bf oo bo pw ow tr) (some (.int (nI 0)), (ww im lf s d k ls rf rz ra rn rq lt m1 m2 m3 m4 bd fc hd sz el q (fUp (fUp (fUp (fUp (fUp (fUp g 27 (nI (160 * j))) 29 (nI n)) 6 (-1)) 28 (nI a)) 30 x30) 31 (nI a)) fm hm so si sh ce ca td wa kp la bf oo bo pw ow tr)) := by
        refine Ef.in (md := mX6_wrong) (L := [some (.ref 65), some (.int (nI a))]) rfl (Nat.le_of_ble_eq_true rfl) rfl ?_
        refine E_aload_n at_X6_wrong_0 rfl ?_
        refine E_iload_n at_X6_wrong_1 rfl ?_
        refine E_putfield (cs2 := (ww im lf s d k ls rf rz ra rn rq lt m1 m2 m3 m4 bd fc hd sz el q (fUp (fUp (fUp (fUp (fUp (fUp g 27 (nI (160 * j))) 29 (nI n)) 6 (-1)) 28 (nI a)) 30 x30) 31 (nI a)) fm hm so si sh ce ca td wa kp la bf oo bo pw ow tr)) at_X6_wrong_2 w65 rfl (by decide) (Nat.le_of_ble_eq_true rfl) rfl rfl rfl (w_pt65_31.trans (by rw [gn31])) ?_
        refine E_iconst (x := nI 0) at_X6_wrong_5 (by decide) ?_
        exact E_iret at_X6_wrong_6 rfl
      refine E_callV (v := some (.int (nI 0))) (As := [.ref 65, .int (nI a)]) (r0 := []) (cs2 := (ww im lf s d k ls rf rz ra rn rq lt m1 m2 m3 m4 bd fc hd sz el q (fUp (fUp (fUp (fUp (fUp (fUp g 27 (nI (160 * j))) 29 (nI n)) 6 (-1)) 28 (nI a)) 30 x30) 31 (nI a)) fm hm so si sh ce ca td wa kp la bf oo bo pw ow tr)) rfl rfl rfl (Nat.le_of_ble_eq_true rfl) rfl (ab_rvOf w65 rfl) e1 (by decide) w_lens ?_
      exact E_iret rfl rfl
    · rcases bo2 (chB e n (a + 5) 32) with hb0 | hb0
      · have hx01 := ex_0_1 (e := e) (n := n) (a := a) (by omega)
        have hz := mtc_n (e := e) (n := n) [112, 105, 101, 99, 101] a ha
        have hz_ : a + mj0 e n a ≤ n := hz
        have hF0 : nuF e n (a + 5) 0 7 = a + 5 + 1 := nuF_A hb0
        have hI : itF e n q a = a + 6 := (it_0 (q := q) hw).1.trans (by rw [if_neg (by omega)]; unfold s3F; rw [if_neg (by omega)]; exact hF0)
        refine ⟨q, nI a, x30, nI (a + 5), td, nI 0, ?_, l_td, Or.inr ⟨a + 5, by omega, rfl, rfl, rfl⟩⟩
        refine Ef.in (md := mX6_item) (L := [some (.ref 65), none, none, none]) rfl (Nat.le_of_ble_eq_true rfl) rfl ?_
        refine E_aload_n at_X6_item_0 rfl ?_
        refine E_iconst (x := nI 0) at_X6_item_1 (by decide) ?_
        refine E_callV (v := some (.int (nI 1))) (As := [.ref 65, .int (nI 0)]) (r0 := []) (cs2 := (ww im lf s d k ls rf rz ra rn rq lt m1 m2 m3 m4 bd fc hd sz el q (fUp (fUp (fUp (fUp (fUp (fUp g 27 (nI (160 * j))) 29 (nI n)) 6 (-1)) 28 (nI a)) 30 x30) 31 x31) fm hm so si sh ce ca td wa kp la bf oo bo pw ow tr)) at_X6_item_2 rfl rfl (Nat.le_of_ble_eq_true rfl) rfl (ab_rvOf w65 rfl) (Ev.vi (congrArg nI (if_pos (by omega))) (m_sd0 hj hn ha l_ce hce)) (by decide) rfl ?_
        refine E_if (t := 17) (b := false) at_X6_item_5 rfl (by decide) ?_
        refine E_aload_n at_X6_item_8 rfl ?_
        refine E_getfield (v := .int (nI (qN q))) at_X6_item_9 w65 rfl (by decide) rfl ?_
        refine E_bipush (x := nI 9) at_X6_item_12 (by decide) ?_
        refine E_ic (t := 34) (b := false) at_X6_item_14 rfl ((cn_eq (nI_toInt (by omega)) (nI_toInt (by omega))).trans (decide_eq_false (by omega))) ?_
        refine E_aload_n at_X6_item_17 rfl ?_
        refine E_iconst (x := nI 1) at_X6_item_18 (by decide) ?_
        refine E_callV (v := some (.int (nI 0))) (As := [.ref 65, .int (nI 1)]) (r0 := []) (cs2 := (ww im lf s d k ls rf rz ra rn rq lt m1 m2 m3 m4 bd fc hd sz el q (fUp (fUp (fUp (fUp (fUp (fUp g 27 (nI (160 * j))) 29 (nI n)) 6 (-1)) 28 (nI a)) 30 x30) 31 x31) fm hm so si sh ce ca td wa kp la bf oo bo pw ow tr)) at_X6_item_19 rfl rfl (Nat.le_of_ble_eq_true rfl) rfl (ab_rvOf w65 rfl) (Ev.vi (congrArg nI (if_neg (by omega))) (m_sd1 hj hn ha l_ce hce)) (by decide) rfl ?_
        refine E_if (t := 43) (b := true) at_X6_item_22 rfl (by decide) ?_
        refine E_aload_n at_X6_item_43 rfl ?_
        refine E_callV (v := some (.int (-1))) (As := [.ref 65]) (r0 := []) (cs2 := (ww im lf s d k ls rf rz ra rn rq lt m1 m2 m3 m4 bd fc hd sz el q (fUp (fUp (fUp (fUp (fUp (fUp g 27 (nI (160 * j))) 29 (nI n)) 6 (-1)) 28 (nI a)) 30 x30) 31 (nI (a + 5))) fm hm so si sh ce ca td wa kp la bf oo bo pw ow tr)) at_X6_item_44 rfl rfl (Nat.le_of_ble_eq_true rfl) rfl (ab_rvOf w65 rfl) (m_wd0n hj hn ha l_ce hce hw hb0) (by decide) w_lens ?_
        refine E_istore_n (L2 := [some (.ref 65), some (.int (-1)), none, none]) at_X6_item_47 rfl ?_
        refine E_iload_n at_X6_item_48 rfl ?_
        refine E_iconst (x := (-1)) at_X6_item_49 (by decide) ?_
        refine E_ic (t := 55) (b := false) at_X6_item_50 rfl (by decide) ?_
        refine E_iconst (x := nI 0) at_X6_item_53 (by decide) ?_
        exact E_iret at_X6_item_54 rfl
      · rcases bo2 (dgB e n (a + 6)) with hd0 | hd0
        · have hx01 := ex_0_1 (e := e) (n := n) (a := a) (by omega)
          have hz := mtc_n (e := e) (n := n) [112, 105, 101, 99, 101] a ha
          have hz_ : a + mj0 e n a ≤ n := hz
          have hb0_ := (chB_t hb0).1
          have hF0 : nuF e n (a + 5) 0 7 = a + 5 + 2 := nuF_B hb0 hd0
          have hI : itF e n q a = a + 7 := (it_0 (q := q) hw).1.trans (by rw [if_neg (by omega)]; unfold s3F; rw [if_neg (by omega)]; exact hF0)
          refine ⟨q, nI (a + 6), nI 0, nI (a + 6), td, nI 0, ?_, l_td, Or.inr ⟨a + 6, by omega, rfl, rfl, rfl⟩⟩
          refine Ef.in (md := mX6_item) (L := [some (.ref 65), none, none, none]) rfl (Nat.le_of_ble_eq_true rfl) rfl ?_
          refine E_aload_n at_X6_item_0 rfl ?_
          refine E_iconst (x := nI 0) at_X6_item_1 (by decide) ?_
          refine E_callV (v := some (.int (nI 1))) (As := [.ref 65, .int (nI 0)]) (r0 := []) (cs2 := (ww im lf s d k ls rf rz ra rn rq lt m1 m2 m3 m4 bd fc hd sz el q (fUp (fUp (fUp (fUp (fUp (fUp g 27 (nI (160 * j))) 29 (nI n)) 6 (-1)) 28 (nI a)) 30 x30) 31 x31) fm hm so si sh ce ca td wa kp la bf oo bo pw ow tr)) at_X6_item_2 rfl rfl (Nat.le_of_ble_eq_true rfl) rfl (ab_rvOf w65 rfl) (Ev.vi (congrArg nI (if_pos (by omega))) (m_sd0 hj hn ha l_ce hce)) (by decide) rfl ?_
          refine E_if (t := 17) (b := false) at_X6_item_5 rfl (by decide) ?_
          refine E_aload_n at_X6_item_8 rfl ?_
          refine E_getfield (v := .int (nI (qN q))) at_X6_item_9 w65 rfl (by decide) rfl ?_
          refine E_bipush (x := nI 9) at_X6_item_12 (by decide) ?_
          refine E_ic (t := 34) (b := false) at_X6_item_14 rfl ((cn_eq (nI_toInt (by omega)) (nI_toInt (by omega))).trans (decide_eq_false (by omega))) ?_
          refine E_aload_n at_X6_item_17 rfl ?_
          refine E_iconst (x := nI 1) at_X6_item_18 (by decide) ?_
          refine E_callV (v := some (.int (nI 0))) (As := [.ref 65, .int (nI 1)]) (r0 := []) (cs2 := (ww im lf s d k ls rf rz ra rn rq lt m1 m2 m3 m4 bd fc hd sz el q (fUp (fUp (fUp (fUp (fUp (fUp g 27 (nI (160 * j))) 29 (nI n)) 6 (-1)) 28 (nI a)) 30 x30) 31 x31) fm hm so si sh ce ca td wa kp la bf oo bo pw ow tr)) at_X6_item_19 rfl rfl (Nat.le_of_ble_eq_true rfl) rfl (ab_rvOf w65 rfl) (Ev.vi (congrArg nI (if_neg (by omega))) (m_sd1 hj hn ha l_ce hce)) (by decide) rfl ?_
          refine E_if (t := 43) (b := true) at_X6_item_22 rfl (by decide) ?_
          refine E_aload_n at_X6_item_43 rfl ?_
          refine E_callV (v := some (.int (nI 0))) (As := [.ref 65]) (r0 := []) (cs2 := (ww im lf s d k ls rf rz ra rn rq lt m1 m2 m3 m4 bd fc hd sz el q (fUp (fUp (fUp (fUp (fUp (fUp g 27 (nI (160 * j))) 29 (nI n)) 6 (-1)) 28 (nI (a + 6))) 30 x30) 31 x31) fm hm so si sh ce ca td wa kp la bf oo bo pw ow tr)) at_X6_item_44 rfl rfl (Nat.le_of_ble_eq_true rfl) rfl (ab_rvOf w65 rfl) (m_wd0b hj hn ha l_ce hce hw hb0) (by decide) w_lens ?_
          refine E_istore_n (L2 := [some (.ref 65), some (.int (nI 0)), none, none]) at_X6_item_47 rfl ?_
          refine E_iload_n at_X6_item_48 rfl ?_
          refine E_iconst (x := (-1)) at_X6_item_49 (by decide) ?_
          refine E_ic (t := 55) (b := true) at_X6_item_50 rfl (by decide) ?_
          refine E_iconst (x := nI 0) at_X6_item_55 (by decide) ?_
          refine E_istore_n (L2 := [some (.ref 65), some (.int (nI 0)), some (.int (nI 0)), none]) at_X6_item_56 rfl ?_
          exact mb00 hj hn (a := a + 5) (by omega) Iq l_td l_ce hce hb0 hd0
        · rcases Nat.lt_or_ge (nuV e n (a + 6)) (7) with hr0 | hr0
          · rcases bo2 (chB e n (cnE e n (a + 5)) 32) with hb1 | hb1
            · have hx01 := ex_0_1 (e := e) (n := n) (a := a) (by omega)
              have hz := mtc_n (e := e) (n := n) [112, 105, 101, 99, 101] a ha
              have hz_ : a + mj0 e n a ≤ n := hz
              have hb0_ := (chB_t hb0).1
              have hd0_ := (dgB_t hd0).1
              have hV0 := nuV_99 hd0
              have hc0 := cnE_n hd0
              have hF0 : nuF e n (a + 5) 0 7 = 0 := nuF_C hb0 hd0 (show ¬ (nuV e n (a + 6) < 0 ∨ 7 ≤ nuV e n (a + 6)) from by omega)
              have hF1 : nuF e n (cnE e n (a + 5)) 0 10 = cnE e n (a + 5) + 1 := nuF_A hb1
              have hI : itF e n q a = cnE e n (a + 5) + 1 := (it_0 (q := q) hw).1.trans (by rw [if_neg (by omega)]; unfold s3F; rw [if_pos hF0]; unfold s2F; rw [if_neg (by omega)]; exact hF1)
              refine ⟨q, nI (cnE e n (a + 5)), nI (nuV e n (a + 6)), nI (cnE e n (a + 5)), (td.set 0 (nI (nuV e n (a + 6)))), nI 0, ?_, (by simp only [List.length_set]; exact l_td), Or.inr ⟨cnE e n (a + 5), by omega, rfl, rfl, rfl⟩⟩
              refine Ef.in (md := mX6_item) (L := [some (.ref 65), none, none, none]) rfl (Nat.le_of_ble_eq_true rfl) rfl ?_
              refine E_aload_n at_X6_item_0 rfl ?_
              refine E_iconst (x := nI 0) at_X6_item_1 (by decide) ?_
              refine E_callV (v := some (.int (nI 1))) (As := [.ref 65, .int (nI 0)]) (r0 := []) (cs2 := (ww im lf s d k ls rf rz ra rn rq lt m1 m2 m3 m4 bd fc hd sz el q (fUp (fUp (fUp (fUp (fUp (fUp g 27 (nI (160 * j))) 29 (nI n)) 6 (-1)) 28 (nI a)) 30 x30) 31 x31) fm hm so si sh ce ca td wa kp la bf oo bo pw ow tr)) at_X6_item_2 rfl rfl (Nat.le_of_ble_eq_true rfl) rfl (ab_rvOf w65 rfl) (Ev.vi (congrArg nI (if_pos (by omega))) (m_sd0 hj hn ha l_ce hce)) (by decide) rfl ?_
              refine E_if (t := 17) (b := false) at_X6_item_5 rfl (by decide) ?_
              refine E_aload_n at_X6_item_8 rfl ?_
              refine E_getfield (v := .int (nI (qN q))) at_X6_item_9 w65 rfl (by decide) rfl ?_
              refine E_bipush (x := nI 9) at_X6_item_12 (by decide) ?_
              refine E_ic (t := 34) (b := false) at_X6_item_14 rfl ((cn_eq (nI_toInt (by omega)) (nI_toInt (by omega))).trans (decide_eq_false (by omega))) ?_
              refine E_aload_n at_X6_item_17 rfl ?_
              refine E_iconst (x := nI 1) at_X6_item_18 (by decide) ?_
              refine E_callV (v := some (.int (nI 0))) (As := [.ref 65, .int (nI 1)]) (r0 := []) (cs2 := (ww im lf s d k ls rf rz ra rn rq lt m1 m2 m3 m4 bd fc hd sz el q (fUp (fUp (fUp (fUp (fUp (fUp g 27 (nI (160 * j))) 29 (nI n)) 6 (-1)) 28 (nI a)) 30 x30) 31 x31) fm hm so si sh ce ca td wa kp la bf oo bo pw ow tr)) at_X6_item_19 rfl rfl (Nat.le_of_ble_eq_true rfl) rfl (ab_rvOf w65 rfl) (Ev.vi (congrArg nI (if_neg (by omega))) (m_sd1 hj hn ha l_ce hce)) (by decide) rfl ?_
              refine E_if (t := 43) (b := true) at_X6_item_22 rfl (by decide) ?_
              refine E_aload_n at_X6_item_43 rfl ?_
              refine E_callV (v := some (.int (nI 0))) (As := [.ref 65]) (r0 := []) (cs2 := (ww im lf s d k ls rf rz ra rn rq lt m1 m2 m3 m4 bd fc hd sz el q (fUp (fUp (fUp (fUp (fUp (fUp g 27 (nI (160 * j))) 29 (nI n)) 6 (-1)) 28 (nI (a + 6))) 30 x30) 31 x31) fm hm so si sh ce ca td wa kp la bf oo bo pw ow tr)) at_X6_item_44 rfl rfl (Nat.le_of_ble_eq_true rfl) rfl (ab_rvOf w65 rfl) (m_wd0b hj hn ha l_ce hce hw hb0) (by decide) w_lens ?_
              refine E_istore_n (L2 := [some (.ref 65), some (.int (nI 0)), none, none]) at_X6_item_47 rfl ?_
              refine E_iload_n at_X6_item_48 rfl ?_
              refine E_iconst (x := (-1)) at_X6_item_49 (by decide) ?_
              refine E_ic (t := 55) (b := true) at_X6_item_50 rfl (by decide) ?_
              refine E_iconst (x := nI 0) at_X6_item_55 (by decide) ?_
              refine E_istore_n (L2 := [some (.ref 65), some (.int (nI 0)), some (.int (nI 0)), none]) at_X6_item_56 rfl ?_
              refine mc00 hj hn (a := a + 5) (by omega) Iq l_td l_ce hce hb0 hd0 (show 0 ≤ nuV e n (a + 6) from by omega) (show nuV e n (a + 6) < 7 from by omega) ?_
              exact ma01 hj hn (a := cnE e n (a + 5)) (by omega) Iq (by simp only [List.length_set]; exact l_td) l_ce hce hb1
            · rcases bo2 (dgB e n (cnE e n (a + 5) + 1)) with hd1 | hd1
              · have hx01 := ex_0_1 (e := e) (n := n) (a := a) (by omega)
                have hz := mtc_n (e := e) (n := n) [112, 105, 101, 99, 101] a ha
                have hz_ : a + mj0 e n a ≤ n := hz
                have hb0_ := (chB_t hb0).1
                have hd0_ := (dgB_t hd0).1
                have hV0 := nuV_99 hd0
                have hc0 := cnE_n hd0
                have hb1_ := (chB_t hb1).1
                have hF0 : nuF e n (a + 5) 0 7 = 0 := nuF_C hb0 hd0 (show ¬ (nuV e n (a + 6) < 0 ∨ 7 ≤ nuV e n (a + 6)) from by omega)
                have hF1 : nuF e n (cnE e n (a + 5)) 0 10 = cnE e n (a + 5) + 2 := nuF_B hb1 hd1
                have hI : itF e n q a = cnE e n (a + 5) + 2 := (it_0 (q := q) hw).1.trans (by rw [if_neg (by omega)]; unfold s3F; rw [if_pos hF0]; unfold s2F; rw [if_neg (by omega)]; exact hF1)
                refine ⟨q, nI (cnE e n (a + 5) + 1), nI 0, nI (cnE e n (a + 5) + 1), (td.set 0 (nI (nuV e n (a + 6)))), nI 0, ?_, (by simp only [List.length_set]; exact l_td), Or.inr ⟨cnE e n (a + 5) + 1, by omega, rfl, rfl, rfl⟩⟩
                refine Ef.in (md := mX6_item) (L := [some (.ref 65), none, none, none]) rfl (Nat.le_of_ble_eq_true rfl) rfl ?_
                refine E_aload_n at_X6_item_0 rfl ?_
                refine E_iconst (x := nI 0) at_X6_item_1 (by decide) ?_
                refine E_callV (v := some (.int (nI 1))) (As := [.ref 65, .int (nI 0)]) (r0 := []) (cs2 := (ww im lf s d k ls rf rz ra rn rq lt m1 m2 m3 m4 bd fc hd sz el q (fUp (fUp (fUp (fUp (fUp (fUp g 27 (nI (160 * j))) 29 (nI n)) 6 (-1)) 28 (nI a)) 30 x30) 31 x31) fm hm so si sh ce ca td wa kp la bf oo bo pw ow tr)) at_X6_item_2 rfl rfl (Nat.le_of_ble_eq_true rfl) rfl (ab_rvOf w65 rfl) (Ev.vi (congrArg nI (if_pos (by omega))) (m_sd0 hj hn ha l_ce hce)) (by decide) rfl ?_
                refine E_if (t := 17) (b := false) at_X6_item_5 rfl (by decide) ?_
                refine E_aload_n at_X6_item_8 rfl ?_
                refine E_getfield (v := .int (nI (qN q))) at_X6_item_9 w65 rfl (by decide) rfl ?_
                refine E_bipush (x := nI 9) at_X6_item_12 (by decide) ?_
                refine E_ic (t := 34) (b := false) at_X6_item_14 rfl ((cn_eq (nI_toInt (by omega)) (nI_toInt (by omega))).trans (decide_eq_false (by omega))) ?_
                refine E_aload_n at_X6_item_17 rfl ?_
                refine E_iconst (x := nI 1) at_X6_item_18 (by decide) ?_
                refine E_callV (v := some (.int (nI 0))) (As := [.ref 65, .int (nI 1)]) (r0 := []) (cs2 := (ww im lf s d k ls rf rz ra rn rq lt m1 m2 m3 m4 bd fc hd sz el q (fUp (fUp (fUp (fUp (fUp (fUp g 27 (nI (160 * j))) 29 (nI n)) 6 (-1)) 28 (nI a)) 30 x30) 31 x31) fm hm so si sh ce ca td wa kp la bf oo bo pw ow tr)) at_X6_item_19 rfl rfl (Nat.le_of_ble_eq_true rfl) rfl (ab_rvOf w65 rfl) (Ev.vi (congrArg nI (if_neg (by omega))) (m_sd1 hj hn ha l_ce hce)) (by decide) rfl ?_
                refine E_if (t := 43) (b := true) at_X6_item_22 rfl (by decide) ?_
                refine E_aload_n at_X6_item_43 rfl ?_
                refine E_callV (v := some (.int (nI 0))) (As := [.ref 65]) (r0 := []) (cs2 := (ww im lf s d k ls rf rz ra rn rq lt m1 m2 m3 m4 bd fc hd sz el q (fUp (fUp (fUp (fUp (fUp (fUp g 27 (nI (160 * j))) 29 (nI n)) 6 (-1)) 28 (nI (a + 6))) 30 x30) 31 x31) fm hm so si sh ce ca td wa kp la bf oo bo pw ow tr)) at_X6_item_44 rfl rfl (Nat.le_of_ble_eq_true rfl) rfl (ab_rvOf w65 rfl) (m_wd0b hj hn ha l_ce hce hw hb0) (by decide) w_lens ?_
                refine E_istore_n (L2 := [some (.ref 65), some (.int (nI 0)), none, none]) at_X6_item_47 rfl ?_
                refine E_iload_n at_X6_item_48 rfl ?_
                refine E_iconst (x := (-1)) at_X6_item_49 (by decide) ?_
                refine E_ic (t := 55) (b := true) at_X6_item_50 rfl (by decide) ?_
                refine E_iconst (x := nI 0) at_X6_item_55 (by decide) ?_
                refine E_istore_n (L2 := [some (.ref 65), some (.int (nI 0)), some (.int (nI 0)), none]) at_X6_item_56 rfl ?_
                refine mc00 hj hn (a := a + 5) (by omega) Iq l_td l_ce hce hb0 hd0 (show 0 ≤ nuV e n (a + 6) from by omega) (show nuV e n (a + 6) < 7 from by omega) ?_
                exact mb01 hj hn (a := cnE e n (a + 5)) (by omega) Iq (by simp only [List.length_set]; exact l_td) l_ce hce hb1 hd1
              · rcases Nat.lt_or_ge (nuV e n (cnE e n (a + 5) + 1)) (10) with hr1 | hr1
                · rcases bo2 (chB e n (cnE e n (cnE e n (a + 5))) 32) with hb2 | hb2
                  · have hx01 := ex_0_1 (e := e) (n := n) (a := a) (by omega)
                    have hz := mtc_n (e := e) (n := n) [112, 105, 101, 99, 101] a ha
                    have hz_ : a + mj0 e n a ≤ n := hz
                    have hb0_ := (chB_t hb0).1
                    have hd0_ := (dgB_t hd0).1
                    have hV0 := nuV_99 hd0
                    have hc0 := cnE_n hd0
                    have hb1_ := (chB_t hb1).1
                    have hd1_ := (dgB_t hd1).1
                    have hV1 := nuV_99 hd1
                    have hc1 := cnE_n hd1
                    have hF0 : nuF e n (a + 5) 0 7 = 0 := nuF_C hb0 hd0 (show ¬ (nuV e n (a + 6) < 0 ∨ 7 ≤ nuV e n (a + 6)) from by omega)
                    have hF1 : nuF e n (cnE e n (a + 5)) 0 10 = 0 := nuF_C hb1 hd1 (show ¬ (nuV e n (cnE e n (a + 5) + 1) < 0 ∨ 10 ≤ nuV e n (cnE e n (a + 5) + 1)) from by omega)
                    have hF2 : nuF e n (cnE e n (cnE e n (a + 5))) 1 51 = cnE e n (cnE e n (a + 5)) + 1 := nuF_A hb2
                    have hI : itF e n q a = cnE e n (cnE e n (a + 5)) + 1 := (it_0 (q := q) hw).1.trans (by rw [if_neg (by omega)]; unfold s3F; rw [if_pos hF0]; unfold s2F; rw [if_pos hF1]; exact hF2)
                    refine ⟨q, nI (cnE e n (cnE e n (a + 5))), nI (nuV e n (cnE e n (a + 5) + 1)), nI (cnE e n (cnE e n (a + 5))), ((td.set 0 (nI (nuV e n (a + 6)))).set 1 (nI (nuV e n (cnE e n (a + 5) + 1)))), nI 0, ?_, (by simp only [List.length_set]; exact l_td), Or.inr ⟨cnE e n (cnE e n (a + 5)), by omega, rfl, rfl, rfl⟩⟩
                    refine Ef.in (md := mX6_item) (L := [some (.ref 65), none, none, none]) rfl (Nat.le_of_ble_eq_true rfl) rfl ?_
                    refine E_aload_n at_X6_item_0 rfl ?_
                    refine E_iconst (x := nI 0) at_X6_item_1 (by decide) ?_
                    refine E_callV (v := some (.int (nI 1))) (As := [.ref 65, .int (nI 0)]) (r0 := []) (cs2 := (ww im lf s d k ls rf rz ra rn rq lt m1 m2 m3 m4 bd fc hd sz el q (fUp (fUp (fUp (fUp (fUp (fUp g 27 (nI (160 * j))) 29 (nI n)) 6 (-1)) 28 (nI a)) 30 x30) 31 x31) fm hm so si sh ce ca td wa kp la bf oo bo pw ow tr)) at_X6_item_2 rfl rfl (Nat.le_of_ble_eq_true rfl) rfl (ab_rvOf w65 rfl) (Ev.vi (congrArg nI (if_pos (by omega))) (m_sd0 hj hn ha l_ce hce)) (by decide) rfl ?_
                    refine E_if (t := 17) (b := false) at_X6_item_5 rfl (by decide) ?_
                    refine E_aload_n at_X6_item_8 rfl ?_
                    refine E_getfield (v := .int (nI (qN q))) at_X6_item_9 w65 rfl (by decide) rfl ?_
                    refine E_bipush (x := nI 9) at_X6_item_12 (by decide) ?_
                    refine E_ic (t := 34) (b := false) at_X6_item_14 rfl ((cn_eq (nI_toInt (by omega)) (nI_toInt (by omega))).trans (decide_eq_false (by omega))) ?_
                    refine E_aload_n at_X6_item_17 rfl ?_
                    refine E_iconst (x := nI 1) at_X6_item_18 (by decide) ?_
                    refine E_callV (v := some (.int (nI 0))) (As := [.ref 65, .int (nI 1)]) (r0 := []) (cs2 := (ww im lf s d k ls rf rz ra rn rq lt m1 m2 m3 m4 bd fc hd sz el q (fUp (fUp (fUp (fUp (fUp (fUp g 27 (nI (160 * j))) 29 (nI n)) 6 (-1)) 28 (nI a)) 30 x30) 31 x31) fm hm so si sh ce ca td wa kp la bf oo bo pw ow tr)) at_X6_item_19 rfl rfl (Nat.le_of_ble_eq_true rfl) rfl (ab_rvOf w65 rfl) (Ev.vi (congrArg nI (if_neg (by omega))) (m_sd1 hj hn ha l_ce hce)) (by decide) rfl ?_
                    refine E_if (t := 43) (b := true) at_X6_item_22 rfl (by decide) ?_
                    refine E_aload_n at_X6_item_43 rfl ?_
                    refine E_callV (v := some (.int (nI 0))) (As := [.ref 65]) (r0 := []) (cs2 := (ww im lf s d k ls rf rz ra rn rq lt m1 m2 m3 m4 bd fc hd sz el q (fUp (fUp (fUp (fUp (fUp (fUp g 27 (nI (160 * j))) 29 (nI n)) 6 (-1)) 28 (nI (a + 6))) 30 x30) 31 x31) fm hm so si sh ce ca td wa kp la bf oo bo pw ow tr)) at_X6_item_44 rfl rfl (Nat.le_of_ble_eq_true rfl) rfl (ab_rvOf w65 rfl) (m_wd0b hj hn ha l_ce hce hw hb0) (by decide) w_lens ?_
                    refine E_istore_n (L2 := [some (.ref 65), some (.int (nI 0)), none, none]) at_X6_item_47 rfl ?_
                    refine E_iload_n at_X6_item_48 rfl ?_
                    refine E_iconst (x := (-1)) at_X6_item_49 (by decide) ?_
                    refine E_ic (t := 55) (b := true) at_X6_item_50 rfl (by decide) ?_
                    refine E_iconst (x := nI 0) at_X6_item_55 (by decide) ?_
                    refine E_istore_n (L2 := [some (.ref 65), some (.int (nI 0)), some (.int (nI 0)), none]) at_X6_item_56 rfl ?_
                    refine mc00 hj hn (a := a + 5) (by omega) Iq l_td l_ce hce hb0 hd0 (show 0 ≤ nuV e n (a + 6) from by omega) (show nuV e n (a + 6) < 7 from by omega) ?_
                    refine mc01 hj hn (a := cnE e n (a + 5)) (by omega) Iq (by simp only [List.length_set]; exact l_td) l_ce hce hb1 hd1 (show 0 ≤ nuV e n (cnE e n (a + 5) + 1) from by omega) (show nuV e n (cnE e n (a + 5) + 1) < 10 from by omega) ?_
                    exact ma02 hj hn (a := cnE e n (cnE e n (a + 5))) (by omega) Iq (by simp only [List.length_set]; exact l_td) l_ce hce hb2
                  · rcases bo2 (dgB e n (cnE e n (cnE e n (a + 5)) + 1)) with hd2 | hd2
                    · have hx01 := ex_0_1 (e := e) (n := n) (a := a) (by omega)
                      have hz := mtc_n (e := e) (n := n) [112, 105, 101, 99, 101] a ha
                      have hz_ : a + mj0 e n a ≤ n := hz
                      have hb0_ := (chB_t hb0).1
                      have hd0_ := (dgB_t hd0).1
                      have hV0 := nuV_99 hd0
                      have hc0 := cnE_n hd0
                      have hb1_ := (chB_t hb1).1
                      have hd1_ := (dgB_t hd1).1
                      have hV1 := nuV_99 hd1
                      have hc1 := cnE_n hd1
                      have hb2_ := (chB_t hb2).1
                      have hF0 : nuF e n (a + 5) 0 7 = 0 := nuF_C hb0 hd0 (show ¬ (nuV e n (a + 6) < 0 ∨ 7 ≤ nuV e n (a + 6)) from by omega)
                      have hF1 : nuF e n (cnE e n (a + 5)) 0 10 = 0 := nuF_C hb1 hd1 (show ¬ (nuV e n (cnE e n (a + 5) + 1) < 0 ∨ 10 ≤ nuV e n (cnE e n (a + 5) + 1)) from by omega)
                      have hF2 : nuF e n (cnE e n (cnE e n (a + 5))) 1 51 = cnE e n (cnE e n (a + 5)) + 2 := nuF_B hb2 hd2
                      have hI : itF e n q a = cnE e n (cnE e n (a + 5)) + 2 := (it_0 (q := q) hw).1.trans (by rw [if_neg (by omega)]; unfold s3F; rw [if_pos hF0]; unfold s2F; rw [if_pos hF1]; exact hF2)
                      refine ⟨q, nI (cnE e n (cnE e n (a + 5)) + 1), nI 0, nI (cnE e n (cnE e n (a + 5)) + 1), ((td.set 0 (nI (nuV e n (a + 6)))).set 1 (nI (nuV e n (cnE e n (a + 5) + 1)))), nI 0, ?_, (by simp only [List.length_set]; exact l_td), Or.inr ⟨cnE e n (cnE e n (a + 5)) + 1, by omega, rfl, rfl, rfl⟩⟩
                      refine Ef.in (md := mX6_item) (L := [some (.ref 65), none, none, none]) rfl (Nat.le_of_ble_eq_true rfl) rfl ?_
                      refine E_aload_n at_X6_item_0 rfl ?_
                      refine E_iconst (x := nI 0) at_X6_item_1 (by decide) ?_
                      refine E_callV (v := some (.int (nI 1))) (As := [.ref 65, .int (nI 0)]) (r0 := []) (cs2 := (ww im lf s d k ls rf rz ra rn rq lt m1 m2 m3 m4 bd fc hd sz el q (fUp (fUp (fUp (fUp (fUp (fUp g 27 (nI (160 * j))) 29 (nI n)) 6 (-1)) 28 (nI a)) 30 x30) 31 x31) fm hm so si sh ce ca td wa kp la bf oo bo pw ow tr)) at_X6_item_2 rfl rfl (Nat.le_of_ble_eq_true rfl) rfl (ab_rvOf w65 rfl) (Ev.vi (congrArg nI (if_pos (by omega))) (m_sd0 hj hn ha l_ce hce)) (by decide) rfl ?_
                      refine E_if (t := 17) (b := false) at_X6_item_5 rfl (by decide) ?_
                      refine E_aload_n at_X6_item_8 rfl ?_
                      refine E_getfield (v := .int (nI (qN q))) at_X6_item_9 w65 rfl (by decide) rfl ?_
                      refine E_bipush (x := nI 9) at_X6_item_12 (by decide) ?_
                      refine E_ic (t := 34) (b := false) at_X6_item_14 rfl ((cn_eq (nI_toInt (by omega)) (nI_toInt (by omega))).trans (decide_eq_false (by omega))) ?_
                      refine E_aload_n at_X6_item_17 rfl ?_
                      refine E_iconst (x := nI 1) at_X6_item_18 (by decide) ?_
                      refine E_callV (v := some (.int (nI 0))) (As := [.ref 65, .int (nI 1)]) (r0 := []) (cs2 := (ww im lf s d k ls rf rz ra rn rq lt m1 m2 m3 m4 bd fc hd sz el q (fUp (fUp (fUp (fUp (fUp (fUp g 27 (nI (160 * j))) 29 (nI n)) 6 (-1)) 28 (nI a)) 30 x30) 31 x31) fm hm so si sh ce ca td wa kp la bf oo bo pw ow tr)) at_X6_item_19 rfl rfl (Nat.le_of_ble_eq_true rfl) rfl (ab_rvOf w65 rfl) (Ev.vi (congrArg nI (if_neg (by omega))) (m_sd1 hj hn ha l_ce hce)) (by decide) rfl ?_
                      refine E_if (t := 43) (b := true) at_X6_item_22 rfl (by decide) ?_
                      refine E_aload_n at_X6_item_43 rfl ?_
                      refine E_callV (v := some (.int (nI 0))) (As := [.ref 65]) (r0 := []) (cs2 := (ww im lf s d k ls rf rz ra rn rq lt m1 m2 m3 m4 bd fc hd sz el q (fUp (fUp (fUp (fUp (fUp (fUp g 27 (nI (160 * j))) 29 (nI n)) 6 (-1)) 28 (nI (a + 6))) 30 x30) 31 x31) fm hm so si sh ce ca td wa kp la bf oo bo pw ow tr)) at_X6_item_44 rfl rfl (Nat.le_of_ble_eq_true rfl) rfl (ab_rvOf w65 rfl) (m_wd0b hj hn ha l_ce hce hw hb0) (by decide) w_lens ?_
                      refine E_istore_n (L2 := [some (.ref 65), some (.int (nI 0)), none, none]) at_X6_item_47 rfl ?_
                      refine E_iload_n at_X6_item_48 rfl ?_
                      refine E_iconst (x := (-1)) at_X6_item_49 (by decide) ?_
                      refine E_ic (t := 55) (b := true) at_X6_item_50 rfl (by decide) ?_
                      refine E_iconst (x := nI 0) at_X6_item_55 (by decide) ?_
                      refine E_istore_n (L2 := [some (.ref 65), some (.int (nI 0)), some (.int (nI 0)), none]) at_X6_item_56 rfl ?_
                      refine mc00 hj hn (a := a + 5) (by omega) Iq l_td l_ce hce hb0 hd0 (show 0 ≤ nuV e n (a + 6) from by omega) (show nuV e n (a + 6) < 7 from by omega) ?_
                      refine mc01 hj hn (a := cnE e n (a + 5)) (by omega) Iq (by simp only [List.length_set]; exact l_td) l_ce hce hb1 hd1 (show 0 ≤ nuV e n (cnE e n (a + 5) + 1) from by omega) (show nuV e n (cnE e n (a + 5) + 1) < 10 from by omega) ?_
                      exact mb02 hj hn (a := cnE e n (cnE e n (a + 5))) (by omega) Iq (by simp only [List.length_set]; exact l_td) l_ce hce hb2 hd2
                    · rcases Nat.lt_or_ge (nuV e n (cnE e n (cnE e n (a + 5)) + 1)) 1 with hr2 | hr2
                      · have hx01 := ex_0_1 (e := e) (n := n) (a := a) (by omega)
                        have hz := mtc_n (e := e) (n := n) [112, 105, 101, 99, 101] a ha
                        have hz_ : a + mj0 e n a ≤ n := hz
                        have hb0_ := (chB_t hb0).1
                        have hd0_ := (dgB_t hd0).1
                        have hV0 := nuV_99 hd0
                        have hc0 := cnE_n hd0
                        have hb1_ := (chB_t hb1).1
                        have hd1_ := (dgB_t hd1).1
                        have hV1 := nuV_99 hd1
                        have hc1 := cnE_n hd1
                        have hb2_ := (chB_t hb2).1
                        have hd2_ := (dgB_t hd2).1
                        have hV2 := nuV_99 hd2
                        have hF0 : nuF e n (a + 5) 0 7 = 0 := nuF_C hb0 hd0 (show ¬ (nuV e n (a + 6) < 0 ∨ 7 ≤ nuV e n (a + 6)) from by omega)
                        have hF1 : nuF e n (cnE e n (a + 5)) 0 10 = 0 := nuF_C hb1 hd1 (show ¬ (nuV e n (cnE e n (a + 5) + 1) < 0 ∨ 10 ≤ nuV e n (cnE e n (a + 5) + 1)) from by omega)
                        have hF2 : nuF e n (cnE e n (cnE e n (a + 5))) 1 51 = cnE e n (cnE e n (a + 5)) + 2 := nuF_D hb2 hd2 (show nuV e n (cnE e n (cnE e n (a + 5)) + 1) < 1 ∨ 51 ≤ nuV e n (cnE e n (cnE e n (a + 5)) + 1) from by omega)
                        have hI : itF e n q a = cnE e n (cnE e n (a + 5)) + 2 := (it_0 (q := q) hw).1.trans (by rw [if_neg (by omega)]; unfold s3F; rw [if_pos hF0]; unfold s2F; rw [if_pos hF1]; exact hF2)
                        refine ⟨q, nI (cnE e n (cnE e n (cnE e n (a + 5)))), nI (nuV e n (cnE e n (cnE e n (a + 5)) + 1)), nI (cnE e n (cnE e n (a + 5)) + 1), ((td.set 0 (nI (nuV e n (a + 6)))).set 1 (nI (nuV e n (cnE e n (a + 5) + 1)))), nI 0, ?_, (by simp only [List.length_set]; exact l_td), Or.inr ⟨cnE e n (cnE e n (a + 5)) + 1, by omega, rfl, rfl, rfl⟩⟩
                        refine Ef.in (md := mX6_item) (L := [some (.ref 65), none, none, none]) rfl (Nat.le_of_ble_eq_true rfl) rfl ?_
                        refine E_aload_n at_X6_item_0 rfl ?_
                        refine E_iconst (x := nI 0) at_X6_item_1 (by decide) ?_
                        refine E_callV (v := some (.int (nI 1))) (As := [.ref 65, .int (nI 0)]) (r0 := []) (cs2 := (ww im lf s d k ls rf rz ra rn rq lt m1 m2 m3 m4 bd fc hd sz el q (fUp (fUp (fUp (fUp (fUp (fUp g 27 (nI (160 * j))) 29 (nI n)) 6 (-1)) 28 (nI a)) 30 x30) 31 x31) fm hm so si sh ce ca td wa kp la bf oo bo pw ow tr)) at_X6_item_2 rfl rfl (Nat.le_of_ble_eq_true rfl) rfl (ab_rvOf w65 rfl) (Ev.vi (congrArg nI (if_pos (by omega))) (m_sd0 hj hn ha l_ce hce)) (by decide) rfl ?_
                        refine E_if (t := 17) (b := false) at_X6_item_5 rfl (by decide) ?_
                        refine E_aload_n at_X6_item_8 rfl ?_
                        refine E_getfield (v := .int (nI (qN q))) at_X6_item_9 w65 rfl (by decide) rfl ?_
                        refine E_bipush (x := nI 9) at_X6_item_12 (by decide) ?_
                        refine E_ic (t := 34) (b := false) at_X6_item_14 rfl ((cn_eq (nI_toInt (by omega)) (nI_toInt (by omega))).trans (decide_eq_false (by omega))) ?_
                        refine E_aload_n at_X6_item_17 rfl ?_
                        refine E_iconst (x := nI 1) at_X6_item_18 (by decide) ?_
                        refine E_callV (v := some (.int (nI 0))) (As := [.ref 65, .int (nI 1)]) (r0 := []) (cs2 := (ww im lf s d k ls rf rz ra rn rq lt m1 m2 m3 m4 bd fc hd sz el q (fUp (fUp (fUp (fUp (fUp (fUp g 27 (nI (160 * j))) 29 (nI n)) 6 (-1)) 28 (nI a)) 30 x30) 31 x31) fm hm so si sh ce ca td wa kp la bf oo bo pw ow tr)) at_X6_item_19 rfl rfl (Nat.le_of_ble_eq_true rfl) rfl (ab_rvOf w65 rfl) (Ev.vi (congrArg nI (if_neg (by omega))) (m_sd1 hj hn ha l_ce hce)) (by decide) rfl ?_
                        refine E_if (t := 43) (b := true) at_X6_item_22 rfl (by decide) ?_
                        refine E_aload_n at_X6_item_43 rfl ?_
                        refine E_callV (v := some (.int (nI 0))) (As := [.ref 65]) (r0 := []) (cs2 := (ww im lf s d k ls rf rz ra rn rq lt m1 m2 m3 m4 bd fc hd sz el q (fUp (fUp (fUp (fUp (fUp (fUp g 27 (nI (160 * j))) 29 (nI n)) 6 (-1)) 28 (nI (a + 6))) 30 x30) 31 x31) fm hm so si sh ce ca td wa kp la bf oo bo pw ow tr)) at_X6_item_44 rfl rfl (Nat.le_of_ble_eq_true rfl) rfl (ab_rvOf w65 rfl) (m_wd0b hj hn ha l_ce hce hw hb0) (by decide) w_lens ?_
                        refine E_istore_n (L2 := [some (.ref 65), some (.int (nI 0)), none, none]) at_X6_item_47 rfl ?_
                        refine E_iload_n at_X6_item_48 rfl ?_
                        refine E_iconst (x := (-1)) at_X6_item_49 (by decide) ?_
                        refine E_ic (t := 55) (b := true) at_X6_item_50 rfl (by decide) ?_
                        refine E_iconst (x := nI 0) at_X6_item_55 (by decide) ?_
                        refine E_istore_n (L2 := [some (.ref 65), some (.int (nI 0)), some (.int (nI 0)), none]) at_X6_item_56 rfl ?_
                        refine mc00 hj hn (a := a + 5) (by omega) Iq l_td l_ce hce hb0 hd0 (show 0 ≤ nuV e n (a + 6) from by omega) (show nuV e n (a + 6) < 7 from by omega) ?_
                        refine mc01 hj hn (a := cnE e n (a + 5)) (by omega) Iq (by simp only [List.length_set]; exact l_td) l_ce hce hb1 hd1 (show 0 ≤ nuV e n (cnE e n (a + 5) + 1) from by omega) (show nuV e n (cnE e n (a + 5) + 1) < 10 from by omega) ?_
                        exact md020 hj hn (a := cnE e n (cnE e n (a + 5))) (by omega) Iq (by simp only [List.length_set]; exact l_td) l_ce hce hb2 hd2 (show nuV e n (cnE e n (cnE e n (a + 5)) + 1) < 1 from by omega)
                      · rcases Nat.lt_or_ge (nuV e n (cnE e n (cnE e n (a + 5)) + 1)) (51) with hs2 | hs2
                        · have hx01 := ex_0_1 (e := e) (n := n) (a := a) (by omega)
                          have hz := mtc_n (e := e) (n := n) [112, 105, 101, 99, 101] a ha
                          have hz_ : a + mj0 e n a ≤ n := hz
                          have hb0_ := (chB_t hb0).1
                          have hd0_ := (dgB_t hd0).1
                          have hV0 := nuV_99 hd0
                          have hc0 := cnE_n hd0
                          have hb1_ := (chB_t hb1).1
                          have hd1_ := (dgB_t hd1).1
                          have hV1 := nuV_99 hd1
                          have hc1 := cnE_n hd1
                          have hb2_ := (chB_t hb2).1
                          have hd2_ := (dgB_t hd2).1
                          have hV2 := nuV_99 hd2
                          have hc2 := cnE_n hd2
                          have : ([3, 3, 2, 2, 1, 0, 0] : List Nat).length = 7 := rfl
                          have : (((td.set 0 (nI (nuV e n (a + 6)))).set 1 (nI (nuV e n (cnE e n (a + 5) + 1)))).set 2 (nI (nuV e n (cnE e n (cnE e n (a + 5)) + 1)))).length = 3 := by first | omega | (simp only [List.length_set]; omega)
                          have : (qK q).length = 9 := by first | omega | (simp only [List.length_set]; omega)
                          have : (qA q).length = 9 := by first | omega | (simp only [List.length_set]; omega)
                          have : (qB q).length = 9 := by first | omega | (simp only [List.length_set]; omega)
                          have : (qP q).length = 9 := by first | omega | (simp only [List.length_set]; omega)
                          have hF0 : nuF e n (a + 5) 0 7 = 0 := nuF_C hb0 hd0 (show ¬ (nuV e n (a + 6) < 0 ∨ 7 ≤ nuV e n (a + 6)) from by omega)
                          have hF1 : nuF e n (cnE e n (a + 5)) 0 10 = 0 := nuF_C hb1 hd1 (show ¬ (nuV e n (cnE e n (a + 5) + 1) < 0 ∨ 10 ≤ nuV e n (cnE e n (a + 5) + 1)) from by omega)
                          have hF2 : nuF e n (cnE e n (cnE e n (a + 5))) 1 51 = 0 := nuF_C hb2 hd2 (show ¬ (nuV e n (cnE e n (cnE e n (a + 5)) + 1) < 1 ∨ 51 ≤ nuV e n (cnE e n (cnE e n (a + 5)) + 1)) from by omega)
                          have hI : itF e n q a = 0 := (it_0 (q := q) hw).1.trans (by rw [if_neg (by omega)]; unfold s3F; rw [if_pos hF0]; unfold s2F; rw [if_pos hF1]; exact hF2)
                          have hE : itA e n a = cnE e n (cnE e n (cnE e n (a + 5))) := (it_0 (q := q) hw).2.2
                          refine ⟨(qs_N (qs_P (qs_B (qs_A (qs_K q ((qK q).set (qN q) (nuV e n (a + 6)))) ((qA q).set (qN q) (nuV e n (cnE e n (a + 5) + 1)))) ((qB q).set (qN q) (nuV e n (cnE e n (cnE e n (a + 5)) + 1)))) ((qP q).set (qN q) 99)) ((qN q) + 1)), nI (cnE e n (cnE e n (cnE e n (a + 5)))), nI (nuV e n (cnE e n (cnE e n (a + 5)) + 1)), x31, (((td.set 0 (nI (nuV e n (a + 6)))).set 1 (nI (nuV e n (cnE e n (a + 5) + 1)))).set 2 (nI (nuV e n (cnE e n (cnE e n (a + 5)) + 1)))), nI 1, ?_, (by simp only [List.length_set]; exact l_td), Or.inl ⟨hI, (it_0 (q := q) hw).2.1.symm, by rw [hE], rfl, by omega, by omega, (qI_addP Iq (by omega) (by omega) (by omega) (by omega) (by omega))⟩⟩
                          refine Ef.in (md := mX6_item) (L := [some (.ref 65), none, none, none]) rfl (Nat.le_of_ble_eq_true rfl) rfl ?_
                          refine E_aload_n at_X6_item_0 rfl ?_
                          refine E_iconst (x := nI 0) at_X6_item_1 (by decide) ?_
                          refine E_callV (v := some (.int (nI 1))) (As := [.ref 65, .int (nI 0)]) (r0 := []) (cs2 := (ww im lf s d k ls rf rz ra rn rq lt m1 m2 m3 m4 bd fc hd sz el q (fUp (fUp (fUp (fUp (fUp (fUp g 27 (nI (160 * j))) 29 (nI n)) 6 (-1)) 28 (nI a)) 30 x30) 31 x31) fm hm so si sh ce ca td wa kp la bf oo bo pw ow tr)) at_X6_item_2 rfl rfl (Nat.le_of_ble_eq_true rfl) rfl (ab_rvOf w65 rfl) (Ev.vi (congrArg nI (if_pos (by omega))) (m_sd0 hj hn ha l_ce hce)) (by decide) rfl ?_
                          refine E_if (t := 17) (b := false) at_X6_item_5 rfl (by decide) ?_
                          refine E_aload_n at_X6_item_8 rfl ?_
                          refine E_getfield (v := .int (nI (qN q))) at_X6_item_9 w65 rfl (by decide) rfl ?_
                          refine E_bipush (x := nI 9) at_X6_item_12 (by decide) ?_
                          refine E_ic (t := 34) (b := false) at_X6_item_14 rfl ((cn_eq (nI_toInt (by omega)) (nI_toInt (by omega))).trans (decide_eq_false (by omega))) ?_
                          refine E_aload_n at_X6_item_17 rfl ?_
                          refine E_iconst (x := nI 1) at_X6_item_18 (by decide) ?_
                          refine E_callV (v := some (.int (nI 0))) (As := [.ref 65, .int (nI 1)]) (r0 := []) (cs2 := (ww im lf s d k ls rf rz ra rn rq lt m1 m2 m3 m4 bd fc hd sz el q (fUp (fUp (fUp (fUp (fUp (fUp g 27 (nI (160 * j))) 29 (nI n)) 6 (-1)) 28 (nI a)) 30 x30) 31 x31) fm hm so si sh ce ca td wa kp la bf oo bo pw ow tr)) at_X6_item_19 rfl rfl (Nat.le_of_ble_eq_true rfl) rfl (ab_rvOf w65 rfl) (Ev.vi (congrArg nI (if_neg (by omega))) (m_sd1 hj hn ha l_ce hce)) (by decide) rfl ?_
                          refine E_if (t := 43) (b := true) at_X6_item_22 rfl (by decide) ?_
                          refine E_aload_n at_X6_item_43 rfl ?_
                          refine E_callV (v := some (.int (nI 0))) (As := [.ref 65]) (r0 := []) (cs2 := (ww im lf s d k ls rf rz ra rn rq lt m1 m2 m3 m4 bd fc hd sz el q (fUp (fUp (fUp (fUp (fUp (fUp g 27 (nI (160 * j))) 29 (nI n)) 6 (-1)) 28 (nI (a + 6))) 30 x30) 31 x31) fm hm so si sh ce ca td wa kp la bf oo bo pw ow tr)) at_X6_item_44 rfl rfl (Nat.le_of_ble_eq_true rfl) rfl (ab_rvOf w65 rfl) (m_wd0b hj hn ha l_ce hce hw hb0) (by decide) w_lens ?_
                          refine E_istore_n (L2 := [some (.ref 65), some (.int (nI 0)), none, none]) at_X6_item_47 rfl ?_
                          refine E_iload_n at_X6_item_48 rfl ?_
                          refine E_iconst (x := (-1)) at_X6_item_49 (by decide) ?_
                          refine E_ic (t := 55) (b := true) at_X6_item_50 rfl (by decide) ?_
                          refine E_iconst (x := nI 0) at_X6_item_55 (by decide) ?_
                          refine E_istore_n (L2 := [some (.ref 65), some (.int (nI 0)), some (.int (nI 0)), none]) at_X6_item_56 rfl ?_
                          refine mc00 hj hn (a := a + 5) (by omega) Iq l_td l_ce hce hb0 hd0 (show 0 ≤ nuV e n (a + 6) from by omega) (show nuV e n (a + 6) < 7 from by omega) ?_
                          refine mc01 hj hn (a := cnE e n (a + 5)) (by omega) Iq (by simp only [List.length_set]; exact l_td) l_ce hce hb1 hd1 (show 0 ≤ nuV e n (cnE e n (a + 5) + 1) from by omega) (show nuV e n (cnE e n (a + 5) + 1) < 10 from by omega) ?_
                          refine mc02 hj hn (a := cnE e n (cnE e n (a + 5))) (by omega) Iq (by simp only [List.length_set]; exact l_td) l_ce hce hb2 hd2 (show 1 ≤ nuV e n (cnE e n (cnE e n (a + 5)) + 1) from by omega) (show nuV e n (cnE e n (cnE e n (a + 5)) + 1) < 51 from by omega) ?_
                          refine E_iload_n rfl rfl ?_
                          refine E_aload_n rfl rfl ?_
                          refine E_getfield (v := .ref 83) rfl w65 rfl (by decide) rfl ?_
                          refine E_iload_n rfl rfl ?_
                          refine E_ialN (l := [3, 3, 2, 2, 1, 0, 0]) (v := 3) rfl w83 (by omega) (by omega) rfl ?_
                          refine E_ic (t := 166) (b := true) rfl rfl (by decide) ?_
                          refine E_iload_n rfl rfl ?_
                          refine E_tsIn (off := 33) (t := 200) rfl (by decide) rfl rfl ?_
                          refine E_aload_n rfl rfl ?_
                          refine E_aload_n rfl rfl ?_
                          refine E_getfield (v := .ref 85) rfl w65 rfl (by decide) rfl ?_
                          refine E_iconst (x := nI 0) rfl (by decide) ?_
                          refine E_ialI (l := (((td.set 0 (nI (nuV e n (a + 6)))).set 1 (nI (nuV e n (cnE e n (a + 5) + 1)))).set 2 (nI (nuV e n (cnE e n (cnE e n (a + 5)) + 1))))) (v := nI (nuV e n (a + 6))) rfl w85 (by omega) (by omega) ((ab_gs1 (by decide)).trans ((ab_gs1 (by decide)).trans (ab_gs2 (by first | omega | (simp only [List.length_set]; omega))))) ?_
                          refine E_aload_n rfl rfl ?_
                          refine E_getfield (v := .ref 85) rfl w65 rfl (by decide) rfl ?_
                          refine E_iconst (x := nI 1) rfl (by decide) ?_
                          refine E_ialI (l := (((td.set 0 (nI (nuV e n (a + 6)))).set 1 (nI (nuV e n (cnE e n (a + 5) + 1)))).set 2 (nI (nuV e n (cnE e n (cnE e n (a + 5)) + 1))))) (v := nI (nuV e n (cnE e n (a + 5) + 1))) rfl w85 (by omega) (by omega) ((ab_gs1 (by decide)).trans (ab_gs2 (by first | omega | (simp only [List.length_set]; omega)))) ?_
                          refine E_aload_n rfl rfl ?_
                          refine E_getfield (v := .ref 85) rfl w65 rfl (by decide) rfl ?_
                          refine E_iconst (x := nI 2) rfl (by decide) ?_
                          refine E_ialI (l := (((td.set 0 (nI (nuV e n (a + 6)))).set 1 (nI (nuV e n (cnE e n (a + 5) + 1)))).set 2 (nI (nuV e n (cnE e n (cnE e n (a + 5)) + 1))))) (v := nI (nuV e n (cnE e n (cnE e n (a + 5)) + 1))) rfl w85 (by omega) (by omega) (ab_gs2 (by first | omega | (simp only [List.length_set]; omega))) ?_
                          have e1 : Ev ab_Z0 1 146 [.ref 65, .int (nI (nuV e n (a + 6))), .int (nI (nuV e n (cnE e n (a + 5) + 1))), .int (nI (nuV e n (cnE e n (cnE e n (a + 5)) + 1)))] (ww im lf s d k ls rf rz ra rn rq lt m1 m2 m3 m4 bd fc hd sz el q (fUp (fUp (fUp (fUp (fUp (fUp g 27 (nI (160 * j))) 29 (nI n)) 6 (-1)) 28 (nI (cnE e n (cnE e n (cnE e n (a + 5)))))) 30 (nI (nuV e n (cnE e n (cnE e n (a + 5)) + 1)))) 31 x31) fm hm so si sh ce ca (((td.set 0 (nI (nuV e n (a + 6)))).set 1 (nI (nuV e n (cnE e n (a + 5) + 1)))).set 2 (nI (nuV e n (cnE e n (cnE e n (a + 5)) + 1)))) wa kp la bf oo bo pw ow tr) (some (.int (nI (qN q))), (ww im lf s d k ls rf rz ra rn rq lt m1 m2 m3 m4 bd fc hd sz el (qs_N (qs_P (qs_B (qs_A (qs_K q ((qK q).set (qN q) (nuV e n (a + 6)))) ((qA q).set (qN q) (nuV e n (cnE e n (a + 5) + 1)))) ((qB q).set (qN q) (nuV e n (cnE e n (cnE e n (a + 5)) + 1)))) ((qP q).set (qN q) 99)) ((qN q) + 1)) (fUp (fUp (fUp (fUp (fUp (fUp g 27 (nI (160 * j))) 29 (nI n)) 6 (-1)) 28 (nI (cnE e n (cnE e n (cnE e n (a + 5)))))) 30 (nI (nuV e n (cnE e n (cnE e n (a + 5)) + 1)))) 31 x31) fm hm so si sh ce ca (((td.set 0 (nI (nuV e n (a + 6)))).set 1 (nI (nuV e n (cnE e n (a + 5) + 1)))).set 2 (nI (nuV e n (cnE e n (cnE e n (a + 5)) + 1)))) wa kp la bf oo bo pw ow tr)) := by
                            refine Ef.in (md := mX6_addsPiece) (L := [some (.ref 65), some (.int (nI (nuV e n (a + 6)))), some (.int (nI (nuV e n (cnE e n (a + 5) + 1)))), some (.int (nI (nuV e n (cnE e n (cnE e n (a + 5)) + 1))))]) rfl (Nat.le_of_ble_eq_true rfl) rfl ?_
                            refine E_aload_n rfl rfl ?_
                            refine E_getfield (v := .ref 67) rfl w65 rfl (by decide) rfl ?_
                            refine E_aload_n rfl rfl ?_
                            refine E_getfield (v := .int (nI (qN q))) rfl w65 rfl (by decide) rfl ?_
                            refine E_iload_n rfl rfl ?_
                            refine E_iasN (l := qK q) (cs2 := (ww im lf s d k ls rf rz ra rn rq lt m1 m2 m3 m4 bd fc hd sz el (qs_K q ((qK q).set (qN q) (nuV e n (a + 6)))) (fUp (fUp (fUp (fUp (fUp (fUp g 27 (nI (160 * j))) 29 (nI n)) 6 (-1)) 28 (nI (cnE e n (cnE e n (cnE e n (a + 5)))))) 30 (nI (nuV e n (cnE e n (cnE e n (a + 5)) + 1)))) 31 x31) fm hm so si sh ce ca (((td.set 0 (nI (nuV e n (a + 6)))).set 1 (nI (nuV e n (cnE e n (a + 5) + 1)))).set 2 (nI (nuV e n (cnE e n (cnE e n (a + 5)) + 1)))) wa kp la bf oo bo pw ow tr)) rfl w67 (by omega) (by omega) w_pt65_K ?_
                            refine E_aload_n rfl rfl ?_
                            refine E_getfield (v := .ref 68) rfl w65 rfl (by decide) rfl ?_
                            refine E_aload_n rfl rfl ?_
                            refine E_getfield (v := .int (nI (qN q))) rfl w65 rfl (by decide) (congrArg (fun z => some (Value.int (nI z))) qg_NK) ?_
                            refine E_iload_n rfl rfl ?_
                            refine E_iasN (l := qA q) (cs2 := (ww im lf s d k ls rf rz ra rn rq lt m1 m2 m3 m4 bd fc hd sz el (qs_A (qs_K q ((qK q).set (qN q) (nuV e n (a + 6)))) ((qA q).set (qN q) (nuV e n (cnE e n (a + 5) + 1)))) (fUp (fUp (fUp (fUp (fUp (fUp g 27 (nI (160 * j))) 29 (nI n)) 6 (-1)) 28 (nI (cnE e n (cnE e n (cnE e n (a + 5)))))) 30 (nI (nuV e n (cnE e n (cnE e n (a + 5)) + 1)))) 31 x31) fm hm so si sh ce ca (((td.set 0 (nI (nuV e n (a + 6)))).set 1 (nI (nuV e n (cnE e n (a + 5) + 1)))).set 2 (nI (nuV e n (cnE e n (cnE e n (a + 5)) + 1)))) wa kp la bf oo bo pw ow tr)) rfl (w68v qg_AK) (by omega) (by omega) w_pt65_A ?_
                            refine E_aload_n rfl rfl ?_
                            refine E_getfield (v := .ref 69) rfl w65 rfl (by decide) rfl ?_
                            refine E_aload_n rfl rfl ?_
                            refine E_getfield (v := .int (nI (qN q))) rfl w65 rfl (by decide) (congrArg (fun z => some (Value.int (nI z))) (qg_NA.trans qg_NK)) ?_
                            refine E_iload_n rfl rfl ?_
                            refine E_iasN (l := qB q) (cs2 := (ww im lf s d k ls rf rz ra rn rq lt m1 m2 m3 m4 bd fc hd sz el (qs_B (qs_A (qs_K q ((qK q).set (qN q) (nuV e n (a + 6)))) ((qA q).set (qN q) (nuV e n (cnE e n (a + 5) + 1)))) ((qB q).set (qN q) (nuV e n (cnE e n (cnE e n (a + 5)) + 1)))) (fUp (fUp (fUp (fUp (fUp (fUp g 27 (nI (160 * j))) 29 (nI n)) 6 (-1)) 28 (nI (cnE e n (cnE e n (cnE e n (a + 5)))))) 30 (nI (nuV e n (cnE e n (cnE e n (a + 5)) + 1)))) 31 x31) fm hm so si sh ce ca (((td.set 0 (nI (nuV e n (a + 6)))).set 1 (nI (nuV e n (cnE e n (a + 5) + 1)))).set 2 (nI (nuV e n (cnE e n (cnE e n (a + 5)) + 1)))) wa kp la bf oo bo pw ow tr)) rfl (w69v (qg_BA.trans qg_BK)) (by omega) (by omega) w_pt65_B ?_
                            refine E_aload_n rfl rfl ?_
                            refine E_getfield (v := .ref 70) rfl w65 rfl (by decide) rfl ?_
                            refine E_aload_n rfl rfl ?_
                            refine E_getfield (v := .int (nI (qN q))) rfl w65 rfl (by decide) (congrArg (fun z => some (Value.int (nI z))) (qg_NB.trans (qg_NA.trans qg_NK))) ?_
                            refine E_bipush (x := nI 99) rfl (by decide) ?_
                            refine E_iasN (l := qP q) (cs2 := (ww im lf s d k ls rf rz ra rn rq lt m1 m2 m3 m4 bd fc hd sz el (qs_P (qs_B (qs_A (qs_K q ((qK q).set (qN q) (nuV e n (a + 6)))) ((qA q).set (qN q) (nuV e n (cnE e n (a + 5) + 1)))) ((qB q).set (qN q) (nuV e n (cnE e n (cnE e n (a + 5)) + 1)))) ((qP q).set (qN q) 99)) (fUp (fUp (fUp (fUp (fUp (fUp g 27 (nI (160 * j))) 29 (nI n)) 6 (-1)) 28 (nI (cnE e n (cnE e n (cnE e n (a + 5)))))) 30 (nI (nuV e n (cnE e n (cnE e n (a + 5)) + 1)))) 31 x31) fm hm so si sh ce ca (((td.set 0 (nI (nuV e n (a + 6)))).set 1 (nI (nuV e n (cnE e n (a + 5) + 1)))).set 2 (nI (nuV e n (cnE e n (cnE e n (a + 5)) + 1)))) wa kp la bf oo bo pw ow tr)) rfl (w70v (qg_PB.trans (qg_PA.trans qg_PK))) (by omega) (by omega) w_pt65_P ?_
                            refine E_aload_n rfl rfl ?_
                            refine E_dup rfl rfl ?_
                            refine E_getfield (v := .int (nI (qN q))) rfl w65 rfl (by decide) (congrArg (fun z => some (Value.int (nI z))) (qg_NP.trans (qg_NB.trans (qg_NA.trans qg_NK)))) ?_
                            refine E_dup_x1 rfl ⟨rfl, rfl⟩ ?_
                            refine E_iconst (x := nI 1) rfl (by decide) ?_
                            refine E_iadd (z := nI ((qN q) + 1)) rfl (nI_add _ _) ?_
                            refine E_putfield (cs2 := (ww im lf s d k ls rf rz ra rn rq lt m1 m2 m3 m4 bd fc hd sz el (qs_N (qs_P (qs_B (qs_A (qs_K q ((qK q).set (qN q) (nuV e n (a + 6)))) ((qA q).set (qN q) (nuV e n (cnE e n (a + 5) + 1)))) ((qB q).set (qN q) (nuV e n (cnE e n (cnE e n (a + 5)) + 1)))) ((qP q).set (qN q) 99)) ((qN q) + 1)) (fUp (fUp (fUp (fUp (fUp (fUp g 27 (nI (160 * j))) 29 (nI n)) 6 (-1)) 28 (nI (cnE e n (cnE e n (cnE e n (a + 5)))))) 30 (nI (nuV e n (cnE e n (cnE e n (a + 5)) + 1)))) 31 x31) fm hm so si sh ce ca (((td.set 0 (nI (nuV e n (a + 6)))).set 1 (nI (nuV e n (cnE e n (a + 5) + 1)))).set 2 (nI (nuV e n (cnE e n (cnE e n (a + 5)) + 1)))) wa kp la bf oo bo pw ow tr)) rfl w65 rfl (by decide) (Nat.le_of_ble_eq_true rfl) rfl rfl rfl w_pt65_N ?_
                            exact E_iret rfl rfl
                          refine E_callV (v := some (.int (nI (qN q)))) (As := [.ref 65, .int (nI (nuV e n (a + 6))), .int (nI (nuV e n (cnE e n (a + 5) + 1))), .int (nI (nuV e n (cnE e n (cnE e n (a + 5)) + 1)))]) (r0 := []) (cs2 := (ww im lf s d k ls rf rz ra rn rq lt m1 m2 m3 m4 bd fc hd sz el (qs_N (qs_P (qs_B (qs_A (qs_K q ((qK q).set (qN q) (nuV e n (a + 6)))) ((qA q).set (qN q) (nuV e n (cnE e n (a + 5) + 1)))) ((qB q).set (qN q) (nuV e n (cnE e n (cnE e n (a + 5)) + 1)))) ((qP q).set (qN q) 99)) ((qN q) + 1)) (fUp (fUp (fUp (fUp (fUp (fUp g 27 (nI (160 * j))) 29 (nI n)) 6 (-1)) 28 (nI (cnE e n (cnE e n (cnE e n (a + 5)))))) 30 (nI (nuV e n (cnE e n (cnE e n (a + 5)) + 1)))) 31 x31) fm hm so si sh ce ca (((td.set 0 (nI (nuV e n (a + 6)))).set 1 (nI (nuV e n (cnE e n (a + 5) + 1)))).set 2 (nI (nuV e n (cnE e n (cnE e n (a + 5)) + 1)))) wa kp la bf oo bo pw ow tr)) rfl rfl rfl (Nat.le_of_ble_eq_true rfl) rfl (ab_rvOf w65 rfl) e1 (by decide) w_lens ?_
                          refine E_pop rfl rfl ?_
                          refine E_goto (t := 316) rfl rfl ?_
                          refine E_iconst (x := nI 1) rfl (by decide) ?_
                          exact E_iret rfl rfl
                        · have hx01 := ex_0_1 (e := e) (n := n) (a := a) (by omega)
                          have hz := mtc_n (e := e) (n := n) [112, 105, 101, 99, 101] a ha
                          have hz_ : a + mj0 e n a ≤ n := hz
                          have hb0_ := (chB_t hb0).1
                          have hd0_ := (dgB_t hd0).1
                          have hV0 := nuV_99 hd0
                          have hc0 := cnE_n hd0
                          have hb1_ := (chB_t hb1).1
                          have hd1_ := (dgB_t hd1).1
                          have hV1 := nuV_99 hd1
                          have hc1 := cnE_n hd1
                          have hb2_ := (chB_t hb2).1
                          have hd2_ := (dgB_t hd2).1
                          have hV2 := nuV_99 hd2
                          have hF0 : nuF e n (a + 5) 0 7 = 0 := nuF_C hb0 hd0 (show ¬ (nuV e n (a + 6) < 0 ∨ 7 ≤ nuV e n (a + 6)) from by omega)
                          have hF1 : nuF e n (cnE e n (a + 5)) 0 10 = 0 := nuF_C hb1 hd1 (show ¬ (nuV e n (cnE e n (a + 5) + 1) < 0 ∨ 10 ≤ nuV e n (cnE e n (a + 5) + 1)) from by omega)
                          have hF2 : nuF e n (cnE e n (cnE e n (a + 5))) 1 51 = cnE e n (cnE e n (a + 5)) + 2 := nuF_D hb2 hd2 (show nuV e n (cnE e n (cnE e n (a + 5)) + 1) < 1 ∨ 51 ≤ nuV e n (cnE e n (cnE e n (a + 5)) + 1) from by omega)
                          have hI : itF e n q a = cnE e n (cnE e n (a + 5)) + 2 := (it_0 (q := q) hw).1.trans (by rw [if_neg (by omega)]; unfold s3F; rw [if_pos hF0]; unfold s2F; rw [if_pos hF1]; exact hF2)
                          refine ⟨q, nI (cnE e n (cnE e n (cnE e n (a + 5)))), nI (nuV e n (cnE e n (cnE e n (a + 5)) + 1)), nI (cnE e n (cnE e n (a + 5)) + 1), ((td.set 0 (nI (nuV e n (a + 6)))).set 1 (nI (nuV e n (cnE e n (a + 5) + 1)))), nI 0, ?_, (by simp only [List.length_set]; exact l_td), Or.inr ⟨cnE e n (cnE e n (a + 5)) + 1, by omega, rfl, rfl, rfl⟩⟩
                          refine Ef.in (md := mX6_item) (L := [some (.ref 65), none, none, none]) rfl (Nat.le_of_ble_eq_true rfl) rfl ?_
                          refine E_aload_n at_X6_item_0 rfl ?_
                          refine E_iconst (x := nI 0) at_X6_item_1 (by decide) ?_
                          refine E_callV (v := some (.int (nI 1))) (As := [.ref 65, .int (nI 0)]) (r0 := []) (cs2 := (ww im lf s d k ls rf rz ra rn rq lt m1 m2 m3 m4 bd fc hd sz el q (fUp (fUp (fUp (fUp (fUp (fUp g 27 (nI (160 * j))) 29 (nI n)) 6 (-1)) 28 (nI a)) 30 x30) 31 x31) fm hm so si sh ce ca td wa kp la bf oo bo pw ow tr)) at_X6_item_2 rfl rfl (Nat.le_of_ble_eq_true rfl) rfl (ab_rvOf w65 rfl) (Ev.vi (congrArg nI (if_pos (by omega))) (m_sd0 hj hn ha l_ce hce)) (by decide) rfl ?_
                          refine E_if (t := 17) (b := false) at_X6_item_5 rfl (by decide) ?_
                          refine E_aload_n at_X6_item_8 rfl ?_
                          refine E_getfield (v := .int (nI (qN q))) at_X6_item_9 w65 rfl (by decide) rfl ?_
                          refine E_bipush (x := nI 9) at_X6_item_12 (by decide) ?_
                          refine E_ic (t := 34) (b := false) at_X6_item_14 rfl ((cn_eq (nI_toInt (by omega)) (nI_toInt (by omega))).trans (decide_eq_false (by omega))) ?_
                          refine E_aload_n at_X6_item_17 rfl ?_
                          refine E_iconst (x := nI 1) at_X6_item_18 (by decide) ?_
                          refine E_callV (v := some (.int (nI 0))) (As := [.ref 65, .int (nI 1)]) (r0 := []) (cs2 := (ww im lf s d k ls rf rz ra rn rq lt m1 m2 m3 m4 bd fc hd sz el q (fUp (fUp (fUp (fUp (fUp (fUp g 27 (nI (160 * j))) 29 (nI n)) 6 (-1)) 28 (nI a)) 30 x30) 31 x31) fm hm so si sh ce ca td wa kp la bf oo bo pw ow tr)) at_X6_item_19 rfl rfl (Nat.le_of_ble_eq_true rfl) rfl (ab_rvOf w65 rfl) (Ev.vi (congrArg nI (if_neg (by omega))) (m_sd1 hj hn ha l_ce hce)) (by decide) rfl ?_
                          refine E_if (t := 43) (b := true) at_X6_item_22 rfl (by decide) ?_
                          refine E_aload_n at_X6_item_43 rfl ?_
                          refine E_callV (v := some (.int (nI 0))) (As := [.ref 65]) (r0 := []) (cs2 := (ww im lf s d k ls rf rz ra rn rq lt m1 m2 m3 m4 bd fc hd sz el q (fUp (fUp (fUp (fUp (fUp (fUp g 27 (nI (160 * j))) 29 (nI n)) 6 (-1)) 28 (nI (a + 6))) 30 x30) 31 x31) fm hm so si sh ce ca td wa kp la bf oo bo pw ow tr)) at_X6_item_44 rfl rfl (Nat.le_of_ble_eq_true rfl) rfl (ab_rvOf w65 rfl) (m_wd0b hj hn ha l_ce hce hw hb0) (by decide) w_lens ?_
                          refine E_istore_n (L2 := [some (.ref 65), some (.int (nI 0)), none, none]) at_X6_item_47 rfl ?_
                          refine E_iload_n at_X6_item_48 rfl ?_
                          refine E_iconst (x := (-1)) at_X6_item_49 (by decide) ?_
                          refine E_ic (t := 55) (b := true) at_X6_item_50 rfl (by decide) ?_
                          refine E_iconst (x := nI 0) at_X6_item_55 (by decide) ?_
                          refine E_istore_n (L2 := [some (.ref 65), some (.int (nI 0)), some (.int (nI 0)), none]) at_X6_item_56 rfl ?_
                          refine mc00 hj hn (a := a + 5) (by omega) Iq l_td l_ce hce hb0 hd0 (show 0 ≤ nuV e n (a + 6) from by omega) (show nuV e n (a + 6) < 7 from by omega) ?_
                          refine mc01 hj hn (a := cnE e n (a + 5)) (by omega) Iq (by simp only [List.length_set]; exact l_td) l_ce hce hb1 hd1 (show 0 ≤ nuV e n (cnE e n (a + 5) + 1) from by omega) (show nuV e n (cnE e n (a + 5) + 1) < 10 from by omega) ?_
                          exact md021 hj hn (a := cnE e n (cnE e n (a + 5))) (by omega) Iq (by simp only [List.length_set]; exact l_td) l_ce hce hb2 hd2 (show 51 ≤ nuV e n (cnE e n (cnE e n (a + 5)) + 1) from by omega)
                · have hx01 := ex_0_1 (e := e) (n := n) (a := a) (by omega)
                  have hz := mtc_n (e := e) (n := n) [112, 105, 101, 99, 101] a ha
                  have hz_ : a + mj0 e n a ≤ n := hz
                  have hb0_ := (chB_t hb0).1
                  have hd0_ := (dgB_t hd0).1
                  have hV0 := nuV_99 hd0
                  have hc0 := cnE_n hd0
                  have hb1_ := (chB_t hb1).1
                  have hd1_ := (dgB_t hd1).1
                  have hV1 := nuV_99 hd1
                  have hF0 : nuF e n (a + 5) 0 7 = 0 := nuF_C hb0 hd0 (show ¬ (nuV e n (a + 6) < 0 ∨ 7 ≤ nuV e n (a + 6)) from by omega)
                  have hF1 : nuF e n (cnE e n (a + 5)) 0 10 = cnE e n (a + 5) + 2 := nuF_D hb1 hd1 (show nuV e n (cnE e n (a + 5) + 1) < 0 ∨ 10 ≤ nuV e n (cnE e n (a + 5) + 1) from by omega)
                  have hI : itF e n q a = cnE e n (a + 5) + 2 := (it_0 (q := q) hw).1.trans (by rw [if_neg (by omega)]; unfold s3F; rw [if_pos hF0]; unfold s2F; rw [if_neg (by omega)]; exact hF1)
                  refine ⟨q, nI (cnE e n (cnE e n (a + 5))), nI (nuV e n (cnE e n (a + 5) + 1)), nI (cnE e n (a + 5) + 1), (td.set 0 (nI (nuV e n (a + 6)))), nI 0, ?_, (by simp only [List.length_set]; exact l_td), Or.inr ⟨cnE e n (a + 5) + 1, by omega, rfl, rfl, rfl⟩⟩
                  refine Ef.in (md := mX6_item) (L := [some (.ref 65), none, none, none]) rfl (Nat.le_of_ble_eq_true rfl) rfl ?_
                  refine E_aload_n at_X6_item_0 rfl ?_
                  refine E_iconst (x := nI 0) at_X6_item_1 (by decide) ?_
                  refine E_callV (v := some (.int (nI 1))) (As := [.ref 65, .int (nI 0)]) (r0 := []) (cs2 := (ww im lf s d k ls rf rz ra rn rq lt m1 m2 m3 m4 bd fc hd sz el q (fUp (fUp (fUp (fUp (fUp (fUp g 27 (nI (160 * j))) 29 (nI n)) 6 (-1)) 28 (nI a)) 30 x30) 31 x31) fm hm so si sh ce ca td wa kp la bf oo bo pw ow tr)) at_X6_item_2 rfl rfl (Nat.le_of_ble_eq_true rfl) rfl (ab_rvOf w65 rfl) (Ev.vi (congrArg nI (if_pos (by omega))) (m_sd0 hj hn ha l_ce hce)) (by decide) rfl ?_
                  refine E_if (t := 17) (b := false) at_X6_item_5 rfl (by decide) ?_
                  refine E_aload_n at_X6_item_8 rfl ?_
                  refine E_getfield (v := .int (nI (qN q))) at_X6_item_9 w65 rfl (by decide) rfl ?_
                  refine E_bipush (x := nI 9) at_X6_item_12 (by decide) ?_
                  refine E_ic (t := 34) (b := false) at_X6_item_14 rfl ((cn_eq (nI_toInt (by omega)) (nI_toInt (by omega))).trans (decide_eq_false (by omega))) ?_
                  refine E_aload_n at_X6_item_17 rfl ?_
                  refine E_iconst (x := nI 1) at_X6_item_18 (by decide) ?_
                  refine E_callV (v := some (.int (nI 0))) (As := [.ref 65, .int (nI 1)]) (r0 := []) (cs2 := (ww im lf s d k ls rf rz ra rn rq lt m1 m2 m3 m4 bd fc hd sz el q (fUp (fUp (fUp (fUp (fUp (fUp g 27 (nI (160 * j))) 29 (nI n)) 6 (-1)) 28 (nI a)) 30 x30) 31 x31) fm hm so si sh ce ca td wa kp la bf oo bo pw ow tr)) at_X6_item_19 rfl rfl (Nat.le_of_ble_eq_true rfl) rfl (ab_rvOf w65 rfl) (Ev.vi (congrArg nI (if_neg (by omega))) (m_sd1 hj hn ha l_ce hce)) (by decide) rfl ?_
                  refine E_if (t := 43) (b := true) at_X6_item_22 rfl (by decide) ?_
                  refine E_aload_n at_X6_item_43 rfl ?_
                  refine E_callV (v := some (.int (nI 0))) (As := [.ref 65]) (r0 := []) (cs2 := (ww im lf s d k ls rf rz ra rn rq lt m1 m2 m3 m4 bd fc hd sz el q (fUp (fUp (fUp (fUp (fUp (fUp g 27 (nI (160 * j))) 29 (nI n)) 6 (-1)) 28 (nI (a + 6))) 30 x30) 31 x31) fm hm so si sh ce ca td wa kp la bf oo bo pw ow tr)) at_X6_item_44 rfl rfl (Nat.le_of_ble_eq_true rfl) rfl (ab_rvOf w65 rfl) (m_wd0b hj hn ha l_ce hce hw hb0) (by decide) w_lens ?_
                  refine E_istore_n (L2 := [some (.ref 65), some (.int (nI 0)), none, none]) at_X6_item_47 rfl ?_
                  refine E_iload_n at_X6_item_48 rfl ?_
                  refine E_iconst (x := (-1)) at_X6_item_49 (by decide) ?_
                  refine E_ic (t := 55) (b := true) at_X6_item_50 rfl (by decide) ?_
                  refine E_iconst (x := nI 0) at_X6_item_55 (by decide) ?_
                  refine E_istore_n (L2 := [some (.ref 65), some (.int (nI 0)), some (.int (nI 0)), none]) at_X6_item_56 rfl ?_
                  refine mc00 hj hn (a := a + 5) (by omega) Iq l_td l_ce hce hb0 hd0 (show 0 ≤ nuV e n (a + 6) from by omega) (show nuV e n (a + 6) < 7 from by omega) ?_
                  exact md010 hj hn (a := cnE e n (a + 5)) (by omega) Iq (by simp only [List.length_set]; exact l_td) l_ce hce hb1 hd1 (show 10 ≤ nuV e n (cnE e n (a + 5) + 1) from by omega)
          · have hx01 := ex_0_1 (e := e) (n := n) (a := a) (by omega)
            have hz := mtc_n (e := e) (n := n) [112, 105, 101, 99, 101] a ha
            have hz_ : a + mj0 e n a ≤ n := hz
            have hb0_ := (chB_t hb0).1
            have hd0_ := (dgB_t hd0).1
            have hV0 := nuV_99 hd0
            have hF0 : nuF e n (a + 5) 0 7 = a + 5 + 2 := nuF_D hb0 hd0 (show nuV e n (a + 6) < 0 ∨ 7 ≤ nuV e n (a + 6) from by omega)
            have hI : itF e n q a = a + 7 := (it_0 (q := q) hw).1.trans (by rw [if_neg (by omega)]; unfold s3F; rw [if_neg (by omega)]; exact hF0)
            refine ⟨q, nI (cnE e n (a + 5)), nI (nuV e n (a + 6)), nI (a + 6), td, nI 0, ?_, l_td, Or.inr ⟨a + 6, by omega, rfl, rfl, rfl⟩⟩
            refine Ef.in (md := mX6_item) (L := [some (.ref 65), none, none, none]) rfl (Nat.le_of_ble_eq_true rfl) rfl ?_
            refine E_aload_n at_X6_item_0 rfl ?_
            refine E_iconst (x := nI 0) at_X6_item_1 (by decide) ?_
            refine E_callV (v := some (.int (nI 1))) (As := [.ref 65, .int (nI 0)]) (r0 := []) (cs2 := (ww im lf s d k ls rf rz ra rn rq lt m1 m2 m3 m4 bd fc hd sz el q (fUp (fUp (fUp (fUp (fUp (fUp g 27 (nI (160 * j))) 29 (nI n)) 6 (-1)) 28 (nI a)) 30 x30) 31 x31) fm hm so si sh ce ca td wa kp la bf oo bo pw ow tr)) at_X6_item_2 rfl rfl (Nat.le_of_ble_eq_true rfl) rfl (ab_rvOf w65 rfl) (Ev.vi (congrArg nI (if_pos (by omega))) (m_sd0 hj hn ha l_ce hce)) (by decide) rfl ?_
            refine E_if (t := 17) (b := false) at_X6_item_5 rfl (by decide) ?_
            refine E_aload_n at_X6_item_8 rfl ?_
            refine E_getfield (v := .int (nI (qN q))) at_X6_item_9 w65 rfl (by decide) rfl ?_
            refine E_bipush (x := nI 9) at_X6_item_12 (by decide) ?_
            refine E_ic (t := 34) (b := false) at_X6_item_14 rfl ((cn_eq (nI_toInt (by omega)) (nI_toInt (by omega))).trans (decide_eq_false (by omega))) ?_
            refine E_aload_n at_X6_item_17 rfl ?_
            refine E_iconst (x := nI 1) at_X6_item_18 (by decide) ?_
            refine E_callV (v := some (.int (nI 0))) (As := [.ref 65, .int (nI 1)]) (r0 := []) (cs2 := (ww im lf s d k ls rf rz ra rn rq lt m1 m2 m3 m4 bd fc hd sz el q (fUp (fUp (fUp (fUp (fUp (fUp g 27 (nI (160 * j))) 29 (nI n)) 6 (-1)) 28 (nI a)) 30 x30) 31 x31) fm hm so si sh ce ca td wa kp la bf oo bo pw ow tr)) at_X6_item_19 rfl rfl (Nat.le_of_ble_eq_true rfl) rfl (ab_rvOf w65 rfl) (Ev.vi (congrArg nI (if_neg (by omega))) (m_sd1 hj hn ha l_ce hce)) (by decide) rfl ?_
            refine E_if (t := 43) (b := true) at_X6_item_22 rfl (by decide) ?_
            refine E_aload_n at_X6_item_43 rfl ?_
            refine E_callV (v := some (.int (nI 0))) (As := [.ref 65]) (r0 := []) (cs2 := (ww im lf s d k ls rf rz ra rn rq lt m1 m2 m3 m4 bd fc hd sz el q (fUp (fUp (fUp (fUp (fUp (fUp g 27 (nI (160 * j))) 29 (nI n)) 6 (-1)) 28 (nI (a + 6))) 30 x30) 31 x31) fm hm so si sh ce ca td wa kp la bf oo bo pw ow tr)) at_X6_item_44 rfl rfl (Nat.le_of_ble_eq_true rfl) rfl (ab_rvOf w65 rfl) (m_wd0b hj hn ha l_ce hce hw hb0) (by decide) w_lens ?_
            refine E_istore_n (L2 := [some (.ref 65), some (.int (nI 0)), none, none]) at_X6_item_47 rfl ?_
            refine E_iload_n at_X6_item_48 rfl ?_
            refine E_iconst (x := (-1)) at_X6_item_49 (by decide) ?_
            refine E_ic (t := 55) (b := true) at_X6_item_50 rfl (by decide) ?_
            refine E_iconst (x := nI 0) at_X6_item_55 (by decide) ?_
            refine E_istore_n (L2 := [some (.ref 65), some (.int (nI 0)), some (.int (nI 0)), none]) at_X6_item_56 rfl ?_
            exact md000 hj hn (a := a + 5) (by omega) Iq l_td l_ce hce hb0 hd0 (show 7 ≤ nuV e n (a + 6) from by omega)
  · by_cases f1 : (qM q) = 6
    · have hI : itF e n q a = a + 1 := (it_1 (q := q) hw).1.trans (by rw [if_pos (by omega)])
      refine ⟨q, nI a, x30, nI a, td, nI 0, ?_, l_td, Or.inr ⟨a, by omega, rfl, rfl, rfl⟩⟩
      refine Ef.in (md := mX6_item) (L := [some (.ref 65), none, none, none]) rfl (Nat.le_of_ble_eq_true rfl) rfl ?_
      refine E_aload_n at_X6_item_0 rfl ?_
      refine E_iconst (x := nI 0) at_X6_item_1 (by decide) ?_
      refine E_callV (v := some (.int (nI 0))) (As := [.ref 65, .int (nI 0)]) (r0 := []) (cs2 := (ww im lf s d k ls rf rz ra rn rq lt m1 m2 m3 m4 bd fc hd sz el q (fUp (fUp (fUp (fUp (fUp (fUp g 27 (nI (160 * j))) 29 (nI n)) 6 (-1)) 28 (nI a)) 30 x30) 31 x31) fm hm so si sh ce ca td wa kp la bf oo bo pw ow tr)) at_X6_item_2 rfl rfl (Nat.le_of_ble_eq_true rfl) rfl (ab_rvOf w65 rfl) (Ev.vi (congrArg nI (if_neg (by omega))) (m_sd0 hj hn ha l_ce hce)) (by decide) rfl ?_
      refine E_if (t := 17) (b := true) at_X6_item_5 rfl (by decide) ?_
      refine E_aload_n at_X6_item_17 rfl ?_
      refine E_iconst (x := nI 1) at_X6_item_18 (by decide) ?_
      refine E_callV (v := some (.int (nI 1))) (As := [.ref 65, .int (nI 1)]) (r0 := []) (cs2 := (ww im lf s d k ls rf rz ra rn rq lt m1 m2 m3 m4 bd fc hd sz el q (fUp (fUp (fUp (fUp (fUp (fUp g 27 (nI (160 * j))) 29 (nI n)) 6 (-1)) 28 (nI a)) 30 x30) 31 x31) fm hm so si sh ce ca td wa kp la bf oo bo pw ow tr)) at_X6_item_19 rfl rfl (Nat.le_of_ble_eq_true rfl) rfl (ab_rvOf w65 rfl) (Ev.vi (congrArg nI (if_pos (by omega))) (m_sd1 hj hn ha l_ce hce)) (by decide) rfl ?_
      refine E_if (t := 43) (b := false) at_X6_item_22 rfl (by decide) ?_
      refine E_aload_n at_X6_item_25 rfl ?_
      refine E_getfield (v := .int (nI (qM q))) at_X6_item_26 w65 rfl (by decide) rfl ?_
      refine E_bipush (x := nI 6) at_X6_item_29 (by decide) ?_
      refine E_ic (t := 43) (b := false) at_X6_item_31 rfl ((cn_ne (nI_toInt (by omega)) (nI_toInt (by omega))).trans (decide_eq_false (by omega))) ?_
      refine E_aload_n rfl rfl ?_
      refine E_aload_n rfl rfl ?_
      refine E_getfield (v := .int (nI a)) rfl w65 rfl (by decide) rfl ?_
      have e1 : Ev ab_Z0 1 156 [.ref 65, .int (nI a)] (ww im lf s d k ls rf rz ra rn rq lt m1 m2 m3 m4 bd fc hd sz el q (fUp (fUp (fUp (fUp (fUp (fUp g 27 (nI (160 * j))) 29 (nI n)) 6 (-1)) 28 (nI a)) 30 x30) 31 x31) fm hm so si sh ce ca td wa kp la bf oo bo pw ow tr) (some (.int (nI 0)), (ww im lf s d k ls rf rz ra rn rq lt m1 m2 m3 m4 bd fc hd sz el q (fUp (fUp (fUp (fUp (fUp (fUp g 27 (nI (160 * j))) 29 (nI n)) 6 (-1)) 28 (nI a)) 30 x30) 31 (nI a)) fm hm so si sh ce ca td wa kp la bf oo bo pw ow tr)) := by
        refine Ef.in (md := mX6_wrong) (L := [some (.ref 65), some (.int (nI a))]) rfl (Nat.le_of_ble_eq_true rfl) rfl ?_
        refine E_aload_n at_X6_wrong_0 rfl ?_
        refine E_iload_n at_X6_wrong_1 rfl ?_
        refine E_putfield (cs2 := (ww im lf s d k ls rf rz ra rn rq lt m1 m2 m3 m4 bd fc hd sz el q (fUp (fUp (fUp (fUp (fUp (fUp g 27 (nI (160 * j))) 29 (nI n)) 6 (-1)) 28 (nI a)) 30 x30) 31 (nI a)) fm hm so si sh ce ca td wa kp la bf oo bo pw ow tr)) at_X6_wrong_2 w65 rfl (by decide) (Nat.le_of_ble_eq_true rfl) rfl rfl rfl (w_pt65_31.trans (by rw [gn31])) ?_
        refine E_iconst (x := nI 0) at_X6_wrong_5 (by decide) ?_
        exact E_iret at_X6_wrong_6 rfl
      refine E_callV (v := some (.int (nI 0))) (As := [.ref 65, .int (nI a)]) (r0 := []) (cs2 := (ww im lf s d k ls rf rz ra rn rq lt m1 m2 m3 m4 bd fc hd sz el q (fUp (fUp (fUp (fUp (fUp (fUp g 27 (nI (160 * j))) 29 (nI n)) 6 (-1)) 28 (nI a)) 30 x30) 31 (nI a)) fm hm so si sh ce ca td wa kp la bf oo bo pw ow tr)) rfl rfl rfl (Nat.le_of_ble_eq_true rfl) rfl (ab_rvOf w65 rfl) e1 (by decide) w_lens ?_
      exact E_iret rfl rfl
    · rcases bo2 (chB e n (a + 6) 32) with hb0 | hb0
      · have hz := mtc_n (e := e) (n := n) [112, 101, 114, 115, 111, 110] a ha
        have hz_ : a + mj1 e n a ≤ n := hz
        have hF0 : nuF e n (a + 6) 0 100 = a + 6 + 1 := nuF_A hb0
        have hI : itF e n q a = a + 7 := (it_1 (q := q) hw).1.trans (by rw [if_neg (by omega)]; unfold s3F; rw [if_neg (by omega)]; exact hF0)
        refine ⟨q, nI a, x30, nI (a + 6), td, nI 0, ?_, l_td, Or.inr ⟨a + 6, by omega, rfl, rfl, rfl⟩⟩
        refine Ef.in (md := mX6_item) (L := [some (.ref 65), none, none, none]) rfl (Nat.le_of_ble_eq_true rfl) rfl ?_
        refine E_aload_n at_X6_item_0 rfl ?_
        refine E_iconst (x := nI 0) at_X6_item_1 (by decide) ?_
        refine E_callV (v := some (.int (nI 0))) (As := [.ref 65, .int (nI 0)]) (r0 := []) (cs2 := (ww im lf s d k ls rf rz ra rn rq lt m1 m2 m3 m4 bd fc hd sz el q (fUp (fUp (fUp (fUp (fUp (fUp g 27 (nI (160 * j))) 29 (nI n)) 6 (-1)) 28 (nI a)) 30 x30) 31 x31) fm hm so si sh ce ca td wa kp la bf oo bo pw ow tr)) at_X6_item_2 rfl rfl (Nat.le_of_ble_eq_true rfl) rfl (ab_rvOf w65 rfl) (Ev.vi (congrArg nI (if_neg (by omega))) (m_sd0 hj hn ha l_ce hce)) (by decide) rfl ?_
        refine E_if (t := 17) (b := true) at_X6_item_5 rfl (by decide) ?_
        refine E_aload_n at_X6_item_17 rfl ?_
        refine E_iconst (x := nI 1) at_X6_item_18 (by decide) ?_
        refine E_callV (v := some (.int (nI 1))) (As := [.ref 65, .int (nI 1)]) (r0 := []) (cs2 := (ww im lf s d k ls rf rz ra rn rq lt m1 m2 m3 m4 bd fc hd sz el q (fUp (fUp (fUp (fUp (fUp (fUp g 27 (nI (160 * j))) 29 (nI n)) 6 (-1)) 28 (nI a)) 30 x30) 31 x31) fm hm so si sh ce ca td wa kp la bf oo bo pw ow tr)) at_X6_item_19 rfl rfl (Nat.le_of_ble_eq_true rfl) rfl (ab_rvOf w65 rfl) (Ev.vi (congrArg nI (if_pos (by omega))) (m_sd1 hj hn ha l_ce hce)) (by decide) rfl ?_
        refine E_if (t := 43) (b := false) at_X6_item_22 rfl (by decide) ?_
        refine E_aload_n at_X6_item_25 rfl ?_
        refine E_getfield (v := .int (nI (qM q))) at_X6_item_26 w65 rfl (by decide) rfl ?_
        refine E_bipush (x := nI 6) at_X6_item_29 (by decide) ?_
        refine E_ic (t := 43) (b := true) at_X6_item_31 rfl ((cn_ne (nI_toInt (by omega)) (nI_toInt (by omega))).trans (decide_eq_true (by omega))) ?_
        refine E_aload_n at_X6_item_43 rfl ?_
        refine E_callV (v := some (.int (-1))) (As := [.ref 65]) (r0 := []) (cs2 := (ww im lf s d k ls rf rz ra rn rq lt m1 m2 m3 m4 bd fc hd sz el q (fUp (fUp (fUp (fUp (fUp (fUp g 27 (nI (160 * j))) 29 (nI n)) 6 (-1)) 28 (nI a)) 30 x30) 31 (nI (a + 6))) fm hm so si sh ce ca td wa kp la bf oo bo pw ow tr)) at_X6_item_44 rfl rfl (Nat.le_of_ble_eq_true rfl) rfl (ab_rvOf w65 rfl) (m_wd1n hj hn ha l_ce hce hw hb0) (by decide) w_lens ?_
        refine E_istore_n (L2 := [some (.ref 65), some (.int (-1)), none, none]) at_X6_item_47 rfl ?_
        refine E_iload_n at_X6_item_48 rfl ?_
        refine E_iconst (x := (-1)) at_X6_item_49 (by decide) ?_
        refine E_ic (t := 55) (b := false) at_X6_item_50 rfl (by decide) ?_
        refine E_iconst (x := nI 0) at_X6_item_53 (by decide) ?_
        exact E_iret at_X6_item_54 rfl
      · rcases bo2 (dgB e n (a + 7)) with hd0 | hd0
        · have hz := mtc_n (e := e) (n := n) [112, 101, 114, 115, 111, 110] a ha
          have hz_ : a + mj1 e n a ≤ n := hz
          have hb0_ := (chB_t hb0).1
          have hF0 : nuF e n (a + 6) 0 100 = a + 6 + 2 := nuF_B hb0 hd0
          have hI : itF e n q a = a + 8 := (it_1 (q := q) hw).1.trans (by rw [if_neg (by omega)]; unfold s3F; rw [if_neg (by omega)]; exact hF0)
          refine ⟨q, nI (a + 7), nI 0, nI (a + 7), td, nI 0, ?_, l_td, Or.inr ⟨a + 7, by omega, rfl, rfl, rfl⟩⟩
          refine Ef.in (md := mX6_item) (L := [some (.ref 65), none, none, none]) rfl (Nat.le_of_ble_eq_true rfl) rfl ?_
          refine E_aload_n at_X6_item_0 rfl ?_
          refine E_iconst (x := nI 0) at_X6_item_1 (by decide) ?_
          refine E_callV (v := some (.int (nI 0))) (As := [.ref 65, .int (nI 0)]) (r0 := []) (cs2 := (ww im lf s d k ls rf rz ra rn rq lt m1 m2 m3 m4 bd fc hd sz el q (fUp (fUp (fUp (fUp (fUp (fUp g 27 (nI (160 * j))) 29 (nI n)) 6 (-1)) 28 (nI a)) 30 x30) 31 x31) fm hm so si sh ce ca td wa kp la bf oo bo pw ow tr)) at_X6_item_2 rfl rfl (Nat.le_of_ble_eq_true rfl) rfl (ab_rvOf w65 rfl) (Ev.vi (congrArg nI (if_neg (by omega))) (m_sd0 hj hn ha l_ce hce)) (by decide) rfl ?_
          refine E_if (t := 17) (b := true) at_X6_item_5 rfl (by decide) ?_
          refine E_aload_n at_X6_item_17 rfl ?_
          refine E_iconst (x := nI 1) at_X6_item_18 (by decide) ?_
          refine E_callV (v := some (.int (nI 1))) (As := [.ref 65, .int (nI 1)]) (r0 := []) (cs2 := (ww im lf s d k ls rf rz ra rn rq lt m1 m2 m3 m4 bd fc hd sz el q (fUp (fUp (fUp (fUp (fUp (fUp g 27 (nI (160 * j))) 29 (nI n)) 6 (-1)) 28 (nI a)) 30 x30) 31 x31) fm hm so si sh ce ca td wa kp la bf oo bo pw ow tr)) at_X6_item_19 rfl rfl (Nat.le_of_ble_eq_true rfl) rfl (ab_rvOf w65 rfl) (Ev.vi (congrArg nI (if_pos (by omega))) (m_sd1 hj hn ha l_ce hce)) (by decide) rfl ?_
          refine E_if (t := 43) (b := false) at_X6_item_22 rfl (by decide) ?_
          refine E_aload_n at_X6_item_25 rfl ?_
          refine E_getfield (v := .int (nI (qM q))) at_X6_item_26 w65 rfl (by decide) rfl ?_
          refine E_bipush (x := nI 6) at_X6_item_29 (by decide) ?_
          refine E_ic (t := 43) (b := true) at_X6_item_31 rfl ((cn_ne (nI_toInt (by omega)) (nI_toInt (by omega))).trans (decide_eq_true (by omega))) ?_
          refine E_aload_n at_X6_item_43 rfl ?_
          refine E_callV (v := some (.int (nI 1))) (As := [.ref 65]) (r0 := []) (cs2 := (ww im lf s d k ls rf rz ra rn rq lt m1 m2 m3 m4 bd fc hd sz el q (fUp (fUp (fUp (fUp (fUp (fUp g 27 (nI (160 * j))) 29 (nI n)) 6 (-1)) 28 (nI (a + 7))) 30 x30) 31 x31) fm hm so si sh ce ca td wa kp la bf oo bo pw ow tr)) at_X6_item_44 rfl rfl (Nat.le_of_ble_eq_true rfl) rfl (ab_rvOf w65 rfl) (m_wd1b hj hn ha l_ce hce hw hb0) (by decide) w_lens ?_
          refine E_istore_n (L2 := [some (.ref 65), some (.int (nI 1)), none, none]) at_X6_item_47 rfl ?_
          refine E_iload_n at_X6_item_48 rfl ?_
          refine E_iconst (x := (-1)) at_X6_item_49 (by decide) ?_
          refine E_ic (t := 55) (b := true) at_X6_item_50 rfl (by decide) ?_
          refine E_iconst (x := nI 0) at_X6_item_55 (by decide) ?_
          refine E_istore_n (L2 := [some (.ref 65), some (.int (nI 1)), some (.int (nI 0)), none]) at_X6_item_56 rfl ?_
          exact mb10 hj hn (a := a + 6) (by omega) Iq l_td l_ce hce hb0 hd0
        · rcases bo2 (chB e n (cnE e n (a + 6)) 32) with hb1 | hb1
          · have hz := mtc_n (e := e) (n := n) [112, 101, 114, 115, 111, 110] a ha
            have hz_ : a + mj1 e n a ≤ n := hz
            have hb0_ := (chB_t hb0).1
            have hd0_ := (dgB_t hd0).1
            have hV0 := nuV_99 hd0
            have hc0 := cnE_n hd0
            have hF0 : nuF e n (a + 6) 0 100 = 0 := nuF_C hb0 hd0 (show ¬ (nuV e n (a + 7) < 0 ∨ 100 ≤ nuV e n (a + 7)) from by omega)
            have hF1 : nuF e n (cnE e n (a + 6)) 0 10 = cnE e n (a + 6) + 1 := nuF_A hb1
            have hI : itF e n q a = cnE e n (a + 6) + 1 := (it_1 (q := q) hw).1.trans (by rw [if_neg (by omega)]; unfold s3F; rw [if_pos hF0]; unfold s2F; rw [if_neg (by omega)]; exact hF1)
            refine ⟨q, nI (cnE e n (a + 6)), nI (nuV e n (a + 7)), nI (cnE e n (a + 6)), (td.set 0 (nI (nuV e n (a + 7)))), nI 0, ?_, (by simp only [List.length_set]; exact l_td), Or.inr ⟨cnE e n (a + 6), by omega, rfl, rfl, rfl⟩⟩
            refine Ef.in (md := mX6_item) (L := [some (.ref 65), none, none, none]) rfl (Nat.le_of_ble_eq_true rfl) rfl ?_
            refine E_aload_n at_X6_item_0 rfl ?_
            refine E_iconst (x := nI 0) at_X6_item_1 (by decide) ?_
            refine E_callV (v := some (.int (nI 0))) (As := [.ref 65, .int (nI 0)]) (r0 := []) (cs2 := (ww im lf s d k ls rf rz ra rn rq lt m1 m2 m3 m4 bd fc hd sz el q (fUp (fUp (fUp (fUp (fUp (fUp g 27 (nI (160 * j))) 29 (nI n)) 6 (-1)) 28 (nI a)) 30 x30) 31 x31) fm hm so si sh ce ca td wa kp la bf oo bo pw ow tr)) at_X6_item_2 rfl rfl (Nat.le_of_ble_eq_true rfl) rfl (ab_rvOf w65 rfl) (Ev.vi (congrArg nI (if_neg (by omega))) (m_sd0 hj hn ha l_ce hce)) (by decide) rfl ?_
            refine E_if (t := 17) (b := true) at_X6_item_5 rfl (by decide) ?_
            refine E_aload_n at_X6_item_17 rfl ?_
            refine E_iconst (x := nI 1) at_X6_item_18 (by decide) ?_
            refine E_callV (v := some (.int (nI 1))) (As := [.ref 65, .int (nI 1)]) (r0 := []) (cs2 := (ww im lf s d k ls rf rz ra rn rq lt m1 m2 m3 m4 bd fc hd sz el q (fUp (fUp (fUp (fUp (fUp (fUp g 27 (nI (160 * j))) 29 (nI n)) 6 (-1)) 28 (nI a)) 30 x30) 31 x31) fm hm so si sh ce ca td wa kp la bf oo bo pw ow tr)) at_X6_item_19 rfl rfl (Nat.le_of_ble_eq_true rfl) rfl (ab_rvOf w65 rfl) (Ev.vi (congrArg nI (if_pos (by omega))) (m_sd1 hj hn ha l_ce hce)) (by decide) rfl ?_
            refine E_if (t := 43) (b := false) at_X6_item_22 rfl (by decide) ?_
            refine E_aload_n at_X6_item_25 rfl ?_
            refine E_getfield (v := .int (nI (qM q))) at_X6_item_26 w65 rfl (by decide) rfl ?_
            refine E_bipush (x := nI 6) at_X6_item_29 (by decide) ?_
            refine E_ic (t := 43) (b := true) at_X6_item_31 rfl ((cn_ne (nI_toInt (by omega)) (nI_toInt (by omega))).trans (decide_eq_true (by omega))) ?_
            refine E_aload_n at_X6_item_43 rfl ?_
            refine E_callV (v := some (.int (nI 1))) (As := [.ref 65]) (r0 := []) (cs2 := (ww im lf s d k ls rf rz ra rn rq lt m1 m2 m3 m4 bd fc hd sz el q (fUp (fUp (fUp (fUp (fUp (fUp g 27 (nI (160 * j))) 29 (nI n)) 6 (-1)) 28 (nI (a + 7))) 30 x30) 31 x31) fm hm so si sh ce ca td wa kp la bf oo bo pw ow tr)) at_X6_item_44 rfl rfl (Nat.le_of_ble_eq_true rfl) rfl (ab_rvOf w65 rfl) (m_wd1b hj hn ha l_ce hce hw hb0) (by decide) w_lens ?_
            refine E_istore_n (L2 := [some (.ref 65), some (.int (nI 1)), none, none]) at_X6_item_47 rfl ?_
            refine E_iload_n at_X6_item_48 rfl ?_
            refine E_iconst (x := (-1)) at_X6_item_49 (by decide) ?_
            refine E_ic (t := 55) (b := true) at_X6_item_50 rfl (by decide) ?_
            refine E_iconst (x := nI 0) at_X6_item_55 (by decide) ?_
            refine E_istore_n (L2 := [some (.ref 65), some (.int (nI 1)), some (.int (nI 0)), none]) at_X6_item_56 rfl ?_
            refine mc10 hj hn (a := a + 6) (by omega) Iq l_td l_ce hce hb0 hd0 (show 0 ≤ nuV e n (a + 7) from by omega) (show nuV e n (a + 7) < 100 from by omega) ?_
            exact ma11 hj hn (a := cnE e n (a + 6)) (by omega) Iq (by simp only [List.length_set]; exact l_td) l_ce hce hb1
          · rcases bo2 (dgB e n (cnE e n (a + 6) + 1)) with hd1 | hd1
            · have hz := mtc_n (e := e) (n := n) [112, 101, 114, 115, 111, 110] a ha
              have hz_ : a + mj1 e n a ≤ n := hz
              have hb0_ := (chB_t hb0).1
              have hd0_ := (dgB_t hd0).1
              have hV0 := nuV_99 hd0
              have hc0 := cnE_n hd0
              have hb1_ := (chB_t hb1).1
              have hF0 : nuF e n (a + 6) 0 100 = 0 := nuF_C hb0 hd0 (show ¬ (nuV e n (a + 7) < 0 ∨ 100 ≤ nuV e n (a + 7)) from by omega)
              have hF1 : nuF e n (cnE e n (a + 6)) 0 10 = cnE e n (a + 6) + 2 := nuF_B hb1 hd1
              have hI : itF e n q a = cnE e n (a + 6) + 2 := (it_1 (q := q) hw).1.trans (by rw [if_neg (by omega)]; unfold s3F; rw [if_pos hF0]; unfold s2F; rw [if_neg (by omega)]; exact hF1)
              refine ⟨q, nI (cnE e n (a + 6) + 1), nI 0, nI (cnE e n (a + 6) + 1), (td.set 0 (nI (nuV e n (a + 7)))), nI 0, ?_, (by simp only [List.length_set]; exact l_td), Or.inr ⟨cnE e n (a + 6) + 1, by omega, rfl, rfl, rfl⟩⟩
              refine Ef.in (md := mX6_item) (L := [some (.ref 65), none, none, none]) rfl (Nat.le_of_ble_eq_true rfl) rfl ?_
              refine E_aload_n at_X6_item_0 rfl ?_
              refine E_iconst (x := nI 0) at_X6_item_1 (by decide) ?_
              refine E_callV (v := some (.int (nI 0))) (As := [.ref 65, .int (nI 0)]) (r0 := []) (cs2 := (ww im lf s d k ls rf rz ra rn rq lt m1 m2 m3 m4 bd fc hd sz el q (fUp (fUp (fUp (fUp (fUp (fUp g 27 (nI (160 * j))) 29 (nI n)) 6 (-1)) 28 (nI a)) 30 x30) 31 x31) fm hm so si sh ce ca td wa kp la bf oo bo pw ow tr)) at_X6_item_2 rfl rfl (Nat.le_of_ble_eq_true rfl) rfl (ab_rvOf w65 rfl) (Ev.vi (congrArg nI (if_neg (by omega))) (m_sd0 hj hn ha l_ce hce)) (by decide) rfl ?_
              refine E_if (t := 17) (b := true) at_X6_item_5 rfl (by decide) ?_
              refine E_aload_n at_X6_item_17 rfl ?_
              refine E_iconst (x := nI 1) at_X6_item_18 (by decide) ?_
              refine E_callV (v := some (.int (nI 1))) (As := [.ref 65, .int (nI 1)]) (r0 := []) (cs2 := (ww im lf s d k ls rf rz ra rn rq lt m1 m2 m3 m4 bd fc hd sz el q (fUp (fUp (fUp (fUp (fUp (fUp g 27 (nI (160 * j))) 29 (nI n)) 6 (-1)) 28 (nI a)) 30 x30) 31 x31) fm hm so si sh ce ca td wa kp la bf oo bo pw ow tr)) at_X6_item_19 rfl rfl (Nat.le_of_ble_eq_true rfl) rfl (ab_rvOf w65 rfl) (Ev.vi (congrArg nI (if_pos (by omega))) (m_sd1 hj hn ha l_ce hce)) (by decide) rfl ?_
              refine E_if (t := 43) (b := false) at_X6_item_22 rfl (by decide) ?_
              refine E_aload_n at_X6_item_25 rfl ?_
              refine E_getfield (v := .int (nI (qM q))) at_X6_item_26 w65 rfl (by decide) rfl ?_
              refine E_bipush (x := nI 6) at_X6_item_29 (by decide) ?_
              refine E_ic (t := 43) (b := true) at_X6_item_31 rfl ((cn_ne (nI_toInt (by omega)) (nI_toInt (by omega))).trans (decide_eq_true (by omega))) ?_
              refine E_aload_n at_X6_item_43 rfl ?_
              refine E_callV (v := some (.int (nI 1))) (As := [.ref 65]) (r0 := []) (cs2 := (ww im lf s d k ls rf rz ra rn rq lt m1 m2 m3 m4 bd fc hd sz el q (fUp (fUp (fUp (fUp (fUp (fUp g 27 (nI (160 * j))) 29 (nI n)) 6 (-1)) 28 (nI (a + 7))) 30 x30) 31 x31) fm hm so si sh ce ca td wa kp la bf oo bo pw ow tr)) at_X6_item_44 rfl rfl (Nat.le_of_ble_eq_true rfl) rfl (ab_rvOf w65 rfl) (m_wd1b hj hn ha l_ce hce hw hb0) (by decide) w_lens ?_
              refine E_istore_n (L2 := [some (.ref 65), some (.int (nI 1)), none, none]) at_X6_item_47 rfl ?_
              refine E_iload_n at_X6_item_48 rfl ?_
              refine E_iconst (x := (-1)) at_X6_item_49 (by decide) ?_
              refine E_ic (t := 55) (b := true) at_X6_item_50 rfl (by decide) ?_
              refine E_iconst (x := nI 0) at_X6_item_55 (by decide) ?_
              refine E_istore_n (L2 := [some (.ref 65), some (.int (nI 1)), some (.int (nI 0)), none]) at_X6_item_56 rfl ?_
              refine mc10 hj hn (a := a + 6) (by omega) Iq l_td l_ce hce hb0 hd0 (show 0 ≤ nuV e n (a + 7) from by omega) (show nuV e n (a + 7) < 100 from by omega) ?_
              exact mb11 hj hn (a := cnE e n (a + 6)) (by omega) Iq (by simp only [List.length_set]; exact l_td) l_ce hce hb1 hd1
            · rcases Nat.lt_or_ge (nuV e n (cnE e n (a + 6) + 1)) (10) with hr1 | hr1
              · rcases bo2 (chB e n (cnE e n (cnE e n (a + 6))) 32) with hb2 | hb2
                · have hz := mtc_n (e := e) (n := n) [112, 101, 114, 115, 111, 110] a ha
                  have hz_ : a + mj1 e n a ≤ n := hz
                  have hb0_ := (chB_t hb0).1
                  have hd0_ := (dgB_t hd0).1
                  have hV0 := nuV_99 hd0
                  have hc0 := cnE_n hd0
                  have hb1_ := (chB_t hb1).1
                  have hd1_ := (dgB_t hd1).1
                  have hV1 := nuV_99 hd1
                  have hc1 := cnE_n hd1
                  have hF0 : nuF e n (a + 6) 0 100 = 0 := nuF_C hb0 hd0 (show ¬ (nuV e n (a + 7) < 0 ∨ 100 ≤ nuV e n (a + 7)) from by omega)
                  have hF1 : nuF e n (cnE e n (a + 6)) 0 10 = 0 := nuF_C hb1 hd1 (show ¬ (nuV e n (cnE e n (a + 6) + 1) < 0 ∨ 10 ≤ nuV e n (cnE e n (a + 6) + 1)) from by omega)
                  have hF2 : nuF e n (cnE e n (cnE e n (a + 6))) 0 8 = cnE e n (cnE e n (a + 6)) + 1 := nuF_A hb2
                  have hI : itF e n q a = cnE e n (cnE e n (a + 6)) + 1 := (it_1 (q := q) hw).1.trans (by rw [if_neg (by omega)]; unfold s3F; rw [if_pos hF0]; unfold s2F; rw [if_pos hF1]; exact hF2)
                  refine ⟨q, nI (cnE e n (cnE e n (a + 6))), nI (nuV e n (cnE e n (a + 6) + 1)), nI (cnE e n (cnE e n (a + 6))), ((td.set 0 (nI (nuV e n (a + 7)))).set 1 (nI (nuV e n (cnE e n (a + 6) + 1)))), nI 0, ?_, (by simp only [List.length_set]; exact l_td), Or.inr ⟨cnE e n (cnE e n (a + 6)), by omega, rfl, rfl, rfl⟩⟩
                  refine Ef.in (md := mX6_item) (L := [some (.ref 65), none, none, none]) rfl (Nat.le_of_ble_eq_true rfl) rfl ?_
                  refine E_aload_n at_X6_item_0 rfl ?_
                  refine E_iconst (x := nI 0) at_X6_item_1 (by decide) ?_
                  refine E_callV (v := some (.int (nI 0))) (As := [.ref 65, .int (nI 0)]) (r0 := []) (cs2 := (ww im lf s d k ls rf rz ra rn rq lt m1 m2 m3 m4 bd fc hd sz el q (fUp (fUp (fUp (fUp (fUp (fUp g 27 (nI (160 * j))) 29 (nI n)) 6 (-1)) 28 (nI a)) 30 x30) 31 x31) fm hm so si sh ce ca td wa kp la bf oo bo pw ow tr)) at_X6_item_2 rfl rfl (Nat.le_of_ble_eq_true rfl) rfl (ab_rvOf w65 rfl) (Ev.vi (congrArg nI (if_neg (by omega))) (m_sd0 hj hn ha l_ce hce)) (by decide) rfl ?_
                  refine E_if (t := 17) (b := true) at_X6_item_5 rfl (by decide) ?_
                  refine E_aload_n at_X6_item_17 rfl ?_
                  refine E_iconst (x := nI 1) at_X6_item_18 (by decide) ?_
                  refine E_callV (v := some (.int (nI 1))) (As := [.ref 65, .int (nI 1)]) (r0 := []) (cs2 := (ww im lf s d k ls rf rz ra rn rq lt m1 m2 m3 m4 bd fc hd sz el q (fUp (fUp (fUp (fUp (fUp (fUp g 27 (nI (160 * j))) 29 (nI n)) 6 (-1)) 28 (nI a)) 30 x30) 31 x31) fm hm so si sh ce ca td wa kp la bf oo bo pw ow tr)) at_X6_item_19 rfl rfl (Nat.le_of_ble_eq_true rfl) rfl (ab_rvOf w65 rfl) (Ev.vi (congrArg nI (if_pos (by omega))) (m_sd1 hj hn ha l_ce hce)) (by decide) rfl ?_
                  refine E_if (t := 43) (b := false) at_X6_item_22 rfl (by decide) ?_
                  refine E_aload_n at_X6_item_25 rfl ?_
                  refine E_getfield (v := .int (nI (qM q))) at_X6_item_26 w65 rfl (by decide) rfl ?_
                  refine E_bipush (x := nI 6) at_X6_item_29 (by decide) ?_
                  refine E_ic (t := 43) (b := true) at_X6_item_31 rfl ((cn_ne (nI_toInt (by omega)) (nI_toInt (by omega))).trans (decide_eq_true (by omega))) ?_
                  refine E_aload_n at_X6_item_43 rfl ?_
                  refine E_callV (v := some (.int (nI 1))) (As := [.ref 65]) (r0 := []) (cs2 := (ww im lf s d k ls rf rz ra rn rq lt m1 m2 m3 m4 bd fc hd sz el q (fUp (fUp (fUp (fUp (fUp (fUp g 27 (nI (160 * j))) 29 (nI n)) 6 (-1)) 28 (nI (a + 7))) 30 x30) 31 x31) fm hm so si sh ce ca td wa kp la bf oo bo pw ow tr)) at_X6_item_44 rfl rfl (Nat.le_of_ble_eq_true rfl) rfl (ab_rvOf w65 rfl) (m_wd1b hj hn ha l_ce hce hw hb0) (by decide) w_lens ?_
                  refine E_istore_n (L2 := [some (.ref 65), some (.int (nI 1)), none, none]) at_X6_item_47 rfl ?_
                  refine E_iload_n at_X6_item_48 rfl ?_
                  refine E_iconst (x := (-1)) at_X6_item_49 (by decide) ?_
                  refine E_ic (t := 55) (b := true) at_X6_item_50 rfl (by decide) ?_
                  refine E_iconst (x := nI 0) at_X6_item_55 (by decide) ?_
                  refine E_istore_n (L2 := [some (.ref 65), some (.int (nI 1)), some (.int (nI 0)), none]) at_X6_item_56 rfl ?_
                  refine mc10 hj hn (a := a + 6) (by omega) Iq l_td l_ce hce hb0 hd0 (show 0 ≤ nuV e n (a + 7) from by omega) (show nuV e n (a + 7) < 100 from by omega) ?_
                  refine mc11 hj hn (a := cnE e n (a + 6)) (by omega) Iq (by simp only [List.length_set]; exact l_td) l_ce hce hb1 hd1 (show 0 ≤ nuV e n (cnE e n (a + 6) + 1) from by omega) (show nuV e n (cnE e n (a + 6) + 1) < 10 from by omega) ?_
                  exact ma12 hj hn (a := cnE e n (cnE e n (a + 6))) (by omega) Iq (by simp only [List.length_set]; exact l_td) l_ce hce hb2
                · rcases bo2 (dgB e n (cnE e n (cnE e n (a + 6)) + 1)) with hd2 | hd2
                  · have hz := mtc_n (e := e) (n := n) [112, 101, 114, 115, 111, 110] a ha
                    have hz_ : a + mj1 e n a ≤ n := hz
                    have hb0_ := (chB_t hb0).1
                    have hd0_ := (dgB_t hd0).1
                    have hV0 := nuV_99 hd0
                    have hc0 := cnE_n hd0
                    have hb1_ := (chB_t hb1).1
                    have hd1_ := (dgB_t hd1).1
                    have hV1 := nuV_99 hd1
                    have hc1 := cnE_n hd1
                    have hb2_ := (chB_t hb2).1
                    have hF0 : nuF e n (a + 6) 0 100 = 0 := nuF_C hb0 hd0 (show ¬ (nuV e n (a + 7) < 0 ∨ 100 ≤ nuV e n (a + 7)) from by omega)
                    have hF1 : nuF e n (cnE e n (a + 6)) 0 10 = 0 := nuF_C hb1 hd1 (show ¬ (nuV e n (cnE e n (a + 6) + 1) < 0 ∨ 10 ≤ nuV e n (cnE e n (a + 6) + 1)) from by omega)
                    have hF2 : nuF e n (cnE e n (cnE e n (a + 6))) 0 8 = cnE e n (cnE e n (a + 6)) + 2 := nuF_B hb2 hd2
                    have hI : itF e n q a = cnE e n (cnE e n (a + 6)) + 2 := (it_1 (q := q) hw).1.trans (by rw [if_neg (by omega)]; unfold s3F; rw [if_pos hF0]; unfold s2F; rw [if_pos hF1]; exact hF2)
                    refine ⟨q, nI (cnE e n (cnE e n (a + 6)) + 1), nI 0, nI (cnE e n (cnE e n (a + 6)) + 1), ((td.set 0 (nI (nuV e n (a + 7)))).set 1 (nI (nuV e n (cnE e n (a + 6) + 1)))), nI 0, ?_, (by simp only [List.length_set]; exact l_td), Or.inr ⟨cnE e n (cnE e n (a + 6)) + 1, by omega, rfl, rfl, rfl⟩⟩
                    refine Ef.in (md := mX6_item) (L := [some (.ref 65), none, none, none]) rfl (Nat.le_of_ble_eq_true rfl) rfl ?_
                    refine E_aload_n at_X6_item_0 rfl ?_
                    refine E_iconst (x := nI 0) at_X6_item_1 (by decide) ?_
                    refine E_callV (v := some (.int (nI 0))) (As := [.ref 65, .int (nI 0)]) (r0 := []) (cs2 := (ww im lf s d k ls rf rz ra rn rq lt m1 m2 m3 m4 bd fc hd sz el q (fUp (fUp (fUp (fUp (fUp (fUp g 27 (nI (160 * j))) 29 (nI n)) 6 (-1)) 28 (nI a)) 30 x30) 31 x31) fm hm so si sh ce ca td wa kp la bf oo bo pw ow tr)) at_X6_item_2 rfl rfl (Nat.le_of_ble_eq_true rfl) rfl (ab_rvOf w65 rfl) (Ev.vi (congrArg nI (if_neg (by omega))) (m_sd0 hj hn ha l_ce hce)) (by decide) rfl ?_
                    refine E_if (t := 17) (b := true) at_X6_item_5 rfl (by decide) ?_
                    refine E_aload_n at_X6_item_17 rfl ?_
                    refine E_iconst (x := nI 1) at_X6_item_18 (by decide) ?_
                    refine E_callV (v := some (.int (nI 1))) (As := [.ref 65, .int (nI 1)]) (r0 := []) (cs2 := (ww im lf s d k ls rf rz ra rn rq lt m1 m2 m3 m4 bd fc hd sz el q (fUp (fUp (fUp (fUp (fUp (fUp g 27 (nI (160 * j))) 29 (nI n)) 6 (-1)) 28 (nI a)) 30 x30) 31 x31) fm hm so si sh ce ca td wa kp la bf oo bo pw ow tr)) at_X6_item_19 rfl rfl (Nat.le_of_ble_eq_true rfl) rfl (ab_rvOf w65 rfl) (Ev.vi (congrArg nI (if_pos (by omega))) (m_sd1 hj hn ha l_ce hce)) (by decide) rfl ?_
                    refine E_if (t := 43) (b := false) at_X6_item_22 rfl (by decide) ?_
                    refine E_aload_n at_X6_item_25 rfl ?_
                    refine E_getfield (v := .int (nI (qM q))) at_X6_item_26 w65 rfl (by decide) rfl ?_
                    refine E_bipush (x := nI 6) at_X6_item_29 (by decide) ?_
                    refine E_ic (t := 43) (b := true) at_X6_item_31 rfl ((cn_ne (nI_toInt (by omega)) (nI_toInt (by omega))).trans (decide_eq_true (by omega))) ?_
                    refine E_aload_n at_X6_item_43 rfl ?_
                    refine E_callV (v := some (.int (nI 1))) (As := [.ref 65]) (r0 := []) (cs2 := (ww im lf s d k ls rf rz ra rn rq lt m1 m2 m3 m4 bd fc hd sz el q (fUp (fUp (fUp (fUp (fUp (fUp g 27 (nI (160 * j))) 29 (nI n)) 6 (-1)) 28 (nI (a + 7))) 30 x30) 31 x31) fm hm so si sh ce ca td wa kp la bf oo bo pw ow tr)) at_X6_item_44 rfl rfl (Nat.le_of_ble_eq_true rfl) rfl (ab_rvOf w65 rfl) (m_wd1b hj hn ha l_ce hce hw hb0) (by decide) w_lens ?_
                    refine E_istore_n (L2 := [some (.ref 65), some (.int (nI 1)), none, none]) at_X6_item_47 rfl ?_
                    refine E_iload_n at_X6_item_48 rfl ?_
                    refine E_iconst (x := (-1)) at_X6_item_49 (by decide) ?_
                    refine E_ic (t := 55) (b := true) at_X6_item_50 rfl (by decide) ?_
                    refine E_iconst (x := nI 0) at_X6_item_55 (by decide) ?_
                    refine E_istore_n (L2 := [some (.ref 65), some (.int (nI 1)), some (.int (nI 0)), none]) at_X6_item_56 rfl ?_
                    refine mc10 hj hn (a := a + 6) (by omega) Iq l_td l_ce hce hb0 hd0 (show 0 ≤ nuV e n (a + 7) from by omega) (show nuV e n (a + 7) < 100 from by omega) ?_
                    refine mc11 hj hn (a := cnE e n (a + 6)) (by omega) Iq (by simp only [List.length_set]; exact l_td) l_ce hce hb1 hd1 (show 0 ≤ nuV e n (cnE e n (a + 6) + 1) from by omega) (show nuV e n (cnE e n (a + 6) + 1) < 10 from by omega) ?_
                    exact mb12 hj hn (a := cnE e n (cnE e n (a + 6))) (by omega) Iq (by simp only [List.length_set]; exact l_td) l_ce hce hb2 hd2
                  · rcases Nat.lt_or_ge (nuV e n (cnE e n (cnE e n (a + 6)) + 1)) (8) with hr2 | hr2
                    · have hz := mtc_n (e := e) (n := n) [112, 101, 114, 115, 111, 110] a ha
                      have hz_ : a + mj1 e n a ≤ n := hz
                      have hb0_ := (chB_t hb0).1
                      have hd0_ := (dgB_t hd0).1
                      have hV0 := nuV_99 hd0
                      have hc0 := cnE_n hd0
                      have hb1_ := (chB_t hb1).1
                      have hd1_ := (dgB_t hd1).1
                      have hV1 := nuV_99 hd1
                      have hc1 := cnE_n hd1
                      have hb2_ := (chB_t hb2).1
                      have hd2_ := (dgB_t hd2).1
                      have hV2 := nuV_99 hd2
                      have hc2 := cnE_n hd2
                      have : ([3, 3, 2, 2, 1, 0, 0] : List Nat).length = 7 := rfl
                      have : (((td.set 0 (nI (nuV e n (a + 7)))).set 1 (nI (nuV e n (cnE e n (a + 6) + 1)))).set 2 (nI (nuV e n (cnE e n (cnE e n (a + 6)) + 1)))).length = 3 := by first | omega | (simp only [List.length_set]; omega)
                      have : (qU q).length = 6 := by first | omega | (simp only [List.length_set]; omega)
                      have : (qL q).length = 6 := by first | omega | (simp only [List.length_set]; omega)
                      have : (qW q).length = 6 := by first | omega | (simp only [List.length_set]; omega)
                      have : (qG q).length = 6 := by first | omega | (simp only [List.length_set]; omega)
                      have hF0 : nuF e n (a + 6) 0 100 = 0 := nuF_C hb0 hd0 (show ¬ (nuV e n (a + 7) < 0 ∨ 100 ≤ nuV e n (a + 7)) from by omega)
                      have hF1 : nuF e n (cnE e n (a + 6)) 0 10 = 0 := nuF_C hb1 hd1 (show ¬ (nuV e n (cnE e n (a + 6) + 1) < 0 ∨ 10 ≤ nuV e n (cnE e n (a + 6) + 1)) from by omega)
                      have hF2 : nuF e n (cnE e n (cnE e n (a + 6))) 0 8 = 0 := nuF_C hb2 hd2 (show ¬ (nuV e n (cnE e n (cnE e n (a + 6)) + 1) < 0 ∨ 8 ≤ nuV e n (cnE e n (cnE e n (a + 6)) + 1)) from by omega)
                      have hI : itF e n q a = 0 := (it_1 (q := q) hw).1.trans (by rw [if_neg (by omega)]; unfold s3F; rw [if_pos hF0]; unfold s2F; rw [if_pos hF1]; exact hF2)
                      have hE : itA e n a = cnE e n (cnE e n (cnE e n (a + 6))) := (it_1 (q := q) hw).2.2
                      refine ⟨(qs_M (qs_G (qs_W (qs_L (qs_U q ((qU q).set (qM q) (nuV e n (a + 7)))) ((qL q).set (qM q) (nuV e n (cnE e n (a + 6) + 1)))) ((qW q).set (qM q) (nuV e n (cnE e n (cnE e n (a + 6)) + 1)))) ((qG q).set (qM q) (nI 0))) ((qM q) + 1)), nI (cnE e n (cnE e n (cnE e n (a + 6)))), nI (nuV e n (cnE e n (cnE e n (a + 6)) + 1)), x31, (((td.set 0 (nI (nuV e n (a + 7)))).set 1 (nI (nuV e n (cnE e n (a + 6) + 1)))).set 2 (nI (nuV e n (cnE e n (cnE e n (a + 6)) + 1)))), nI 1, ?_, (by simp only [List.length_set]; exact l_td), Or.inl ⟨hI, (it_1 (q := q) hw).2.1.symm, by rw [hE], rfl, by omega, by omega, (qI_addM Iq (by omega) (by omega) (by omega) (by omega))⟩⟩
                      refine Ef.in (md := mX6_item) (L := [some (.ref 65), none, none, none]) rfl (Nat.le_of_ble_eq_true rfl) rfl ?_
                      refine E_aload_n at_X6_item_0 rfl ?_
                      refine E_iconst (x := nI 0) at_X6_item_1 (by decide) ?_
                      refine E_callV (v := some (.int (nI 0))) (As := [.ref 65, .int (nI 0)]) (r0 := []) (cs2 := (ww im lf s d k ls rf rz ra rn rq lt m1 m2 m3 m4 bd fc hd sz el q (fUp (fUp (fUp (fUp (fUp (fUp g 27 (nI (160 * j))) 29 (nI n)) 6 (-1)) 28 (nI a)) 30 x30) 31 x31) fm hm so si sh ce ca td wa kp la bf oo bo pw ow tr)) at_X6_item_2 rfl rfl (Nat.le_of_ble_eq_true rfl) rfl (ab_rvOf w65 rfl) (Ev.vi (congrArg nI (if_neg (by omega))) (m_sd0 hj hn ha l_ce hce)) (by decide) rfl ?_
                      refine E_if (t := 17) (b := true) at_X6_item_5 rfl (by decide) ?_
                      refine E_aload_n at_X6_item_17 rfl ?_
                      refine E_iconst (x := nI 1) at_X6_item_18 (by decide) ?_
                      refine E_callV (v := some (.int (nI 1))) (As := [.ref 65, .int (nI 1)]) (r0 := []) (cs2 := (ww im lf s d k ls rf rz ra rn rq lt m1 m2 m3 m4 bd fc hd sz el q (fUp (fUp (fUp (fUp (fUp (fUp g 27 (nI (160 * j))) 29 (nI n)) 6 (-1)) 28 (nI a)) 30 x30) 31 x31) fm hm so si sh ce ca td wa kp la bf oo bo pw ow tr)) at_X6_item_19 rfl rfl (Nat.le_of_ble_eq_true rfl) rfl (ab_rvOf w65 rfl) (Ev.vi (congrArg nI (if_pos (by omega))) (m_sd1 hj hn ha l_ce hce)) (by decide) rfl ?_
                      refine E_if (t := 43) (b := false) at_X6_item_22 rfl (by decide) ?_
                      refine E_aload_n at_X6_item_25 rfl ?_
                      refine E_getfield (v := .int (nI (qM q))) at_X6_item_26 w65 rfl (by decide) rfl ?_
                      refine E_bipush (x := nI 6) at_X6_item_29 (by decide) ?_
                      refine E_ic (t := 43) (b := true) at_X6_item_31 rfl ((cn_ne (nI_toInt (by omega)) (nI_toInt (by omega))).trans (decide_eq_true (by omega))) ?_
                      refine E_aload_n at_X6_item_43 rfl ?_
                      refine E_callV (v := some (.int (nI 1))) (As := [.ref 65]) (r0 := []) (cs2 := (ww im lf s d k ls rf rz ra rn rq lt m1 m2 m3 m4 bd fc hd sz el q (fUp (fUp (fUp (fUp (fUp (fUp g 27 (nI (160 * j))) 29 (nI n)) 6 (-1)) 28 (nI (a + 7))) 30 x30) 31 x31) fm hm so si sh ce ca td wa kp la bf oo bo pw ow tr)) at_X6_item_44 rfl rfl (Nat.le_of_ble_eq_true rfl) rfl (ab_rvOf w65 rfl) (m_wd1b hj hn ha l_ce hce hw hb0) (by decide) w_lens ?_
                      refine E_istore_n (L2 := [some (.ref 65), some (.int (nI 1)), none, none]) at_X6_item_47 rfl ?_
                      refine E_iload_n at_X6_item_48 rfl ?_
                      refine E_iconst (x := (-1)) at_X6_item_49 (by decide) ?_
                      refine E_ic (t := 55) (b := true) at_X6_item_50 rfl (by decide) ?_
                      refine E_iconst (x := nI 0) at_X6_item_55 (by decide) ?_
                      refine E_istore_n (L2 := [some (.ref 65), some (.int (nI 1)), some (.int (nI 0)), none]) at_X6_item_56 rfl ?_
                      refine mc10 hj hn (a := a + 6) (by omega) Iq l_td l_ce hce hb0 hd0 (show 0 ≤ nuV e n (a + 7) from by omega) (show nuV e n (a + 7) < 100 from by omega) ?_
                      refine mc11 hj hn (a := cnE e n (a + 6)) (by omega) Iq (by simp only [List.length_set]; exact l_td) l_ce hce hb1 hd1 (show 0 ≤ nuV e n (cnE e n (a + 6) + 1) from by omega) (show nuV e n (cnE e n (a + 6) + 1) < 10 from by omega) ?_
                      refine mc12 hj hn (a := cnE e n (cnE e n (a + 6))) (by omega) Iq (by simp only [List.length_set]; exact l_td) l_ce hce hb2 hd2 (show 0 ≤ nuV e n (cnE e n (cnE e n (a + 6)) + 1) from by omega) (show nuV e n (cnE e n (cnE e n (a + 6)) + 1) < 8 from by omega) ?_
                      refine E_iload_n rfl rfl ?_
                      refine E_aload_n rfl rfl ?_
                      refine E_getfield (v := .ref 83) rfl w65 rfl (by decide) rfl ?_
                      refine E_iload_n rfl rfl ?_
                      refine E_ialN (l := [3, 3, 2, 2, 1, 0, 0]) (v := 3) rfl w83 (by omega) (by omega) rfl ?_
                      refine E_ic (t := 166) (b := true) rfl rfl (by decide) ?_
                      refine E_iload_n rfl rfl ?_
                      refine E_tsIn (off := 59) (t := 226) rfl (by decide) rfl rfl ?_
                      refine E_aload_n rfl rfl ?_
                      refine E_aload_n rfl rfl ?_
                      refine E_getfield (v := .ref 85) rfl w65 rfl (by decide) rfl ?_
                      refine E_iconst (x := nI 0) rfl (by decide) ?_
                      refine E_ialI (l := (((td.set 0 (nI (nuV e n (a + 7)))).set 1 (nI (nuV e n (cnE e n (a + 6) + 1)))).set 2 (nI (nuV e n (cnE e n (cnE e n (a + 6)) + 1))))) (v := nI (nuV e n (a + 7))) rfl w85 (by omega) (by omega) ((ab_gs1 (by decide)).trans ((ab_gs1 (by decide)).trans (ab_gs2 (by first | omega | (simp only [List.length_set]; omega))))) ?_
                      refine E_aload_n rfl rfl ?_
                      refine E_getfield (v := .ref 85) rfl w65 rfl (by decide) rfl ?_
                      refine E_iconst (x := nI 1) rfl (by decide) ?_
                      refine E_ialI (l := (((td.set 0 (nI (nuV e n (a + 7)))).set 1 (nI (nuV e n (cnE e n (a + 6) + 1)))).set 2 (nI (nuV e n (cnE e n (cnE e n (a + 6)) + 1))))) (v := nI (nuV e n (cnE e n (a + 6) + 1))) rfl w85 (by omega) (by omega) ((ab_gs1 (by decide)).trans (ab_gs2 (by first | omega | (simp only [List.length_set]; omega)))) ?_
                      refine E_aload_n rfl rfl ?_
                      refine E_getfield (v := .ref 85) rfl w65 rfl (by decide) rfl ?_
                      refine E_iconst (x := nI 2) rfl (by decide) ?_
                      refine E_ialI (l := (((td.set 0 (nI (nuV e n (a + 7)))).set 1 (nI (nuV e n (cnE e n (a + 6) + 1)))).set 2 (nI (nuV e n (cnE e n (cnE e n (a + 6)) + 1))))) (v := nI (nuV e n (cnE e n (cnE e n (a + 6)) + 1))) rfl w85 (by omega) (by omega) (ab_gs2 (by first | omega | (simp only [List.length_set]; omega))) ?_
                      have e1 : Ev ab_Z0 1 147 [.ref 65, .int (nI (nuV e n (a + 7))), .int (nI (nuV e n (cnE e n (a + 6) + 1))), .int (nI (nuV e n (cnE e n (cnE e n (a + 6)) + 1)))] (ww im lf s d k ls rf rz ra rn rq lt m1 m2 m3 m4 bd fc hd sz el q (fUp (fUp (fUp (fUp (fUp (fUp g 27 (nI (160 * j))) 29 (nI n)) 6 (-1)) 28 (nI (cnE e n (cnE e n (cnE e n (a + 6)))))) 30 (nI (nuV e n (cnE e n (cnE e n (a + 6)) + 1)))) 31 x31) fm hm so si sh ce ca (((td.set 0 (nI (nuV e n (a + 7)))).set 1 (nI (nuV e n (cnE e n (a + 6) + 1)))).set 2 (nI (nuV e n (cnE e n (cnE e n (a + 6)) + 1)))) wa kp la bf oo bo pw ow tr) (some (.int (nI (qM q))), (ww im lf s d k ls rf rz ra rn rq lt m1 m2 m3 m4 bd fc hd sz el (qs_M (qs_G (qs_W (qs_L (qs_U q ((qU q).set (qM q) (nuV e n (a + 7)))) ((qL q).set (qM q) (nuV e n (cnE e n (a + 6) + 1)))) ((qW q).set (qM q) (nuV e n (cnE e n (cnE e n (a + 6)) + 1)))) ((qG q).set (qM q) (nI 0))) ((qM q) + 1)) (fUp (fUp (fUp (fUp (fUp (fUp g 27 (nI (160 * j))) 29 (nI n)) 6 (-1)) 28 (nI (cnE e n (cnE e n (cnE e n (a + 6)))))) 30 (nI (nuV e n (cnE e n (cnE e n (a + 6)) + 1)))) 31 x31) fm hm so si sh ce ca (((td.set 0 (nI (nuV e n (a + 7)))).set 1 (nI (nuV e n (cnE e n (a + 6) + 1)))).set 2 (nI (nuV e n (cnE e n (cnE e n (a + 6)) + 1)))) wa kp la bf oo bo pw ow tr)) := by
                        refine Ef.in (md := mX6_addsPerson) (L := [some (.ref 65), some (.int (nI (nuV e n (a + 7)))), some (.int (nI (nuV e n (cnE e n (a + 6) + 1)))), some (.int (nI (nuV e n (cnE e n (cnE e n (a + 6)) + 1))))]) rfl (Nat.le_of_ble_eq_true rfl) rfl ?_
                        refine E_aload_n rfl rfl ?_
                        refine E_getfield (v := .ref 71) rfl w65 rfl (by decide) rfl ?_
                        refine E_aload_n rfl rfl ?_
                        refine E_getfield (v := .int (nI (qM q))) rfl w65 rfl (by decide) rfl ?_
                        refine E_iload_n rfl rfl ?_
                        refine E_iasN (l := qU q) (cs2 := (ww im lf s d k ls rf rz ra rn rq lt m1 m2 m3 m4 bd fc hd sz el (qs_U q ((qU q).set (qM q) (nuV e n (a + 7)))) (fUp (fUp (fUp (fUp (fUp (fUp g 27 (nI (160 * j))) 29 (nI n)) 6 (-1)) 28 (nI (cnE e n (cnE e n (cnE e n (a + 6)))))) 30 (nI (nuV e n (cnE e n (cnE e n (a + 6)) + 1)))) 31 x31) fm hm so si sh ce ca (((td.set 0 (nI (nuV e n (a + 7)))).set 1 (nI (nuV e n (cnE e n (a + 6) + 1)))).set 2 (nI (nuV e n (cnE e n (cnE e n (a + 6)) + 1)))) wa kp la bf oo bo pw ow tr)) rfl w71 (by omega) (by omega) w_pt65_U ?_
                        refine E_aload_n rfl rfl ?_
                        refine E_getfield (v := .ref 72) rfl w65 rfl (by decide) rfl ?_
                        refine E_aload_n rfl rfl ?_
                        refine E_getfield (v := .int (nI (qM q))) rfl w65 rfl (by decide) (congrArg (fun z => some (Value.int (nI z))) qg_MU) ?_
                        refine E_iload_n rfl rfl ?_
                        refine E_iasN (l := qL q) (cs2 := (ww im lf s d k ls rf rz ra rn rq lt m1 m2 m3 m4 bd fc hd sz el (qs_L (qs_U q ((qU q).set (qM q) (nuV e n (a + 7)))) ((qL q).set (qM q) (nuV e n (cnE e n (a + 6) + 1)))) (fUp (fUp (fUp (fUp (fUp (fUp g 27 (nI (160 * j))) 29 (nI n)) 6 (-1)) 28 (nI (cnE e n (cnE e n (cnE e n (a + 6)))))) 30 (nI (nuV e n (cnE e n (cnE e n (a + 6)) + 1)))) 31 x31) fm hm so si sh ce ca (((td.set 0 (nI (nuV e n (a + 7)))).set 1 (nI (nuV e n (cnE e n (a + 6) + 1)))).set 2 (nI (nuV e n (cnE e n (cnE e n (a + 6)) + 1)))) wa kp la bf oo bo pw ow tr)) rfl (w72v qg_LU) (by omega) (by omega) w_pt65_L ?_
                        refine E_aload_n rfl rfl ?_
                        refine E_getfield (v := .ref 73) rfl w65 rfl (by decide) rfl ?_
                        refine E_aload_n rfl rfl ?_
                        refine E_getfield (v := .int (nI (qM q))) rfl w65 rfl (by decide) (congrArg (fun z => some (Value.int (nI z))) (qg_ML.trans qg_MU)) ?_
                        refine E_iload_n rfl rfl ?_
                        refine E_iasN (l := qW q) (cs2 := (ww im lf s d k ls rf rz ra rn rq lt m1 m2 m3 m4 bd fc hd sz el (qs_W (qs_L (qs_U q ((qU q).set (qM q) (nuV e n (a + 7)))) ((qL q).set (qM q) (nuV e n (cnE e n (a + 6) + 1)))) ((qW q).set (qM q) (nuV e n (cnE e n (cnE e n (a + 6)) + 1)))) (fUp (fUp (fUp (fUp (fUp (fUp g 27 (nI (160 * j))) 29 (nI n)) 6 (-1)) 28 (nI (cnE e n (cnE e n (cnE e n (a + 6)))))) 30 (nI (nuV e n (cnE e n (cnE e n (a + 6)) + 1)))) 31 x31) fm hm so si sh ce ca (((td.set 0 (nI (nuV e n (a + 7)))).set 1 (nI (nuV e n (cnE e n (a + 6) + 1)))).set 2 (nI (nuV e n (cnE e n (cnE e n (a + 6)) + 1)))) wa kp la bf oo bo pw ow tr)) rfl (w73v (qg_WL.trans qg_WU)) (by omega) (by omega) w_pt65_W ?_
                        refine E_aload_n rfl rfl ?_
                        refine E_getfield (v := .ref 74) rfl w65 rfl (by decide) rfl ?_
                        refine E_aload_n rfl rfl ?_
                        refine E_getfield (v := .int (nI (qM q))) rfl w65 rfl (by decide) (congrArg (fun z => some (Value.int (nI z))) (qg_MW.trans (qg_ML.trans qg_MU))) ?_
                        refine E_iconst (x := nI 0) rfl (by decide) ?_
                        refine E_iasI (l := qG q) (cs2 := (ww im lf s d k ls rf rz ra rn rq lt m1 m2 m3 m4 bd fc hd sz el (qs_G (qs_W (qs_L (qs_U q ((qU q).set (qM q) (nuV e n (a + 7)))) ((qL q).set (qM q) (nuV e n (cnE e n (a + 6) + 1)))) ((qW q).set (qM q) (nuV e n (cnE e n (cnE e n (a + 6)) + 1)))) ((qG q).set (qM q) (nI 0))) (fUp (fUp (fUp (fUp (fUp (fUp g 27 (nI (160 * j))) 29 (nI n)) 6 (-1)) 28 (nI (cnE e n (cnE e n (cnE e n (a + 6)))))) 30 (nI (nuV e n (cnE e n (cnE e n (a + 6)) + 1)))) 31 x31) fm hm so si sh ce ca (((td.set 0 (nI (nuV e n (a + 7)))).set 1 (nI (nuV e n (cnE e n (a + 6) + 1)))).set 2 (nI (nuV e n (cnE e n (cnE e n (a + 6)) + 1)))) wa kp la bf oo bo pw ow tr)) rfl (w74v (qg_GW.trans (qg_GL.trans qg_GU))) (by omega) (by omega) w_pt65_G ?_
                        refine E_aload_n rfl rfl ?_
                        refine E_dup rfl rfl ?_
                        refine E_getfield (v := .int (nI (qM q))) rfl w65 rfl (by decide) (congrArg (fun z => some (Value.int (nI z))) (qg_MG.trans (qg_MW.trans (qg_ML.trans qg_MU)))) ?_
                        refine E_dup_x1 rfl ⟨rfl, rfl⟩ ?_
                        refine E_iconst (x := nI 1) rfl (by decide) ?_
                        refine E_iadd (z := nI ((qM q) + 1)) rfl (nI_add _ _) ?_
                        refine E_putfield (cs2 := (ww im lf s d k ls rf rz ra rn rq lt m1 m2 m3 m4 bd fc hd sz el (qs_M (qs_G (qs_W (qs_L (qs_U q ((qU q).set (qM q) (nuV e n (a + 7)))) ((qL q).set (qM q) (nuV e n (cnE e n (a + 6) + 1)))) ((qW q).set (qM q) (nuV e n (cnE e n (cnE e n (a + 6)) + 1)))) ((qG q).set (qM q) (nI 0))) ((qM q) + 1)) (fUp (fUp (fUp (fUp (fUp (fUp g 27 (nI (160 * j))) 29 (nI n)) 6 (-1)) 28 (nI (cnE e n (cnE e n (cnE e n (a + 6)))))) 30 (nI (nuV e n (cnE e n (cnE e n (a + 6)) + 1)))) 31 x31) fm hm so si sh ce ca (((td.set 0 (nI (nuV e n (a + 7)))).set 1 (nI (nuV e n (cnE e n (a + 6) + 1)))).set 2 (nI (nuV e n (cnE e n (cnE e n (a + 6)) + 1)))) wa kp la bf oo bo pw ow tr)) rfl w65 rfl (by decide) (Nat.le_of_ble_eq_true rfl) rfl rfl rfl w_pt65_M ?_
                        exact E_iret rfl rfl
                      refine E_callV (v := some (.int (nI (qM q)))) (As := [.ref 65, .int (nI (nuV e n (a + 7))), .int (nI (nuV e n (cnE e n (a + 6) + 1))), .int (nI (nuV e n (cnE e n (cnE e n (a + 6)) + 1)))]) (r0 := []) (cs2 := (ww im lf s d k ls rf rz ra rn rq lt m1 m2 m3 m4 bd fc hd sz el (qs_M (qs_G (qs_W (qs_L (qs_U q ((qU q).set (qM q) (nuV e n (a + 7)))) ((qL q).set (qM q) (nuV e n (cnE e n (a + 6) + 1)))) ((qW q).set (qM q) (nuV e n (cnE e n (cnE e n (a + 6)) + 1)))) ((qG q).set (qM q) (nI 0))) ((qM q) + 1)) (fUp (fUp (fUp (fUp (fUp (fUp g 27 (nI (160 * j))) 29 (nI n)) 6 (-1)) 28 (nI (cnE e n (cnE e n (cnE e n (a + 6)))))) 30 (nI (nuV e n (cnE e n (cnE e n (a + 6)) + 1)))) 31 x31) fm hm so si sh ce ca (((td.set 0 (nI (nuV e n (a + 7)))).set 1 (nI (nuV e n (cnE e n (a + 6) + 1)))).set 2 (nI (nuV e n (cnE e n (cnE e n (a + 6)) + 1)))) wa kp la bf oo bo pw ow tr)) rfl rfl rfl (Nat.le_of_ble_eq_true rfl) rfl (ab_rvOf w65 rfl) e1 (by decide) w_lens ?_
                      refine E_pop rfl rfl ?_
                      refine E_goto (t := 316) rfl rfl ?_
                      refine E_iconst (x := nI 1) rfl (by decide) ?_
                      exact E_iret rfl rfl
                    · have hz := mtc_n (e := e) (n := n) [112, 101, 114, 115, 111, 110] a ha
                      have hz_ : a + mj1 e n a ≤ n := hz
                      have hb0_ := (chB_t hb0).1
                      have hd0_ := (dgB_t hd0).1
                      have hV0 := nuV_99 hd0
                      have hc0 := cnE_n hd0
                      have hb1_ := (chB_t hb1).1
                      have hd1_ := (dgB_t hd1).1
                      have hV1 := nuV_99 hd1
                      have hc1 := cnE_n hd1
                      have hb2_ := (chB_t hb2).1
                      have hd2_ := (dgB_t hd2).1
                      have hV2 := nuV_99 hd2
                      have hF0 : nuF e n (a + 6) 0 100 = 0 := nuF_C hb0 hd0 (show ¬ (nuV e n (a + 7) < 0 ∨ 100 ≤ nuV e n (a + 7)) from by omega)
                      have hF1 : nuF e n (cnE e n (a + 6)) 0 10 = 0 := nuF_C hb1 hd1 (show ¬ (nuV e n (cnE e n (a + 6) + 1) < 0 ∨ 10 ≤ nuV e n (cnE e n (a + 6) + 1)) from by omega)
                      have hF2 : nuF e n (cnE e n (cnE e n (a + 6))) 0 8 = cnE e n (cnE e n (a + 6)) + 2 := nuF_D hb2 hd2 (show nuV e n (cnE e n (cnE e n (a + 6)) + 1) < 0 ∨ 8 ≤ nuV e n (cnE e n (cnE e n (a + 6)) + 1) from by omega)
                      have hI : itF e n q a = cnE e n (cnE e n (a + 6)) + 2 := (it_1 (q := q) hw).1.trans (by rw [if_neg (by omega)]; unfold s3F; rw [if_pos hF0]; unfold s2F; rw [if_pos hF1]; exact hF2)
                      refine ⟨q, nI (cnE e n (cnE e n (cnE e n (a + 6)))), nI (nuV e n (cnE e n (cnE e n (a + 6)) + 1)), nI (cnE e n (cnE e n (a + 6)) + 1), ((td.set 0 (nI (nuV e n (a + 7)))).set 1 (nI (nuV e n (cnE e n (a + 6) + 1)))), nI 0, ?_, (by simp only [List.length_set]; exact l_td), Or.inr ⟨cnE e n (cnE e n (a + 6)) + 1, by omega, rfl, rfl, rfl⟩⟩
                      refine Ef.in (md := mX6_item) (L := [some (.ref 65), none, none, none]) rfl (Nat.le_of_ble_eq_true rfl) rfl ?_
                      refine E_aload_n at_X6_item_0 rfl ?_
                      refine E_iconst (x := nI 0) at_X6_item_1 (by decide) ?_
                      refine E_callV (v := some (.int (nI 0))) (As := [.ref 65, .int (nI 0)]) (r0 := []) (cs2 := (ww im lf s d k ls rf rz ra rn rq lt m1 m2 m3 m4 bd fc hd sz el q (fUp (fUp (fUp (fUp (fUp (fUp g 27 (nI (160 * j))) 29 (nI n)) 6 (-1)) 28 (nI a)) 30 x30) 31 x31) fm hm so si sh ce ca td wa kp la bf oo bo pw ow tr)) at_X6_item_2 rfl rfl (Nat.le_of_ble_eq_true rfl) rfl (ab_rvOf w65 rfl) (Ev.vi (congrArg nI (if_neg (by omega))) (m_sd0 hj hn ha l_ce hce)) (by decide) rfl ?_
                      refine E_if (t := 17) (b := true) at_X6_item_5 rfl (by decide) ?_
                      refine E_aload_n at_X6_item_17 rfl ?_
                      refine E_iconst (x := nI 1) at_X6_item_18 (by decide) ?_
                      refine E_callV (v := some (.int (nI 1))) (As := [.ref 65, .int (nI 1)]) (r0 := []) (cs2 := (ww im lf s d k ls rf rz ra rn rq lt m1 m2 m3 m4 bd fc hd sz el q (fUp (fUp (fUp (fUp (fUp (fUp g 27 (nI (160 * j))) 29 (nI n)) 6 (-1)) 28 (nI a)) 30 x30) 31 x31) fm hm so si sh ce ca td wa kp la bf oo bo pw ow tr)) at_X6_item_19 rfl rfl (Nat.le_of_ble_eq_true rfl) rfl (ab_rvOf w65 rfl) (Ev.vi (congrArg nI (if_pos (by omega))) (m_sd1 hj hn ha l_ce hce)) (by decide) rfl ?_
                      refine E_if (t := 43) (b := false) at_X6_item_22 rfl (by decide) ?_
                      refine E_aload_n at_X6_item_25 rfl ?_
                      refine E_getfield (v := .int (nI (qM q))) at_X6_item_26 w65 rfl (by decide) rfl ?_
                      refine E_bipush (x := nI 6) at_X6_item_29 (by decide) ?_
                      refine E_ic (t := 43) (b := true) at_X6_item_31 rfl ((cn_ne (nI_toInt (by omega)) (nI_toInt (by omega))).trans (decide_eq_true (by omega))) ?_
                      refine E_aload_n at_X6_item_43 rfl ?_
                      refine E_callV (v := some (.int (nI 1))) (As := [.ref 65]) (r0 := []) (cs2 := (ww im lf s d k ls rf rz ra rn rq lt m1 m2 m3 m4 bd fc hd sz el q (fUp (fUp (fUp (fUp (fUp (fUp g 27 (nI (160 * j))) 29 (nI n)) 6 (-1)) 28 (nI (a + 7))) 30 x30) 31 x31) fm hm so si sh ce ca td wa kp la bf oo bo pw ow tr)) at_X6_item_44 rfl rfl (Nat.le_of_ble_eq_true rfl) rfl (ab_rvOf w65 rfl) (m_wd1b hj hn ha l_ce hce hw hb0) (by decide) w_lens ?_
                      refine E_istore_n (L2 := [some (.ref 65), some (.int (nI 1)), none, none]) at_X6_item_47 rfl ?_
                      refine E_iload_n at_X6_item_48 rfl ?_
                      refine E_iconst (x := (-1)) at_X6_item_49 (by decide) ?_
                      refine E_ic (t := 55) (b := true) at_X6_item_50 rfl (by decide) ?_
                      refine E_iconst (x := nI 0) at_X6_item_55 (by decide) ?_
                      refine E_istore_n (L2 := [some (.ref 65), some (.int (nI 1)), some (.int (nI 0)), none]) at_X6_item_56 rfl ?_
                      refine mc10 hj hn (a := a + 6) (by omega) Iq l_td l_ce hce hb0 hd0 (show 0 ≤ nuV e n (a + 7) from by omega) (show nuV e n (a + 7) < 100 from by omega) ?_
                      refine mc11 hj hn (a := cnE e n (a + 6)) (by omega) Iq (by simp only [List.length_set]; exact l_td) l_ce hce hb1 hd1 (show 0 ≤ nuV e n (cnE e n (a + 6) + 1) from by omega) (show nuV e n (cnE e n (a + 6) + 1) < 10 from by omega) ?_
                      exact md120 hj hn (a := cnE e n (cnE e n (a + 6))) (by omega) Iq (by simp only [List.length_set]; exact l_td) l_ce hce hb2 hd2 (show 8 ≤ nuV e n (cnE e n (cnE e n (a + 6)) + 1) from by omega)
              · have hz := mtc_n (e := e) (n := n) [112, 101, 114, 115, 111, 110] a ha
                have hz_ : a + mj1 e n a ≤ n := hz
                have hb0_ := (chB_t hb0).1
                have hd0_ := (dgB_t hd0).1
                have hV0 := nuV_99 hd0
                have hc0 := cnE_n hd0
                have hb1_ := (chB_t hb1).1
                have hd1_ := (dgB_t hd1).1
                have hV1 := nuV_99 hd1
                have hF0 : nuF e n (a + 6) 0 100 = 0 := nuF_C hb0 hd0 (show ¬ (nuV e n (a + 7) < 0 ∨ 100 ≤ nuV e n (a + 7)) from by omega)
                have hF1 : nuF e n (cnE e n (a + 6)) 0 10 = cnE e n (a + 6) + 2 := nuF_D hb1 hd1 (show nuV e n (cnE e n (a + 6) + 1) < 0 ∨ 10 ≤ nuV e n (cnE e n (a + 6) + 1) from by omega)
                have hI : itF e n q a = cnE e n (a + 6) + 2 := (it_1 (q := q) hw).1.trans (by rw [if_neg (by omega)]; unfold s3F; rw [if_pos hF0]; unfold s2F; rw [if_neg (by omega)]; exact hF1)
                refine ⟨q, nI (cnE e n (cnE e n (a + 6))), nI (nuV e n (cnE e n (a + 6) + 1)), nI (cnE e n (a + 6) + 1), (td.set 0 (nI (nuV e n (a + 7)))), nI 0, ?_, (by simp only [List.length_set]; exact l_td), Or.inr ⟨cnE e n (a + 6) + 1, by omega, rfl, rfl, rfl⟩⟩
                refine Ef.in (md := mX6_item) (L := [some (.ref 65), none, none, none]) rfl (Nat.le_of_ble_eq_true rfl) rfl ?_
                refine E_aload_n at_X6_item_0 rfl ?_
                refine E_iconst (x := nI 0) at_X6_item_1 (by decide) ?_
                refine E_callV (v := some (.int (nI 0))) (As := [.ref 65, .int (nI 0)]) (r0 := []) (cs2 := (ww im lf s d k ls rf rz ra rn rq lt m1 m2 m3 m4 bd fc hd sz el q (fUp (fUp (fUp (fUp (fUp (fUp g 27 (nI (160 * j))) 29 (nI n)) 6 (-1)) 28 (nI a)) 30 x30) 31 x31) fm hm so si sh ce ca td wa kp la bf oo bo pw ow tr)) at_X6_item_2 rfl rfl (Nat.le_of_ble_eq_true rfl) rfl (ab_rvOf w65 rfl) (Ev.vi (congrArg nI (if_neg (by omega))) (m_sd0 hj hn ha l_ce hce)) (by decide) rfl ?_
                refine E_if (t := 17) (b := true) at_X6_item_5 rfl (by decide) ?_
                refine E_aload_n at_X6_item_17 rfl ?_
                refine E_iconst (x := nI 1) at_X6_item_18 (by decide) ?_
                refine E_callV (v := some (.int (nI 1))) (As := [.ref 65, .int (nI 1)]) (r0 := []) (cs2 := (ww im lf s d k ls rf rz ra rn rq lt m1 m2 m3 m4 bd fc hd sz el q (fUp (fUp (fUp (fUp (fUp (fUp g 27 (nI (160 * j))) 29 (nI n)) 6 (-1)) 28 (nI a)) 30 x30) 31 x31) fm hm so si sh ce ca td wa kp la bf oo bo pw ow tr)) at_X6_item_19 rfl rfl (Nat.le_of_ble_eq_true rfl) rfl (ab_rvOf w65 rfl) (Ev.vi (congrArg nI (if_pos (by omega))) (m_sd1 hj hn ha l_ce hce)) (by decide) rfl ?_
                refine E_if (t := 43) (b := false) at_X6_item_22 rfl (by decide) ?_
                refine E_aload_n at_X6_item_25 rfl ?_
                refine E_getfield (v := .int (nI (qM q))) at_X6_item_26 w65 rfl (by decide) rfl ?_
                refine E_bipush (x := nI 6) at_X6_item_29 (by decide) ?_
                refine E_ic (t := 43) (b := true) at_X6_item_31 rfl ((cn_ne (nI_toInt (by omega)) (nI_toInt (by omega))).trans (decide_eq_true (by omega))) ?_
                refine E_aload_n at_X6_item_43 rfl ?_
                refine E_callV (v := some (.int (nI 1))) (As := [.ref 65]) (r0 := []) (cs2 := (ww im lf s d k ls rf rz ra rn rq lt m1 m2 m3 m4 bd fc hd sz el q (fUp (fUp (fUp (fUp (fUp (fUp g 27 (nI (160 * j))) 29 (nI n)) 6 (-1)) 28 (nI (a + 7))) 30 x30) 31 x31) fm hm so si sh ce ca td wa kp la bf oo bo pw ow tr)) at_X6_item_44 rfl rfl (Nat.le_of_ble_eq_true rfl) rfl (ab_rvOf w65 rfl) (m_wd1b hj hn ha l_ce hce hw hb0) (by decide) w_lens ?_
                refine E_istore_n (L2 := [some (.ref 65), some (.int (nI 1)), none, none]) at_X6_item_47 rfl ?_
                refine E_iload_n at_X6_item_48 rfl ?_
                refine E_iconst (x := (-1)) at_X6_item_49 (by decide) ?_
                refine E_ic (t := 55) (b := true) at_X6_item_50 rfl (by decide) ?_
                refine E_iconst (x := nI 0) at_X6_item_55 (by decide) ?_
                refine E_istore_n (L2 := [some (.ref 65), some (.int (nI 1)), some (.int (nI 0)), none]) at_X6_item_56 rfl ?_
                refine mc10 hj hn (a := a + 6) (by omega) Iq l_td l_ce hce hb0 hd0 (show 0 ≤ nuV e n (a + 7) from by omega) (show nuV e n (a + 7) < 100 from by omega) ?_
                exact md110 hj hn (a := cnE e n (a + 6)) (by omega) Iq (by simp only [List.length_set]; exact l_td) l_ce hce hb1 hd1 (show 10 ≤ nuV e n (cnE e n (a + 6) + 1) from by omega)
  · rcases bo2 (chB e n (a + 4) 32) with hb0 | hb0
    · have hz := mtc_n (e := e) (n := n) [99, 111, 115, 116] a ha
      have hz_ : a + mj2 e n a ≤ n := hz
      have hF0 : nuF e n (a + 4) 0 8 = a + 4 + 1 := nuF_A hb0
      have hI : itF e n q a = a + 5 := (it_2 (q := q) hw).1.trans (by unfold s2F; rw [if_neg (by omega)]; exact hF0)
      refine ⟨q, nI a, x30, nI (a + 4), td, nI 0, ?_, l_td, Or.inr ⟨a + 4, by omega, rfl, rfl, rfl⟩⟩
      refine Ef.in (md := mX6_item) (L := [some (.ref 65), none, none, none]) rfl (Nat.le_of_ble_eq_true rfl) rfl ?_
      refine E_aload_n at_X6_item_0 rfl ?_
      refine E_iconst (x := nI 0) at_X6_item_1 (by decide) ?_
      refine E_callV (v := some (.int (nI 0))) (As := [.ref 65, .int (nI 0)]) (r0 := []) (cs2 := (ww im lf s d k ls rf rz ra rn rq lt m1 m2 m3 m4 bd fc hd sz el q (fUp (fUp (fUp (fUp (fUp (fUp g 27 (nI (160 * j))) 29 (nI n)) 6 (-1)) 28 (nI a)) 30 x30) 31 x31) fm hm so si sh ce ca td wa kp la bf oo bo pw ow tr)) at_X6_item_2 rfl rfl (Nat.le_of_ble_eq_true rfl) rfl (ab_rvOf w65 rfl) (Ev.vi (congrArg nI (if_neg (by omega))) (m_sd0 hj hn ha l_ce hce)) (by decide) rfl ?_
      refine E_if (t := 17) (b := true) at_X6_item_5 rfl (by decide) ?_
      refine E_aload_n at_X6_item_17 rfl ?_
      refine E_iconst (x := nI 1) at_X6_item_18 (by decide) ?_
      refine E_callV (v := some (.int (nI 0))) (As := [.ref 65, .int (nI 1)]) (r0 := []) (cs2 := (ww im lf s d k ls rf rz ra rn rq lt m1 m2 m3 m4 bd fc hd sz el q (fUp (fUp (fUp (fUp (fUp (fUp g 27 (nI (160 * j))) 29 (nI n)) 6 (-1)) 28 (nI a)) 30 x30) 31 x31) fm hm so si sh ce ca td wa kp la bf oo bo pw ow tr)) at_X6_item_19 rfl rfl (Nat.le_of_ble_eq_true rfl) rfl (ab_rvOf w65 rfl) (Ev.vi (congrArg nI (if_neg (by omega))) (m_sd1 hj hn ha l_ce hce)) (by decide) rfl ?_
      refine E_if (t := 43) (b := true) at_X6_item_22 rfl (by decide) ?_
      refine E_aload_n at_X6_item_43 rfl ?_
      refine E_callV (v := some (.int (-1))) (As := [.ref 65]) (r0 := []) (cs2 := (ww im lf s d k ls rf rz ra rn rq lt m1 m2 m3 m4 bd fc hd sz el q (fUp (fUp (fUp (fUp (fUp (fUp g 27 (nI (160 * j))) 29 (nI n)) 6 (-1)) 28 (nI a)) 30 x30) 31 (nI (a + 4))) fm hm so si sh ce ca td wa kp la bf oo bo pw ow tr)) at_X6_item_44 rfl rfl (Nat.le_of_ble_eq_true rfl) rfl (ab_rvOf w65 rfl) (m_wd2n hj hn ha l_ce hce hw hb0) (by decide) w_lens ?_
      refine E_istore_n (L2 := [some (.ref 65), some (.int (-1)), none, none]) at_X6_item_47 rfl ?_
      refine E_iload_n at_X6_item_48 rfl ?_
      refine E_iconst (x := (-1)) at_X6_item_49 (by decide) ?_
      refine E_ic (t := 55) (b := false) at_X6_item_50 rfl (by decide) ?_
      refine E_iconst (x := nI 0) at_X6_item_53 (by decide) ?_
      exact E_iret at_X6_item_54 rfl
    · rcases bo2 (dgB e n (a + 5)) with hd0 | hd0
      · have hz := mtc_n (e := e) (n := n) [99, 111, 115, 116] a ha
        have hz_ : a + mj2 e n a ≤ n := hz
        have hb0_ := (chB_t hb0).1
        have hF0 : nuF e n (a + 4) 0 8 = a + 4 + 2 := nuF_B hb0 hd0
        have hI : itF e n q a = a + 6 := (it_2 (q := q) hw).1.trans (by unfold s2F; rw [if_neg (by omega)]; exact hF0)
        refine ⟨q, nI (a + 5), nI 0, nI (a + 5), td, nI 0, ?_, l_td, Or.inr ⟨a + 5, by omega, rfl, rfl, rfl⟩⟩
        refine Ef.in (md := mX6_item) (L := [some (.ref 65), none, none, none]) rfl (Nat.le_of_ble_eq_true rfl) rfl ?_
        refine E_aload_n at_X6_item_0 rfl ?_
        refine E_iconst (x := nI 0) at_X6_item_1 (by decide) ?_
        refine E_callV (v := some (.int (nI 0))) (As := [.ref 65, .int (nI 0)]) (r0 := []) (cs2 := (ww im lf s d k ls rf rz ra rn rq lt m1 m2 m3 m4 bd fc hd sz el q (fUp (fUp (fUp (fUp (fUp (fUp g 27 (nI (160 * j))) 29 (nI n)) 6 (-1)) 28 (nI a)) 30 x30) 31 x31) fm hm so si sh ce ca td wa kp la bf oo bo pw ow tr)) at_X6_item_2 rfl rfl (Nat.le_of_ble_eq_true rfl) rfl (ab_rvOf w65 rfl) (Ev.vi (congrArg nI (if_neg (by omega))) (m_sd0 hj hn ha l_ce hce)) (by decide) rfl ?_
        refine E_if (t := 17) (b := true) at_X6_item_5 rfl (by decide) ?_
        refine E_aload_n at_X6_item_17 rfl ?_
        refine E_iconst (x := nI 1) at_X6_item_18 (by decide) ?_
        refine E_callV (v := some (.int (nI 0))) (As := [.ref 65, .int (nI 1)]) (r0 := []) (cs2 := (ww im lf s d k ls rf rz ra rn rq lt m1 m2 m3 m4 bd fc hd sz el q (fUp (fUp (fUp (fUp (fUp (fUp g 27 (nI (160 * j))) 29 (nI n)) 6 (-1)) 28 (nI a)) 30 x30) 31 x31) fm hm so si sh ce ca td wa kp la bf oo bo pw ow tr)) at_X6_item_19 rfl rfl (Nat.le_of_ble_eq_true rfl) rfl (ab_rvOf w65 rfl) (Ev.vi (congrArg nI (if_neg (by omega))) (m_sd1 hj hn ha l_ce hce)) (by decide) rfl ?_
        refine E_if (t := 43) (b := true) at_X6_item_22 rfl (by decide) ?_
        refine E_aload_n at_X6_item_43 rfl ?_
        refine E_callV (v := some (.int (nI 2))) (As := [.ref 65]) (r0 := []) (cs2 := (ww im lf s d k ls rf rz ra rn rq lt m1 m2 m3 m4 bd fc hd sz el q (fUp (fUp (fUp (fUp (fUp (fUp g 27 (nI (160 * j))) 29 (nI n)) 6 (-1)) 28 (nI (a + 5))) 30 x30) 31 x31) fm hm so si sh ce ca td wa kp la bf oo bo pw ow tr)) at_X6_item_44 rfl rfl (Nat.le_of_ble_eq_true rfl) rfl (ab_rvOf w65 rfl) (m_wd2b hj hn ha l_ce hce hw hb0) (by decide) w_lens ?_
        refine E_istore_n (L2 := [some (.ref 65), some (.int (nI 2)), none, none]) at_X6_item_47 rfl ?_
        refine E_iload_n at_X6_item_48 rfl ?_
        refine E_iconst (x := (-1)) at_X6_item_49 (by decide) ?_
        refine E_ic (t := 55) (b := true) at_X6_item_50 rfl (by decide) ?_
        refine E_iconst (x := nI 0) at_X6_item_55 (by decide) ?_
        refine E_istore_n (L2 := [some (.ref 65), some (.int (nI 2)), some (.int (nI 0)), none]) at_X6_item_56 rfl ?_
        exact mb20 hj hn (a := a + 4) (by omega) Iq l_td l_ce hce hb0 hd0
      · rcases Nat.lt_or_ge (nuV e n (a + 5)) (8) with hr0 | hr0
        · rcases bo2 (chB e n (cnE e n (a + 4)) 32) with hb1 | hb1
          · have hz := mtc_n (e := e) (n := n) [99, 111, 115, 116] a ha
            have hz_ : a + mj2 e n a ≤ n := hz
            have hb0_ := (chB_t hb0).1
            have hd0_ := (dgB_t hd0).1
            have hV0 := nuV_99 hd0
            have hc0 := cnE_n hd0
            have hF0 : nuF e n (a + 4) 0 8 = 0 := nuF_C hb0 hd0 (show ¬ (nuV e n (a + 5) < 0 ∨ 8 ≤ nuV e n (a + 5)) from by omega)
            have hF1 : nuF e n (cnE e n (a + 4)) 1 61 = cnE e n (a + 4) + 1 := nuF_A hb1
            have hI : itF e n q a = cnE e n (a + 4) + 1 := (it_2 (q := q) hw).1.trans (by unfold s2F; rw [if_pos hF0]; exact hF1)
            refine ⟨q, nI (cnE e n (a + 4)), nI (nuV e n (a + 5)), nI (cnE e n (a + 4)), (td.set 0 (nI (nuV e n (a + 5)))), nI 0, ?_, (by simp only [List.length_set]; exact l_td), Or.inr ⟨cnE e n (a + 4), by omega, rfl, rfl, rfl⟩⟩
            refine Ef.in (md := mX6_item) (L := [some (.ref 65), none, none, none]) rfl (Nat.le_of_ble_eq_true rfl) rfl ?_
            refine E_aload_n at_X6_item_0 rfl ?_
            refine E_iconst (x := nI 0) at_X6_item_1 (by decide) ?_
            refine E_callV (v := some (.int (nI 0))) (As := [.ref 65, .int (nI 0)]) (r0 := []) (cs2 := (ww im lf s d k ls rf rz ra rn rq lt m1 m2 m3 m4 bd fc hd sz el q (fUp (fUp (fUp (fUp (fUp (fUp g 27 (nI (160 * j))) 29 (nI n)) 6 (-1)) 28 (nI a)) 30 x30) 31 x31) fm hm so si sh ce ca td wa kp la bf oo bo pw ow tr)) at_X6_item_2 rfl rfl (Nat.le_of_ble_eq_true rfl) rfl (ab_rvOf w65 rfl) (Ev.vi (congrArg nI (if_neg (by omega))) (m_sd0 hj hn ha l_ce hce)) (by decide) rfl ?_
            refine E_if (t := 17) (b := true) at_X6_item_5 rfl (by decide) ?_
            refine E_aload_n at_X6_item_17 rfl ?_
            refine E_iconst (x := nI 1) at_X6_item_18 (by decide) ?_
            refine E_callV (v := some (.int (nI 0))) (As := [.ref 65, .int (nI 1)]) (r0 := []) (cs2 := (ww im lf s d k ls rf rz ra rn rq lt m1 m2 m3 m4 bd fc hd sz el q (fUp (fUp (fUp (fUp (fUp (fUp g 27 (nI (160 * j))) 29 (nI n)) 6 (-1)) 28 (nI a)) 30 x30) 31 x31) fm hm so si sh ce ca td wa kp la bf oo bo pw ow tr)) at_X6_item_19 rfl rfl (Nat.le_of_ble_eq_true rfl) rfl (ab_rvOf w65 rfl) (Ev.vi (congrArg nI (if_neg (by omega))) (m_sd1 hj hn ha l_ce hce)) (by decide) rfl ?_
            refine E_if (t := 43) (b := true) at_X6_item_22 rfl (by decide) ?_
            refine E_aload_n at_X6_item_43 rfl ?_
            refine E_callV (v := some (.int (nI 2))) (As := [.ref 65]) (r0 := []) (cs2 := (ww im lf s d k ls rf rz ra rn rq lt m1 m2 m3 m4 bd fc hd sz el q (fUp (fUp (fUp (fUp (fUp (fUp g 27 (nI (160 * j))) 29 (nI n)) 6 (-1)) 28 (nI (a + 5))) 30 x30) 31 x31) fm hm so si sh ce ca td wa kp la bf oo bo pw ow tr)) at_X6_item_44 rfl rfl (Nat.le_of_ble_eq_true rfl) rfl (ab_rvOf w65 rfl) (m_wd2b hj hn ha l_ce hce hw hb0) (by decide) w_lens ?_
            refine E_istore_n (L2 := [some (.ref 65), some (.int (nI 2)), none, none]) at_X6_item_47 rfl ?_
            refine E_iload_n at_X6_item_48 rfl ?_
            refine E_iconst (x := (-1)) at_X6_item_49 (by decide) ?_
            refine E_ic (t := 55) (b := true) at_X6_item_50 rfl (by decide) ?_
            refine E_iconst (x := nI 0) at_X6_item_55 (by decide) ?_
            refine E_istore_n (L2 := [some (.ref 65), some (.int (nI 2)), some (.int (nI 0)), none]) at_X6_item_56 rfl ?_
            refine mc20 hj hn (a := a + 4) (by omega) Iq l_td l_ce hce hb0 hd0 (show 0 ≤ nuV e n (a + 5) from by omega) (show nuV e n (a + 5) < 8 from by omega) ?_
            exact ma21 hj hn (a := cnE e n (a + 4)) (by omega) Iq (by simp only [List.length_set]; exact l_td) l_ce hce hb1
          · rcases bo2 (dgB e n (cnE e n (a + 4) + 1)) with hd1 | hd1
            · have hz := mtc_n (e := e) (n := n) [99, 111, 115, 116] a ha
              have hz_ : a + mj2 e n a ≤ n := hz
              have hb0_ := (chB_t hb0).1
              have hd0_ := (dgB_t hd0).1
              have hV0 := nuV_99 hd0
              have hc0 := cnE_n hd0
              have hb1_ := (chB_t hb1).1
              have hF0 : nuF e n (a + 4) 0 8 = 0 := nuF_C hb0 hd0 (show ¬ (nuV e n (a + 5) < 0 ∨ 8 ≤ nuV e n (a + 5)) from by omega)
              have hF1 : nuF e n (cnE e n (a + 4)) 1 61 = cnE e n (a + 4) + 2 := nuF_B hb1 hd1
              have hI : itF e n q a = cnE e n (a + 4) + 2 := (it_2 (q := q) hw).1.trans (by unfold s2F; rw [if_pos hF0]; exact hF1)
              refine ⟨q, nI (cnE e n (a + 4) + 1), nI 0, nI (cnE e n (a + 4) + 1), (td.set 0 (nI (nuV e n (a + 5)))), nI 0, ?_, (by simp only [List.length_set]; exact l_td), Or.inr ⟨cnE e n (a + 4) + 1, by omega, rfl, rfl, rfl⟩⟩
              refine Ef.in (md := mX6_item) (L := [some (.ref 65), none, none, none]) rfl (Nat.le_of_ble_eq_true rfl) rfl ?_
              refine E_aload_n at_X6_item_0 rfl ?_
              refine E_iconst (x := nI 0) at_X6_item_1 (by decide) ?_
              refine E_callV (v := some (.int (nI 0))) (As := [.ref 65, .int (nI 0)]) (r0 := []) (cs2 := (ww im lf s d k ls rf rz ra rn rq lt m1 m2 m3 m4 bd fc hd sz el q (fUp (fUp (fUp (fUp (fUp (fUp g 27 (nI (160 * j))) 29 (nI n)) 6 (-1)) 28 (nI a)) 30 x30) 31 x31) fm hm so si sh ce ca td wa kp la bf oo bo pw ow tr)) at_X6_item_2 rfl rfl (Nat.le_of_ble_eq_true rfl) rfl (ab_rvOf w65 rfl) (Ev.vi (congrArg nI (if_neg (by omega))) (m_sd0 hj hn ha l_ce hce)) (by decide) rfl ?_
              refine E_if (t := 17) (b := true) at_X6_item_5 rfl (by decide) ?_
              refine E_aload_n at_X6_item_17 rfl ?_
              refine E_iconst (x := nI 1) at_X6_item_18 (by decide) ?_
              refine E_callV (v := some (.int (nI 0))) (As := [.ref 65, .int (nI 1)]) (r0 := []) (cs2 := (ww im lf s d k ls rf rz ra rn rq lt m1 m2 m3 m4 bd fc hd sz el q (fUp (fUp (fUp (fUp (fUp (fUp g 27 (nI (160 * j))) 29 (nI n)) 6 (-1)) 28 (nI a)) 30 x30) 31 x31) fm hm so si sh ce ca td wa kp la bf oo bo pw ow tr)) at_X6_item_19 rfl rfl (Nat.le_of_ble_eq_true rfl) rfl (ab_rvOf w65 rfl) (Ev.vi (congrArg nI (if_neg (by omega))) (m_sd1 hj hn ha l_ce hce)) (by decide) rfl ?_
              refine E_if (t := 43) (b := true) at_X6_item_22 rfl (by decide) ?_
              refine E_aload_n at_X6_item_43 rfl ?_
              refine E_callV (v := some (.int (nI 2))) (As := [.ref 65]) (r0 := []) (cs2 := (ww im lf s d k ls rf rz ra rn rq lt m1 m2 m3 m4 bd fc hd sz el q (fUp (fUp (fUp (fUp (fUp (fUp g 27 (nI (160 * j))) 29 (nI n)) 6 (-1)) 28 (nI (a + 5))) 30 x30) 31 x31) fm hm so si sh ce ca td wa kp la bf oo bo pw ow tr)) at_X6_item_44 rfl rfl (Nat.le_of_ble_eq_true rfl) rfl (ab_rvOf w65 rfl) (m_wd2b hj hn ha l_ce hce hw hb0) (by decide) w_lens ?_
              refine E_istore_n (L2 := [some (.ref 65), some (.int (nI 2)), none, none]) at_X6_item_47 rfl ?_
              refine E_iload_n at_X6_item_48 rfl ?_
              refine E_iconst (x := (-1)) at_X6_item_49 (by decide) ?_
              refine E_ic (t := 55) (b := true) at_X6_item_50 rfl (by decide) ?_
              refine E_iconst (x := nI 0) at_X6_item_55 (by decide) ?_
              refine E_istore_n (L2 := [some (.ref 65), some (.int (nI 2)), some (.int (nI 0)), none]) at_X6_item_56 rfl ?_
              refine mc20 hj hn (a := a + 4) (by omega) Iq l_td l_ce hce hb0 hd0 (show 0 ≤ nuV e n (a + 5) from by omega) (show nuV e n (a + 5) < 8 from by omega) ?_
              exact mb21 hj hn (a := cnE e n (a + 4)) (by omega) Iq (by simp only [List.length_set]; exact l_td) l_ce hce hb1 hd1
            · rcases Nat.lt_or_ge (nuV e n (cnE e n (a + 4) + 1)) 1 with hr1 | hr1
              · have hz := mtc_n (e := e) (n := n) [99, 111, 115, 116] a ha
                have hz_ : a + mj2 e n a ≤ n := hz
                have hb0_ := (chB_t hb0).1
                have hd0_ := (dgB_t hd0).1
                have hV0 := nuV_99 hd0
                have hc0 := cnE_n hd0
                have hb1_ := (chB_t hb1).1
                have hd1_ := (dgB_t hd1).1
                have hV1 := nuV_99 hd1
                have hF0 : nuF e n (a + 4) 0 8 = 0 := nuF_C hb0 hd0 (show ¬ (nuV e n (a + 5) < 0 ∨ 8 ≤ nuV e n (a + 5)) from by omega)
                have hF1 : nuF e n (cnE e n (a + 4)) 1 61 = cnE e n (a + 4) + 2 := nuF_D hb1 hd1 (show nuV e n (cnE e n (a + 4) + 1) < 1 ∨ 61 ≤ nuV e n (cnE e n (a + 4) + 1) from by omega)
                have hI : itF e n q a = cnE e n (a + 4) + 2 := (it_2 (q := q) hw).1.trans (by unfold s2F; rw [if_pos hF0]; exact hF1)
                refine ⟨q, nI (cnE e n (cnE e n (a + 4))), nI (nuV e n (cnE e n (a + 4) + 1)), nI (cnE e n (a + 4) + 1), (td.set 0 (nI (nuV e n (a + 5)))), nI 0, ?_, (by simp only [List.length_set]; exact l_td), Or.inr ⟨cnE e n (a + 4) + 1, by omega, rfl, rfl, rfl⟩⟩
                refine Ef.in (md := mX6_item) (L := [some (.ref 65), none, none, none]) rfl (Nat.le_of_ble_eq_true rfl) rfl ?_
                refine E_aload_n at_X6_item_0 rfl ?_
                refine E_iconst (x := nI 0) at_X6_item_1 (by decide) ?_
                refine E_callV (v := some (.int (nI 0))) (As := [.ref 65, .int (nI 0)]) (r0 := []) (cs2 := (ww im lf s d k ls rf rz ra rn rq lt m1 m2 m3 m4 bd fc hd sz el q (fUp (fUp (fUp (fUp (fUp (fUp g 27 (nI (160 * j))) 29 (nI n)) 6 (-1)) 28 (nI a)) 30 x30) 31 x31) fm hm so si sh ce ca td wa kp la bf oo bo pw ow tr)) at_X6_item_2 rfl rfl (Nat.le_of_ble_eq_true rfl) rfl (ab_rvOf w65 rfl) (Ev.vi (congrArg nI (if_neg (by omega))) (m_sd0 hj hn ha l_ce hce)) (by decide) rfl ?_
                refine E_if (t := 17) (b := true) at_X6_item_5 rfl (by decide) ?_
                refine E_aload_n at_X6_item_17 rfl ?_
                refine E_iconst (x := nI 1) at_X6_item_18 (by decide) ?_
                refine E_callV (v := some (.int (nI 0))) (As := [.ref 65, .int (nI 1)]) (r0 := []) (cs2 := (ww im lf s d k ls rf rz ra rn rq lt m1 m2 m3 m4 bd fc hd sz el q (fUp (fUp (fUp (fUp (fUp (fUp g 27 (nI (160 * j))) 29 (nI n)) 6 (-1)) 28 (nI a)) 30 x30) 31 x31) fm hm so si sh ce ca td wa kp la bf oo bo pw ow tr)) at_X6_item_19 rfl rfl (Nat.le_of_ble_eq_true rfl) rfl (ab_rvOf w65 rfl) (Ev.vi (congrArg nI (if_neg (by omega))) (m_sd1 hj hn ha l_ce hce)) (by decide) rfl ?_
                refine E_if (t := 43) (b := true) at_X6_item_22 rfl (by decide) ?_
                refine E_aload_n at_X6_item_43 rfl ?_
                refine E_callV (v := some (.int (nI 2))) (As := [.ref 65]) (r0 := []) (cs2 := (ww im lf s d k ls rf rz ra rn rq lt m1 m2 m3 m4 bd fc hd sz el q (fUp (fUp (fUp (fUp (fUp (fUp g 27 (nI (160 * j))) 29 (nI n)) 6 (-1)) 28 (nI (a + 5))) 30 x30) 31 x31) fm hm so si sh ce ca td wa kp la bf oo bo pw ow tr)) at_X6_item_44 rfl rfl (Nat.le_of_ble_eq_true rfl) rfl (ab_rvOf w65 rfl) (m_wd2b hj hn ha l_ce hce hw hb0) (by decide) w_lens ?_
                refine E_istore_n (L2 := [some (.ref 65), some (.int (nI 2)), none, none]) at_X6_item_47 rfl ?_
                refine E_iload_n at_X6_item_48 rfl ?_
                refine E_iconst (x := (-1)) at_X6_item_49 (by decide) ?_
                refine E_ic (t := 55) (b := true) at_X6_item_50 rfl (by decide) ?_
                refine E_iconst (x := nI 0) at_X6_item_55 (by decide) ?_
                refine E_istore_n (L2 := [some (.ref 65), some (.int (nI 2)), some (.int (nI 0)), none]) at_X6_item_56 rfl ?_
                refine mc20 hj hn (a := a + 4) (by omega) Iq l_td l_ce hce hb0 hd0 (show 0 ≤ nuV e n (a + 5) from by omega) (show nuV e n (a + 5) < 8 from by omega) ?_
                exact md210 hj hn (a := cnE e n (a + 4)) (by omega) Iq (by simp only [List.length_set]; exact l_td) l_ce hce hb1 hd1 (show nuV e n (cnE e n (a + 4) + 1) < 1 from by omega)
              · rcases Nat.lt_or_ge (nuV e n (cnE e n (a + 4) + 1)) (61) with hs1 | hs1
                · have hz := mtc_n (e := e) (n := n) [99, 111, 115, 116] a ha
                  have hz_ : a + mj2 e n a ≤ n := hz
                  have hb0_ := (chB_t hb0).1
                  have hd0_ := (dgB_t hd0).1
                  have hV0 := nuV_99 hd0
                  have hc0 := cnE_n hd0
                  have hb1_ := (chB_t hb1).1
                  have hd1_ := (dgB_t hd1).1
                  have hV1 := nuV_99 hd1
                  have hc1 := cnE_n hd1
                  have : ([3, 3, 2, 2, 1, 0, 0] : List Nat).length = 7 := rfl
                  have : ((td.set 0 (nI (nuV e n (a + 5)))).set 1 (nI (nuV e n (cnE e n (a + 4) + 1)))).length = 3 := by first | omega | (simp only [List.length_set]; omega)
                  have : (qC q).length = 8 := by first | omega | (simp only [List.length_set]; omega)
                  have hF0 : nuF e n (a + 4) 0 8 = 0 := nuF_C hb0 hd0 (show ¬ (nuV e n (a + 5) < 0 ∨ 8 ≤ nuV e n (a + 5)) from by omega)
                  have hF1 : nuF e n (cnE e n (a + 4)) 1 61 = 0 := nuF_C hb1 hd1 (show ¬ (nuV e n (cnE e n (a + 4) + 1) < 1 ∨ 61 ≤ nuV e n (cnE e n (a + 4) + 1)) from by omega)
                  have hI : itF e n q a = 0 := (it_2 (q := q) hw).1.trans (by unfold s2F; rw [if_pos hF0]; exact hF1)
                  have hE : itA e n a = cnE e n (cnE e n (a + 4)) := (it_2 (q := q) hw).2.2
                  refine ⟨(qs_C q ((qC q).set (nuV e n (a + 5)) (nuV e n (cnE e n (a + 4) + 1)))), nI (cnE e n (cnE e n (a + 4))), nI (nuV e n (cnE e n (a + 4) + 1)), x31, ((td.set 0 (nI (nuV e n (a + 5)))).set 1 (nI (nuV e n (cnE e n (a + 4) + 1)))), nI 1, ?_, (by simp only [List.length_set]; exact l_td), Or.inl ⟨hI, (it_2 (q := q) hw).2.1.symm, by rw [hE], rfl, by omega, by omega, (kC Iq (by omega) (by omega))⟩⟩
                  refine Ef.in (md := mX6_item) (L := [some (.ref 65), none, none, none]) rfl (Nat.le_of_ble_eq_true rfl) rfl ?_
                  refine E_aload_n at_X6_item_0 rfl ?_
                  refine E_iconst (x := nI 0) at_X6_item_1 (by decide) ?_
                  refine E_callV (v := some (.int (nI 0))) (As := [.ref 65, .int (nI 0)]) (r0 := []) (cs2 := (ww im lf s d k ls rf rz ra rn rq lt m1 m2 m3 m4 bd fc hd sz el q (fUp (fUp (fUp (fUp (fUp (fUp g 27 (nI (160 * j))) 29 (nI n)) 6 (-1)) 28 (nI a)) 30 x30) 31 x31) fm hm so si sh ce ca td wa kp la bf oo bo pw ow tr)) at_X6_item_2 rfl rfl (Nat.le_of_ble_eq_true rfl) rfl (ab_rvOf w65 rfl) (Ev.vi (congrArg nI (if_neg (by omega))) (m_sd0 hj hn ha l_ce hce)) (by decide) rfl ?_
                  refine E_if (t := 17) (b := true) at_X6_item_5 rfl (by decide) ?_
                  refine E_aload_n at_X6_item_17 rfl ?_
                  refine E_iconst (x := nI 1) at_X6_item_18 (by decide) ?_
                  refine E_callV (v := some (.int (nI 0))) (As := [.ref 65, .int (nI 1)]) (r0 := []) (cs2 := (ww im lf s d k ls rf rz ra rn rq lt m1 m2 m3 m4 bd fc hd sz el q (fUp (fUp (fUp (fUp (fUp (fUp g 27 (nI (160 * j))) 29 (nI n)) 6 (-1)) 28 (nI a)) 30 x30) 31 x31) fm hm so si sh ce ca td wa kp la bf oo bo pw ow tr)) at_X6_item_19 rfl rfl (Nat.le_of_ble_eq_true rfl) rfl (ab_rvOf w65 rfl) (Ev.vi (congrArg nI (if_neg (by omega))) (m_sd1 hj hn ha l_ce hce)) (by decide) rfl ?_
                  refine E_if (t := 43) (b := true) at_X6_item_22 rfl (by decide) ?_
                  refine E_aload_n at_X6_item_43 rfl ?_
                  refine E_callV (v := some (.int (nI 2))) (As := [.ref 65]) (r0 := []) (cs2 := (ww im lf s d k ls rf rz ra rn rq lt m1 m2 m3 m4 bd fc hd sz el q (fUp (fUp (fUp (fUp (fUp (fUp g 27 (nI (160 * j))) 29 (nI n)) 6 (-1)) 28 (nI (a + 5))) 30 x30) 31 x31) fm hm so si sh ce ca td wa kp la bf oo bo pw ow tr)) at_X6_item_44 rfl rfl (Nat.le_of_ble_eq_true rfl) rfl (ab_rvOf w65 rfl) (m_wd2b hj hn ha l_ce hce hw hb0) (by decide) w_lens ?_
                  refine E_istore_n (L2 := [some (.ref 65), some (.int (nI 2)), none, none]) at_X6_item_47 rfl ?_
                  refine E_iload_n at_X6_item_48 rfl ?_
                  refine E_iconst (x := (-1)) at_X6_item_49 (by decide) ?_
                  refine E_ic (t := 55) (b := true) at_X6_item_50 rfl (by decide) ?_
                  refine E_iconst (x := nI 0) at_X6_item_55 (by decide) ?_
                  refine E_istore_n (L2 := [some (.ref 65), some (.int (nI 2)), some (.int (nI 0)), none]) at_X6_item_56 rfl ?_
                  refine mc20 hj hn (a := a + 4) (by omega) Iq l_td l_ce hce hb0 hd0 (show 0 ≤ nuV e n (a + 5) from by omega) (show nuV e n (a + 5) < 8 from by omega) ?_
                  refine mc21 hj hn (a := cnE e n (a + 4)) (by omega) Iq (by simp only [List.length_set]; exact l_td) l_ce hce hb1 hd1 (show 1 ≤ nuV e n (cnE e n (a + 4) + 1) from by omega) (show nuV e n (cnE e n (a + 4) + 1) < 61 from by omega) ?_
                  refine E_iload_n rfl rfl ?_
                  refine E_aload_n rfl rfl ?_
                  refine E_getfield (v := .ref 83) rfl w65 rfl (by decide) rfl ?_
                  refine E_iload_n rfl rfl ?_
                  refine E_ialN (l := [3, 3, 2, 2, 1, 0, 0]) (v := 2) rfl w83 (by omega) (by omega) rfl ?_
                  refine E_ic (t := 166) (b := true) rfl rfl (by decide) ?_
                  refine E_iload_n rfl rfl ?_
                  refine E_tsIn (off := 85) (t := 252) rfl (by decide) rfl rfl ?_
                  refine E_aload_n rfl rfl ?_
                  refine E_getfield (v := .ref 75) rfl w65 rfl (by decide) rfl ?_
                  refine E_aload_n rfl rfl ?_
                  refine E_getfield (v := .ref 85) rfl w65 rfl (by decide) rfl ?_
                  refine E_iconst (x := nI 0) rfl (by decide) ?_
                  refine E_ialI (l := ((td.set 0 (nI (nuV e n (a + 5)))).set 1 (nI (nuV e n (cnE e n (a + 4) + 1))))) (v := nI (nuV e n (a + 5))) rfl w85 (by omega) (by omega) ((ab_gs1 (by decide)).trans (ab_gs2 (by first | omega | (simp only [List.length_set]; omega)))) ?_
                  refine E_aload_n rfl rfl ?_
                  refine E_getfield (v := .ref 85) rfl w65 rfl (by decide) rfl ?_
                  refine E_iconst (x := nI 1) rfl (by decide) ?_
                  refine E_ialI (l := ((td.set 0 (nI (nuV e n (a + 5)))).set 1 (nI (nuV e n (cnE e n (a + 4) + 1))))) (v := nI (nuV e n (cnE e n (a + 4) + 1))) rfl w85 (by omega) (by omega) (ab_gs2 (by first | omega | (simp only [List.length_set]; omega))) ?_
                  refine E_iasN (l := qC q) (cs2 := (ww im lf s d k ls rf rz ra rn rq lt m1 m2 m3 m4 bd fc hd sz el (qs_C q ((qC q).set (nuV e n (a + 5)) (nuV e n (cnE e n (a + 4) + 1)))) (fUp (fUp (fUp (fUp (fUp (fUp g 27 (nI (160 * j))) 29 (nI n)) 6 (-1)) 28 (nI (cnE e n (cnE e n (a + 4))))) 30 (nI (nuV e n (cnE e n (a + 4) + 1)))) 31 x31) fm hm so si sh ce ca ((td.set 0 (nI (nuV e n (a + 5)))).set 1 (nI (nuV e n (cnE e n (a + 4) + 1)))) wa kp la bf oo bo pw ow tr)) rfl w75 (by omega) (by omega) w_pt65_C ?_
                  refine E_goto (t := 316) rfl rfl ?_
                  refine E_iconst (x := nI 1) rfl (by decide) ?_
                  exact E_iret rfl rfl
                · have hz := mtc_n (e := e) (n := n) [99, 111, 115, 116] a ha
                  have hz_ : a + mj2 e n a ≤ n := hz
                  have hb0_ := (chB_t hb0).1
                  have hd0_ := (dgB_t hd0).1
                  have hV0 := nuV_99 hd0
                  have hc0 := cnE_n hd0
                  have hb1_ := (chB_t hb1).1
                  have hd1_ := (dgB_t hd1).1
                  have hV1 := nuV_99 hd1
                  have hF0 : nuF e n (a + 4) 0 8 = 0 := nuF_C hb0 hd0 (show ¬ (nuV e n (a + 5) < 0 ∨ 8 ≤ nuV e n (a + 5)) from by omega)
                  have hF1 : nuF e n (cnE e n (a + 4)) 1 61 = cnE e n (a + 4) + 2 := nuF_D hb1 hd1 (show nuV e n (cnE e n (a + 4) + 1) < 1 ∨ 61 ≤ nuV e n (cnE e n (a + 4) + 1) from by omega)
                  have hI : itF e n q a = cnE e n (a + 4) + 2 := (it_2 (q := q) hw).1.trans (by unfold s2F; rw [if_pos hF0]; exact hF1)
                  refine ⟨q, nI (cnE e n (cnE e n (a + 4))), nI (nuV e n (cnE e n (a + 4) + 1)), nI (cnE e n (a + 4) + 1), (td.set 0 (nI (nuV e n (a + 5)))), nI 0, ?_, (by simp only [List.length_set]; exact l_td), Or.inr ⟨cnE e n (a + 4) + 1, by omega, rfl, rfl, rfl⟩⟩
                  refine Ef.in (md := mX6_item) (L := [some (.ref 65), none, none, none]) rfl (Nat.le_of_ble_eq_true rfl) rfl ?_
                  refine E_aload_n at_X6_item_0 rfl ?_
                  refine E_iconst (x := nI 0) at_X6_item_1 (by decide) ?_
                  refine E_callV (v := some (.int (nI 0))) (As := [.ref 65, .int (nI 0)]) (r0 := []) (cs2 := (ww im lf s d k ls rf rz ra rn rq lt m1 m2 m3 m4 bd fc hd sz el q (fUp (fUp (fUp (fUp (fUp (fUp g 27 (nI (160 * j))) 29 (nI n)) 6 (-1)) 28 (nI a)) 30 x30) 31 x31) fm hm so si sh ce ca td wa kp la bf oo bo pw ow tr)) at_X6_item_2 rfl rfl (Nat.le_of_ble_eq_true rfl) rfl (ab_rvOf w65 rfl) (Ev.vi (congrArg nI (if_neg (by omega))) (m_sd0 hj hn ha l_ce hce)) (by decide) rfl ?_
                  refine E_if (t := 17) (b := true) at_X6_item_5 rfl (by decide) ?_
                  refine E_aload_n at_X6_item_17 rfl ?_
                  refine E_iconst (x := nI 1) at_X6_item_18 (by decide) ?_
                  refine E_callV (v := some (.int (nI 0))) (As := [.ref 65, .int (nI 1)]) (r0 := []) (cs2 := (ww im lf s d k ls rf rz ra rn rq lt m1 m2 m3 m4 bd fc hd sz el q (fUp (fUp (fUp (fUp (fUp (fUp g 27 (nI (160 * j))) 29 (nI n)) 6 (-1)) 28 (nI a)) 30 x30) 31 x31) fm hm so si sh ce ca td wa kp la bf oo bo pw ow tr)) at_X6_item_19 rfl rfl (Nat.le_of_ble_eq_true rfl) rfl (ab_rvOf w65 rfl) (Ev.vi (congrArg nI (if_neg (by omega))) (m_sd1 hj hn ha l_ce hce)) (by decide) rfl ?_
                  refine E_if (t := 43) (b := true) at_X6_item_22 rfl (by decide) ?_
                  refine E_aload_n at_X6_item_43 rfl ?_
                  refine E_callV (v := some (.int (nI 2))) (As := [.ref 65]) (r0 := []) (cs2 := (ww im lf s d k ls rf rz ra rn rq lt m1 m2 m3 m4 bd fc hd sz el q (fUp (fUp (fUp (fUp (fUp (fUp g 27 (nI (160 * j))) 29 (nI n)) 6 (-1)) 28 (nI (a + 5))) 30 x30) 31 x31) fm hm so si sh ce ca td wa kp la bf oo bo pw ow tr)) at_X6_item_44 rfl rfl (Nat.le_of_ble_eq_true rfl) rfl (ab_rvOf w65 rfl) (m_wd2b hj hn ha l_ce hce hw hb0) (by decide) w_lens ?_
                  refine E_istore_n (L2 := [some (.ref 65), some (.int (nI 2)), none, none]) at_X6_item_47 rfl ?_
                  refine E_iload_n at_X6_item_48 rfl ?_
                  refine E_iconst (x := (-1)) at_X6_item_49 (by decide) ?_
                  refine E_ic (t := 55) (b := true) at_X6_item_50 rfl (by decide) ?_
                  refine E_iconst (x := nI 0) at_X6_item_55 (by decide) ?_
                  refine E_istore_n (L2 := [some (.ref 65), some (.int (nI 2)), some (.int (nI 0)), none]) at_X6_item_56 rfl ?_
                  refine mc20 hj hn (a := a + 4) (by omega) Iq l_td l_ce hce hb0 hd0 (show 0 ≤ nuV e n (a + 5) from by omega) (show nuV e n (a + 5) < 8 from by omega) ?_
                  exact md211 hj hn (a := cnE e n (a + 4)) (by omega) Iq (by simp only [List.length_set]; exact l_td) l_ce hce hb1 hd1 (show 61 ≤ nuV e n (cnE e n (a + 4) + 1) from by omega)
        · have hz := mtc_n (e := e) (n := n) [99, 111, 115, 116] a ha
          have hz_ : a + mj2 e n a ≤ n := hz
          have hb0_ := (chB_t hb0).1
          have hd0_ := (dgB_t hd0).1
          have hV0 := nuV_99 hd0
          have hF0 : nuF e n (a + 4) 0 8 = a + 4 + 2 := nuF_D hb0 hd0 (show nuV e n (a + 5) < 0 ∨ 8 ≤ nuV e n (a + 5) from by omega)
          have hI : itF e n q a = a + 6 := (it_2 (q := q) hw).1.trans (by unfold s2F; rw [if_neg (by omega)]; exact hF0)
          refine ⟨q, nI (cnE e n (a + 4)), nI (nuV e n (a + 5)), nI (a + 5), td, nI 0, ?_, l_td, Or.inr ⟨a + 5, by omega, rfl, rfl, rfl⟩⟩
          refine Ef.in (md := mX6_item) (L := [some (.ref 65), none, none, none]) rfl (Nat.le_of_ble_eq_true rfl) rfl ?_
          refine E_aload_n at_X6_item_0 rfl ?_
          refine E_iconst (x := nI 0) at_X6_item_1 (by decide) ?_
          refine E_callV (v := some (.int (nI 0))) (As := [.ref 65, .int (nI 0)]) (r0 := []) (cs2 := (ww im lf s d k ls rf rz ra rn rq lt m1 m2 m3 m4 bd fc hd sz el q (fUp (fUp (fUp (fUp (fUp (fUp g 27 (nI (160 * j))) 29 (nI n)) 6 (-1)) 28 (nI a)) 30 x30) 31 x31) fm hm so si sh ce ca td wa kp la bf oo bo pw ow tr)) at_X6_item_2 rfl rfl (Nat.le_of_ble_eq_true rfl) rfl (ab_rvOf w65 rfl) (Ev.vi (congrArg nI (if_neg (by omega))) (m_sd0 hj hn ha l_ce hce)) (by decide) rfl ?_
          refine E_if (t := 17) (b := true) at_X6_item_5 rfl (by decide) ?_
          refine E_aload_n at_X6_item_17 rfl ?_
          refine E_iconst (x := nI 1) at_X6_item_18 (by decide) ?_
          refine E_callV (v := some (.int (nI 0))) (As := [.ref 65, .int (nI 1)]) (r0 := []) (cs2 := (ww im lf s d k ls rf rz ra rn rq lt m1 m2 m3 m4 bd fc hd sz el q (fUp (fUp (fUp (fUp (fUp (fUp g 27 (nI (160 * j))) 29 (nI n)) 6 (-1)) 28 (nI a)) 30 x30) 31 x31) fm hm so si sh ce ca td wa kp la bf oo bo pw ow tr)) at_X6_item_19 rfl rfl (Nat.le_of_ble_eq_true rfl) rfl (ab_rvOf w65 rfl) (Ev.vi (congrArg nI (if_neg (by omega))) (m_sd1 hj hn ha l_ce hce)) (by decide) rfl ?_
          refine E_if (t := 43) (b := true) at_X6_item_22 rfl (by decide) ?_
          refine E_aload_n at_X6_item_43 rfl ?_
          refine E_callV (v := some (.int (nI 2))) (As := [.ref 65]) (r0 := []) (cs2 := (ww im lf s d k ls rf rz ra rn rq lt m1 m2 m3 m4 bd fc hd sz el q (fUp (fUp (fUp (fUp (fUp (fUp g 27 (nI (160 * j))) 29 (nI n)) 6 (-1)) 28 (nI (a + 5))) 30 x30) 31 x31) fm hm so si sh ce ca td wa kp la bf oo bo pw ow tr)) at_X6_item_44 rfl rfl (Nat.le_of_ble_eq_true rfl) rfl (ab_rvOf w65 rfl) (m_wd2b hj hn ha l_ce hce hw hb0) (by decide) w_lens ?_
          refine E_istore_n (L2 := [some (.ref 65), some (.int (nI 2)), none, none]) at_X6_item_47 rfl ?_
          refine E_iload_n at_X6_item_48 rfl ?_
          refine E_iconst (x := (-1)) at_X6_item_49 (by decide) ?_
          refine E_ic (t := 55) (b := true) at_X6_item_50 rfl (by decide) ?_
          refine E_iconst (x := nI 0) at_X6_item_55 (by decide) ?_
          refine E_istore_n (L2 := [some (.ref 65), some (.int (nI 2)), some (.int (nI 0)), none]) at_X6_item_56 rfl ?_
          exact md200 hj hn (a := a + 4) (by omega) Iq l_td l_ce hce hb0 hd0 (show 8 ≤ nuV e n (a + 5) from by omega)
  · rcases bo2 (chB e n (a + 3) 32) with hb0 | hb0
    · have hz := mtc_n (e := e) (n := n) [104, 97, 115] a ha
      have hz_ : a + mj3 e n a ≤ n := hz
      have hF0 : nuF e n (a + 3) 0 (qN q) = a + 3 + 1 := nuF_A hb0
      have hI : itF e n q a = a + 4 := (it_3 (q := q) hw).1.trans (by unfold hasF; rw [if_neg (by omega)]; exact hF0)
      refine ⟨q, nI a, x30, nI (a + 3), td, nI 0, ?_, l_td, Or.inr ⟨a + 3, by omega, rfl, rfl, rfl⟩⟩
      refine Ef.in (md := mX6_item) (L := [some (.ref 65), none, none, none]) rfl (Nat.le_of_ble_eq_true rfl) rfl ?_
      refine E_aload_n at_X6_item_0 rfl ?_
      refine E_iconst (x := nI 0) at_X6_item_1 (by decide) ?_
      refine E_callV (v := some (.int (nI 0))) (As := [.ref 65, .int (nI 0)]) (r0 := []) (cs2 := (ww im lf s d k ls rf rz ra rn rq lt m1 m2 m3 m4 bd fc hd sz el q (fUp (fUp (fUp (fUp (fUp (fUp g 27 (nI (160 * j))) 29 (nI n)) 6 (-1)) 28 (nI a)) 30 x30) 31 x31) fm hm so si sh ce ca td wa kp la bf oo bo pw ow tr)) at_X6_item_2 rfl rfl (Nat.le_of_ble_eq_true rfl) rfl (ab_rvOf w65 rfl) (Ev.vi (congrArg nI (if_neg (by omega))) (m_sd0 hj hn ha l_ce hce)) (by decide) rfl ?_
      refine E_if (t := 17) (b := true) at_X6_item_5 rfl (by decide) ?_
      refine E_aload_n at_X6_item_17 rfl ?_
      refine E_iconst (x := nI 1) at_X6_item_18 (by decide) ?_
      refine E_callV (v := some (.int (nI 0))) (As := [.ref 65, .int (nI 1)]) (r0 := []) (cs2 := (ww im lf s d k ls rf rz ra rn rq lt m1 m2 m3 m4 bd fc hd sz el q (fUp (fUp (fUp (fUp (fUp (fUp g 27 (nI (160 * j))) 29 (nI n)) 6 (-1)) 28 (nI a)) 30 x30) 31 x31) fm hm so si sh ce ca td wa kp la bf oo bo pw ow tr)) at_X6_item_19 rfl rfl (Nat.le_of_ble_eq_true rfl) rfl (ab_rvOf w65 rfl) (Ev.vi (congrArg nI (if_neg (by omega))) (m_sd1 hj hn ha l_ce hce)) (by decide) rfl ?_
      refine E_if (t := 43) (b := true) at_X6_item_22 rfl (by decide) ?_
      refine E_aload_n at_X6_item_43 rfl ?_
      refine E_callV (v := some (.int (-1))) (As := [.ref 65]) (r0 := []) (cs2 := (ww im lf s d k ls rf rz ra rn rq lt m1 m2 m3 m4 bd fc hd sz el q (fUp (fUp (fUp (fUp (fUp (fUp g 27 (nI (160 * j))) 29 (nI n)) 6 (-1)) 28 (nI a)) 30 x30) 31 (nI (a + 3))) fm hm so si sh ce ca td wa kp la bf oo bo pw ow tr)) at_X6_item_44 rfl rfl (Nat.le_of_ble_eq_true rfl) rfl (ab_rvOf w65 rfl) (m_wd3n hj hn ha l_ce hce hw hb0) (by decide) w_lens ?_
      refine E_istore_n (L2 := [some (.ref 65), some (.int (-1)), none, none]) at_X6_item_47 rfl ?_
      refine E_iload_n at_X6_item_48 rfl ?_
      refine E_iconst (x := (-1)) at_X6_item_49 (by decide) ?_
      refine E_ic (t := 55) (b := false) at_X6_item_50 rfl (by decide) ?_
      refine E_iconst (x := nI 0) at_X6_item_53 (by decide) ?_
      exact E_iret at_X6_item_54 rfl
    · rcases bo2 (dgB e n (a + 4)) with hd0 | hd0
      · have hz := mtc_n (e := e) (n := n) [104, 97, 115] a ha
        have hz_ : a + mj3 e n a ≤ n := hz
        have hb0_ := (chB_t hb0).1
        have hF0 : nuF e n (a + 3) 0 (qN q) = a + 3 + 2 := nuF_B hb0 hd0
        have hI : itF e n q a = a + 5 := (it_3 (q := q) hw).1.trans (by unfold hasF; rw [if_neg (by omega)]; exact hF0)
        refine ⟨q, nI (a + 4), nI 0, nI (a + 4), td, nI 0, ?_, l_td, Or.inr ⟨a + 4, by omega, rfl, rfl, rfl⟩⟩
        refine Ef.in (md := mX6_item) (L := [some (.ref 65), none, none, none]) rfl (Nat.le_of_ble_eq_true rfl) rfl ?_
        refine E_aload_n at_X6_item_0 rfl ?_
        refine E_iconst (x := nI 0) at_X6_item_1 (by decide) ?_
        refine E_callV (v := some (.int (nI 0))) (As := [.ref 65, .int (nI 0)]) (r0 := []) (cs2 := (ww im lf s d k ls rf rz ra rn rq lt m1 m2 m3 m4 bd fc hd sz el q (fUp (fUp (fUp (fUp (fUp (fUp g 27 (nI (160 * j))) 29 (nI n)) 6 (-1)) 28 (nI a)) 30 x30) 31 x31) fm hm so si sh ce ca td wa kp la bf oo bo pw ow tr)) at_X6_item_2 rfl rfl (Nat.le_of_ble_eq_true rfl) rfl (ab_rvOf w65 rfl) (Ev.vi (congrArg nI (if_neg (by omega))) (m_sd0 hj hn ha l_ce hce)) (by decide) rfl ?_
        refine E_if (t := 17) (b := true) at_X6_item_5 rfl (by decide) ?_
        refine E_aload_n at_X6_item_17 rfl ?_
        refine E_iconst (x := nI 1) at_X6_item_18 (by decide) ?_
        refine E_callV (v := some (.int (nI 0))) (As := [.ref 65, .int (nI 1)]) (r0 := []) (cs2 := (ww im lf s d k ls rf rz ra rn rq lt m1 m2 m3 m4 bd fc hd sz el q (fUp (fUp (fUp (fUp (fUp (fUp g 27 (nI (160 * j))) 29 (nI n)) 6 (-1)) 28 (nI a)) 30 x30) 31 x31) fm hm so si sh ce ca td wa kp la bf oo bo pw ow tr)) at_X6_item_19 rfl rfl (Nat.le_of_ble_eq_true rfl) rfl (ab_rvOf w65 rfl) (Ev.vi (congrArg nI (if_neg (by omega))) (m_sd1 hj hn ha l_ce hce)) (by decide) rfl ?_
        refine E_if (t := 43) (b := true) at_X6_item_22 rfl (by decide) ?_
        refine E_aload_n at_X6_item_43 rfl ?_
        refine E_callV (v := some (.int (nI 3))) (As := [.ref 65]) (r0 := []) (cs2 := (ww im lf s d k ls rf rz ra rn rq lt m1 m2 m3 m4 bd fc hd sz el q (fUp (fUp (fUp (fUp (fUp (fUp g 27 (nI (160 * j))) 29 (nI n)) 6 (-1)) 28 (nI (a + 4))) 30 x30) 31 x31) fm hm so si sh ce ca td wa kp la bf oo bo pw ow tr)) at_X6_item_44 rfl rfl (Nat.le_of_ble_eq_true rfl) rfl (ab_rvOf w65 rfl) (m_wd3b hj hn ha l_ce hce hw hb0) (by decide) w_lens ?_
        refine E_istore_n (L2 := [some (.ref 65), some (.int (nI 3)), none, none]) at_X6_item_47 rfl ?_
        refine E_iload_n at_X6_item_48 rfl ?_
        refine E_iconst (x := (-1)) at_X6_item_49 (by decide) ?_
        refine E_ic (t := 55) (b := true) at_X6_item_50 rfl (by decide) ?_
        refine E_iconst (x := nI 0) at_X6_item_55 (by decide) ?_
        refine E_istore_n (L2 := [some (.ref 65), some (.int (nI 3)), some (.int (nI 0)), none]) at_X6_item_56 rfl ?_
        exact mb30 hj hn (a := a + 3) (by omega) Iq l_td l_ce hce hb0 hd0
      · rcases Nat.lt_or_ge (nuV e n (a + 4)) (qN q) with hr0 | hr0
        · by_cases f4 : ((qP q).getD (nuV e n (a + 4)) 0) = 99
          · rcases bo2 (chB e n (cnE e n (a + 3)) 32) with hb1 | hb1
            · have hz := mtc_n (e := e) (n := n) [104, 97, 115] a ha
              have hz_ : a + mj3 e n a ≤ n := hz
              have hb0_ := (chB_t hb0).1
              have hd0_ := (dgB_t hd0).1
              have hV0 := nuV_99 hd0
              have hc0 := cnE_n hd0
              have hF0 : nuF e n (a + 3) 0 (qN q) = 0 := nuF_C hb0 hd0 (show ¬ (nuV e n (a + 4) < 0 ∨ (qN q) ≤ nuV e n (a + 4)) from by omega)
              have hF1 : nuF e n (cnE e n (a + 3)) 0 (qM q) = cnE e n (a + 3) + 1 := nuF_A hb1
              have hI : itF e n q a = cnE e n (a + 3) + 1 := (it_3 (q := q) hw).1.trans (by unfold hasF; rw [if_pos hF0, if_pos (by omega)]; exact hF1)
              refine ⟨q, nI (cnE e n (a + 3)), nI (nuV e n (a + 4)), nI (cnE e n (a + 3)), (td.set 0 (nI (nuV e n (a + 4)))), nI 0, ?_, (by simp only [List.length_set]; exact l_td), Or.inr ⟨cnE e n (a + 3), by omega, rfl, rfl, rfl⟩⟩
              refine Ef.in (md := mX6_item) (L := [some (.ref 65), none, none, none]) rfl (Nat.le_of_ble_eq_true rfl) rfl ?_
              refine E_aload_n at_X6_item_0 rfl ?_
              refine E_iconst (x := nI 0) at_X6_item_1 (by decide) ?_
              refine E_callV (v := some (.int (nI 0))) (As := [.ref 65, .int (nI 0)]) (r0 := []) (cs2 := (ww im lf s d k ls rf rz ra rn rq lt m1 m2 m3 m4 bd fc hd sz el q (fUp (fUp (fUp (fUp (fUp (fUp g 27 (nI (160 * j))) 29 (nI n)) 6 (-1)) 28 (nI a)) 30 x30) 31 x31) fm hm so si sh ce ca td wa kp la bf oo bo pw ow tr)) at_X6_item_2 rfl rfl (Nat.le_of_ble_eq_true rfl) rfl (ab_rvOf w65 rfl) (Ev.vi (congrArg nI (if_neg (by omega))) (m_sd0 hj hn ha l_ce hce)) (by decide) rfl ?_
              refine E_if (t := 17) (b := true) at_X6_item_5 rfl (by decide) ?_
              refine E_aload_n at_X6_item_17 rfl ?_
              refine E_iconst (x := nI 1) at_X6_item_18 (by decide) ?_
              refine E_callV (v := some (.int (nI 0))) (As := [.ref 65, .int (nI 1)]) (r0 := []) (cs2 := (ww im lf s d k ls rf rz ra rn rq lt m1 m2 m3 m4 bd fc hd sz el q (fUp (fUp (fUp (fUp (fUp (fUp g 27 (nI (160 * j))) 29 (nI n)) 6 (-1)) 28 (nI a)) 30 x30) 31 x31) fm hm so si sh ce ca td wa kp la bf oo bo pw ow tr)) at_X6_item_19 rfl rfl (Nat.le_of_ble_eq_true rfl) rfl (ab_rvOf w65 rfl) (Ev.vi (congrArg nI (if_neg (by omega))) (m_sd1 hj hn ha l_ce hce)) (by decide) rfl ?_
              refine E_if (t := 43) (b := true) at_X6_item_22 rfl (by decide) ?_
              refine E_aload_n at_X6_item_43 rfl ?_
              refine E_callV (v := some (.int (nI 3))) (As := [.ref 65]) (r0 := []) (cs2 := (ww im lf s d k ls rf rz ra rn rq lt m1 m2 m3 m4 bd fc hd sz el q (fUp (fUp (fUp (fUp (fUp (fUp g 27 (nI (160 * j))) 29 (nI n)) 6 (-1)) 28 (nI (a + 4))) 30 x30) 31 x31) fm hm so si sh ce ca td wa kp la bf oo bo pw ow tr)) at_X6_item_44 rfl rfl (Nat.le_of_ble_eq_true rfl) rfl (ab_rvOf w65 rfl) (m_wd3b hj hn ha l_ce hce hw hb0) (by decide) w_lens ?_
              refine E_istore_n (L2 := [some (.ref 65), some (.int (nI 3)), none, none]) at_X6_item_47 rfl ?_
              refine E_iload_n at_X6_item_48 rfl ?_
              refine E_iconst (x := (-1)) at_X6_item_49 (by decide) ?_
              refine E_ic (t := 55) (b := true) at_X6_item_50 rfl (by decide) ?_
              refine E_iconst (x := nI 0) at_X6_item_55 (by decide) ?_
              refine E_istore_n (L2 := [some (.ref 65), some (.int (nI 3)), some (.int (nI 0)), none]) at_X6_item_56 rfl ?_
              refine mc30 hj hn (a := a + 3) (by omega) Iq l_td l_ce hce hb0 hd0 (show 0 ≤ nuV e n (a + 4) from by omega) (show nuV e n (a + 4) < qN q from by omega) (show (qP q).getD (nuV e n (a + 4)) 0 = 99 from by omega) ?_
              exact ma31 hj hn (a := cnE e n (a + 3)) (by omega) Iq (by simp only [List.length_set]; exact l_td) l_ce hce hb1
            · rcases bo2 (dgB e n (cnE e n (a + 3) + 1)) with hd1 | hd1
              · have hz := mtc_n (e := e) (n := n) [104, 97, 115] a ha
                have hz_ : a + mj3 e n a ≤ n := hz
                have hb0_ := (chB_t hb0).1
                have hd0_ := (dgB_t hd0).1
                have hV0 := nuV_99 hd0
                have hc0 := cnE_n hd0
                have hb1_ := (chB_t hb1).1
                have hF0 : nuF e n (a + 3) 0 (qN q) = 0 := nuF_C hb0 hd0 (show ¬ (nuV e n (a + 4) < 0 ∨ (qN q) ≤ nuV e n (a + 4)) from by omega)
                have hF1 : nuF e n (cnE e n (a + 3)) 0 (qM q) = cnE e n (a + 3) + 2 := nuF_B hb1 hd1
                have hI : itF e n q a = cnE e n (a + 3) + 2 := (it_3 (q := q) hw).1.trans (by unfold hasF; rw [if_pos hF0, if_pos (by omega)]; exact hF1)
                refine ⟨q, nI (cnE e n (a + 3) + 1), nI 0, nI (cnE e n (a + 3) + 1), (td.set 0 (nI (nuV e n (a + 4)))), nI 0, ?_, (by simp only [List.length_set]; exact l_td), Or.inr ⟨cnE e n (a + 3) + 1, by omega, rfl, rfl, rfl⟩⟩
                refine Ef.in (md := mX6_item) (L := [some (.ref 65), none, none, none]) rfl (Nat.le_of_ble_eq_true rfl) rfl ?_
                refine E_aload_n at_X6_item_0 rfl ?_
                refine E_iconst (x := nI 0) at_X6_item_1 (by decide) ?_
                refine E_callV (v := some (.int (nI 0))) (As := [.ref 65, .int (nI 0)]) (r0 := []) (cs2 := (ww im lf s d k ls rf rz ra rn rq lt m1 m2 m3 m4 bd fc hd sz el q (fUp (fUp (fUp (fUp (fUp (fUp g 27 (nI (160 * j))) 29 (nI n)) 6 (-1)) 28 (nI a)) 30 x30) 31 x31) fm hm so si sh ce ca td wa kp la bf oo bo pw ow tr)) at_X6_item_2 rfl rfl (Nat.le_of_ble_eq_true rfl) rfl (ab_rvOf w65 rfl) (Ev.vi (congrArg nI (if_neg (by omega))) (m_sd0 hj hn ha l_ce hce)) (by decide) rfl ?_
                refine E_if (t := 17) (b := true) at_X6_item_5 rfl (by decide) ?_
                refine E_aload_n at_X6_item_17 rfl ?_
                refine E_iconst (x := nI 1) at_X6_item_18 (by decide) ?_
                refine E_callV (v := some (.int (nI 0))) (As := [.ref 65, .int (nI 1)]) (r0 := []) (cs2 := (ww im lf s d k ls rf rz ra rn rq lt m1 m2 m3 m4 bd fc hd sz el q (fUp (fUp (fUp (fUp (fUp (fUp g 27 (nI (160 * j))) 29 (nI n)) 6 (-1)) 28 (nI a)) 30 x30) 31 x31) fm hm so si sh ce ca td wa kp la bf oo bo pw ow tr)) at_X6_item_19 rfl rfl (Nat.le_of_ble_eq_true rfl) rfl (ab_rvOf w65 rfl) (Ev.vi (congrArg nI (if_neg (by omega))) (m_sd1 hj hn ha l_ce hce)) (by decide) rfl ?_
                refine E_if (t := 43) (b := true) at_X6_item_22 rfl (by decide) ?_
                refine E_aload_n at_X6_item_43 rfl ?_
                refine E_callV (v := some (.int (nI 3))) (As := [.ref 65]) (r0 := []) (cs2 := (ww im lf s d k ls rf rz ra rn rq lt m1 m2 m3 m4 bd fc hd sz el q (fUp (fUp (fUp (fUp (fUp (fUp g 27 (nI (160 * j))) 29 (nI n)) 6 (-1)) 28 (nI (a + 4))) 30 x30) 31 x31) fm hm so si sh ce ca td wa kp la bf oo bo pw ow tr)) at_X6_item_44 rfl rfl (Nat.le_of_ble_eq_true rfl) rfl (ab_rvOf w65 rfl) (m_wd3b hj hn ha l_ce hce hw hb0) (by decide) w_lens ?_
                refine E_istore_n (L2 := [some (.ref 65), some (.int (nI 3)), none, none]) at_X6_item_47 rfl ?_
                refine E_iload_n at_X6_item_48 rfl ?_
                refine E_iconst (x := (-1)) at_X6_item_49 (by decide) ?_
                refine E_ic (t := 55) (b := true) at_X6_item_50 rfl (by decide) ?_
                refine E_iconst (x := nI 0) at_X6_item_55 (by decide) ?_
                refine E_istore_n (L2 := [some (.ref 65), some (.int (nI 3)), some (.int (nI 0)), none]) at_X6_item_56 rfl ?_
                refine mc30 hj hn (a := a + 3) (by omega) Iq l_td l_ce hce hb0 hd0 (show 0 ≤ nuV e n (a + 4) from by omega) (show nuV e n (a + 4) < qN q from by omega) (show (qP q).getD (nuV e n (a + 4)) 0 = 99 from by omega) ?_
                exact mb31 hj hn (a := cnE e n (a + 3)) (by omega) Iq (by simp only [List.length_set]; exact l_td) l_ce hce hb1 hd1
              · rcases Nat.lt_or_ge (nuV e n (cnE e n (a + 3) + 1)) (qM q) with hr1 | hr1
                · have hz := mtc_n (e := e) (n := n) [104, 97, 115] a ha
                  have hz_ : a + mj3 e n a ≤ n := hz
                  have hb0_ := (chB_t hb0).1
                  have hd0_ := (dgB_t hd0).1
                  have hV0 := nuV_99 hd0
                  have hc0 := cnE_n hd0
                  have hb1_ := (chB_t hb1).1
                  have hd1_ := (dgB_t hd1).1
                  have hV1 := nuV_99 hd1
                  have hc1 := cnE_n hd1
                  have : ([3, 3, 2, 2, 1, 0, 0] : List Nat).length = 7 := rfl
                  have : ((td.set 0 (nI (nuV e n (a + 4)))).set 1 (nI (nuV e n (cnE e n (a + 3) + 1)))).length = 3 := by first | omega | (simp only [List.length_set]; omega)
                  have : (qP q).length = 9 := by first | omega | (simp only [List.length_set]; omega)
                  have hF0 : nuF e n (a + 3) 0 (qN q) = 0 := nuF_C hb0 hd0 (show ¬ (nuV e n (a + 4) < 0 ∨ (qN q) ≤ nuV e n (a + 4)) from by omega)
                  have hF1 : nuF e n (cnE e n (a + 3)) 0 (qM q) = 0 := nuF_C hb1 hd1 (show ¬ (nuV e n (cnE e n (a + 3) + 1) < 0 ∨ (qM q) ≤ nuV e n (cnE e n (a + 3) + 1)) from by omega)
                  have hI : itF e n q a = 0 := (it_3 (q := q) hw).1.trans (by unfold hasF; rw [if_pos hF0, if_pos (by omega)]; exact hF1)
                  have hE : itA e n a = cnE e n (cnE e n (a + 3)) := (it_3 (q := q) hw).2.2
                  refine ⟨(qs_P q ((qP q).set (nuV e n (a + 4)) (nuV e n (cnE e n (a + 3) + 1)))), nI (cnE e n (cnE e n (a + 3))), nI (nuV e n (cnE e n (a + 3) + 1)), x31, ((td.set 0 (nI (nuV e n (a + 4)))).set 1 (nI (nuV e n (cnE e n (a + 3) + 1)))), nI 1, ?_, (by simp only [List.length_set]; exact l_td), Or.inl ⟨hI, (it_3 (q := q) hw).2.1.symm, by rw [hE], rfl, by omega, by omega, (kP Iq (by omega))⟩⟩
                  refine Ef.in (md := mX6_item) (L := [some (.ref 65), none, none, none]) rfl (Nat.le_of_ble_eq_true rfl) rfl ?_
                  refine E_aload_n at_X6_item_0 rfl ?_
                  refine E_iconst (x := nI 0) at_X6_item_1 (by decide) ?_
                  refine E_callV (v := some (.int (nI 0))) (As := [.ref 65, .int (nI 0)]) (r0 := []) (cs2 := (ww im lf s d k ls rf rz ra rn rq lt m1 m2 m3 m4 bd fc hd sz el q (fUp (fUp (fUp (fUp (fUp (fUp g 27 (nI (160 * j))) 29 (nI n)) 6 (-1)) 28 (nI a)) 30 x30) 31 x31) fm hm so si sh ce ca td wa kp la bf oo bo pw ow tr)) at_X6_item_2 rfl rfl (Nat.le_of_ble_eq_true rfl) rfl (ab_rvOf w65 rfl) (Ev.vi (congrArg nI (if_neg (by omega))) (m_sd0 hj hn ha l_ce hce)) (by decide) rfl ?_
                  refine E_if (t := 17) (b := true) at_X6_item_5 rfl (by decide) ?_
                  refine E_aload_n at_X6_item_17 rfl ?_
                  refine E_iconst (x := nI 1) at_X6_item_18 (by decide) ?_
                  refine E_callV (v := some (.int (nI 0))) (As := [.ref 65, .int (nI 1)]) (r0 := []) (cs2 := (ww im lf s d k ls rf rz ra rn rq lt m1 m2 m3 m4 bd fc hd sz el q (fUp (fUp (fUp (fUp (fUp (fUp g 27 (nI (160 * j))) 29 (nI n)) 6 (-1)) 28 (nI a)) 30 x30) 31 x31) fm hm so si sh ce ca td wa kp la bf oo bo pw ow tr)) at_X6_item_19 rfl rfl (Nat.le_of_ble_eq_true rfl) rfl (ab_rvOf w65 rfl) (Ev.vi (congrArg nI (if_neg (by omega))) (m_sd1 hj hn ha l_ce hce)) (by decide) rfl ?_
                  refine E_if (t := 43) (b := true) at_X6_item_22 rfl (by decide) ?_
                  refine E_aload_n at_X6_item_43 rfl ?_
                  refine E_callV (v := some (.int (nI 3))) (As := [.ref 65]) (r0 := []) (cs2 := (ww im lf s d k ls rf rz ra rn rq lt m1 m2 m3 m4 bd fc hd sz el q (fUp (fUp (fUp (fUp (fUp (fUp g 27 (nI (160 * j))) 29 (nI n)) 6 (-1)) 28 (nI (a + 4))) 30 x30) 31 x31) fm hm so si sh ce ca td wa kp la bf oo bo pw ow tr)) at_X6_item_44 rfl rfl (Nat.le_of_ble_eq_true rfl) rfl (ab_rvOf w65 rfl) (m_wd3b hj hn ha l_ce hce hw hb0) (by decide) w_lens ?_
                  refine E_istore_n (L2 := [some (.ref 65), some (.int (nI 3)), none, none]) at_X6_item_47 rfl ?_
                  refine E_iload_n at_X6_item_48 rfl ?_
                  refine E_iconst (x := (-1)) at_X6_item_49 (by decide) ?_
                  refine E_ic (t := 55) (b := true) at_X6_item_50 rfl (by decide) ?_
                  refine E_iconst (x := nI 0) at_X6_item_55 (by decide) ?_
                  refine E_istore_n (L2 := [some (.ref 65), some (.int (nI 3)), some (.int (nI 0)), none]) at_X6_item_56 rfl ?_
                  refine mc30 hj hn (a := a + 3) (by omega) Iq l_td l_ce hce hb0 hd0 (show 0 ≤ nuV e n (a + 4) from by omega) (show nuV e n (a + 4) < qN q from by omega) (show (qP q).getD (nuV e n (a + 4)) 0 = 99 from by omega) ?_
                  refine mc31 hj hn (a := cnE e n (a + 3)) (by omega) Iq (by simp only [List.length_set]; exact l_td) l_ce hce hb1 hd1 (show 0 ≤ nuV e n (cnE e n (a + 3) + 1) from by omega) (show nuV e n (cnE e n (a + 3) + 1) < qM q from by omega) ?_
                  refine E_iload_n rfl rfl ?_
                  refine E_aload_n rfl rfl ?_
                  refine E_getfield (v := .ref 83) rfl w65 rfl (by decide) rfl ?_
                  refine E_iload_n rfl rfl ?_
                  refine E_ialN (l := [3, 3, 2, 2, 1, 0, 0]) (v := 2) rfl w83 (by omega) (by omega) rfl ?_
                  refine E_ic (t := 166) (b := true) rfl rfl (by decide) ?_
                  refine E_iload_n rfl rfl ?_
                  refine E_tsIn (off := 105) (t := 272) rfl (by decide) rfl rfl ?_
                  refine E_aload_n rfl rfl ?_
                  refine E_getfield (v := .ref 70) rfl w65 rfl (by decide) rfl ?_
                  refine E_aload_n rfl rfl ?_
                  refine E_getfield (v := .ref 85) rfl w65 rfl (by decide) rfl ?_
                  refine E_iconst (x := nI 0) rfl (by decide) ?_
                  refine E_ialI (l := ((td.set 0 (nI (nuV e n (a + 4)))).set 1 (nI (nuV e n (cnE e n (a + 3) + 1))))) (v := nI (nuV e n (a + 4))) rfl w85 (by omega) (by omega) ((ab_gs1 (by decide)).trans (ab_gs2 (by first | omega | (simp only [List.length_set]; omega)))) ?_
                  refine E_aload_n rfl rfl ?_
                  refine E_getfield (v := .ref 85) rfl w65 rfl (by decide) rfl ?_
                  refine E_iconst (x := nI 1) rfl (by decide) ?_
                  refine E_ialI (l := ((td.set 0 (nI (nuV e n (a + 4)))).set 1 (nI (nuV e n (cnE e n (a + 3) + 1))))) (v := nI (nuV e n (cnE e n (a + 3) + 1))) rfl w85 (by omega) (by omega) (ab_gs2 (by first | omega | (simp only [List.length_set]; omega))) ?_
                  refine E_iasN (l := qP q) (cs2 := (ww im lf s d k ls rf rz ra rn rq lt m1 m2 m3 m4 bd fc hd sz el (qs_P q ((qP q).set (nuV e n (a + 4)) (nuV e n (cnE e n (a + 3) + 1)))) (fUp (fUp (fUp (fUp (fUp (fUp g 27 (nI (160 * j))) 29 (nI n)) 6 (-1)) 28 (nI (cnE e n (cnE e n (a + 3))))) 30 (nI (nuV e n (cnE e n (a + 3) + 1)))) 31 x31) fm hm so si sh ce ca ((td.set 0 (nI (nuV e n (a + 4)))).set 1 (nI (nuV e n (cnE e n (a + 3) + 1)))) wa kp la bf oo bo pw ow tr)) rfl w70 (by omega) (by omega) w_pt65_P ?_
                  refine E_goto (t := 316) rfl rfl ?_
                  refine E_iconst (x := nI 1) rfl (by decide) ?_
                  exact E_iret rfl rfl
                · have hz := mtc_n (e := e) (n := n) [104, 97, 115] a ha
                  have hz_ : a + mj3 e n a ≤ n := hz
                  have hb0_ := (chB_t hb0).1
                  have hd0_ := (dgB_t hd0).1
                  have hV0 := nuV_99 hd0
                  have hc0 := cnE_n hd0
                  have hb1_ := (chB_t hb1).1
                  have hd1_ := (dgB_t hd1).1
                  have hV1 := nuV_99 hd1
                  have hF0 : nuF e n (a + 3) 0 (qN q) = 0 := nuF_C hb0 hd0 (show ¬ (nuV e n (a + 4) < 0 ∨ (qN q) ≤ nuV e n (a + 4)) from by omega)
                  have hF1 : nuF e n (cnE e n (a + 3)) 0 (qM q) = cnE e n (a + 3) + 2 := nuF_D hb1 hd1 (show nuV e n (cnE e n (a + 3) + 1) < 0 ∨ (qM q) ≤ nuV e n (cnE e n (a + 3) + 1) from by omega)
                  have hI : itF e n q a = cnE e n (a + 3) + 2 := (it_3 (q := q) hw).1.trans (by unfold hasF; rw [if_pos hF0, if_pos (by omega)]; exact hF1)
                  refine ⟨q, nI (cnE e n (cnE e n (a + 3))), nI (nuV e n (cnE e n (a + 3) + 1)), nI (cnE e n (a + 3) + 1), (td.set 0 (nI (nuV e n (a + 4)))), nI 0, ?_, (by simp only [List.length_set]; exact l_td), Or.inr ⟨cnE e n (a + 3) + 1, by omega, rfl, rfl, rfl⟩⟩
                  refine Ef.in (md := mX6_item) (L := [some (.ref 65), none, none, none]) rfl (Nat.le_of_ble_eq_true rfl) rfl ?_
                  refine E_aload_n at_X6_item_0 rfl ?_
                  refine E_iconst (x := nI 0) at_X6_item_1 (by decide) ?_
                  refine E_callV (v := some (.int (nI 0))) (As := [.ref 65, .int (nI 0)]) (r0 := []) (cs2 := (ww im lf s d k ls rf rz ra rn rq lt m1 m2 m3 m4 bd fc hd sz el q (fUp (fUp (fUp (fUp (fUp (fUp g 27 (nI (160 * j))) 29 (nI n)) 6 (-1)) 28 (nI a)) 30 x30) 31 x31) fm hm so si sh ce ca td wa kp la bf oo bo pw ow tr)) at_X6_item_2 rfl rfl (Nat.le_of_ble_eq_true rfl) rfl (ab_rvOf w65 rfl) (Ev.vi (congrArg nI (if_neg (by omega))) (m_sd0 hj hn ha l_ce hce)) (by decide) rfl ?_
                  refine E_if (t := 17) (b := true) at_X6_item_5 rfl (by decide) ?_
                  refine E_aload_n at_X6_item_17 rfl ?_
                  refine E_iconst (x := nI 1) at_X6_item_18 (by decide) ?_
                  refine E_callV (v := some (.int (nI 0))) (As := [.ref 65, .int (nI 1)]) (r0 := []) (cs2 := (ww im lf s d k ls rf rz ra rn rq lt m1 m2 m3 m4 bd fc hd sz el q (fUp (fUp (fUp (fUp (fUp (fUp g 27 (nI (160 * j))) 29 (nI n)) 6 (-1)) 28 (nI a)) 30 x30) 31 x31) fm hm so si sh ce ca td wa kp la bf oo bo pw ow tr)) at_X6_item_19 rfl rfl (Nat.le_of_ble_eq_true rfl) rfl (ab_rvOf w65 rfl) (Ev.vi (congrArg nI (if_neg (by omega))) (m_sd1 hj hn ha l_ce hce)) (by decide) rfl ?_
                  refine E_if (t := 43) (b := true) at_X6_item_22 rfl (by decide) ?_
                  refine E_aload_n at_X6_item_43 rfl ?_
                  refine E_callV (v := some (.int (nI 3))) (As := [.ref 65]) (r0 := []) (cs2 := (ww im lf s d k ls rf rz ra rn rq lt m1 m2 m3 m4 bd fc hd sz el q (fUp (fUp (fUp (fUp (fUp (fUp g 27 (nI (160 * j))) 29 (nI n)) 6 (-1)) 28 (nI (a + 4))) 30 x30) 31 x31) fm hm so si sh ce ca td wa kp la bf oo bo pw ow tr)) at_X6_item_44 rfl rfl (Nat.le_of_ble_eq_true rfl) rfl (ab_rvOf w65 rfl) (m_wd3b hj hn ha l_ce hce hw hb0) (by decide) w_lens ?_
                  refine E_istore_n (L2 := [some (.ref 65), some (.int (nI 3)), none, none]) at_X6_item_47 rfl ?_
                  refine E_iload_n at_X6_item_48 rfl ?_
                  refine E_iconst (x := (-1)) at_X6_item_49 (by decide) ?_
                  refine E_ic (t := 55) (b := true) at_X6_item_50 rfl (by decide) ?_
                  refine E_iconst (x := nI 0) at_X6_item_55 (by decide) ?_
                  refine E_istore_n (L2 := [some (.ref 65), some (.int (nI 3)), some (.int (nI 0)), none]) at_X6_item_56 rfl ?_
                  refine mc30 hj hn (a := a + 3) (by omega) Iq l_td l_ce hce hb0 hd0 (show 0 ≤ nuV e n (a + 4) from by omega) (show nuV e n (a + 4) < qN q from by omega) (show (qP q).getD (nuV e n (a + 4)) 0 = 99 from by omega) ?_
                  exact md310 hj hn (a := cnE e n (a + 3)) (by omega) Iq (by simp only [List.length_set]; exact l_td) l_ce hce hb1 hd1 (show qM q ≤ nuV e n (cnE e n (a + 3) + 1) from by omega)
          · have hz := mtc_n (e := e) (n := n) [104, 97, 115] a ha
            have hz_ : a + mj3 e n a ≤ n := hz
            have hb0_ := (chB_t hb0).1
            have hd0_ := (dgB_t hd0).1
            have hV0 := nuV_99 hd0
            have hc0 := cnE_n hd0
            have hF0 : nuF e n (a + 3) 0 (qN q) = 0 := nuF_C hb0 hd0 (show ¬ (nuV e n (a + 4) < 0 ∨ (qN q) ≤ nuV e n (a + 4)) from by omega)
            have hI : itF e n q a = a + 5 := (it_3 (q := q) hw).1.trans (by unfold hasF; rw [if_pos hF0, if_neg (by omega)])
            refine ⟨q, nI (cnE e n (a + 3)), nI (nuV e n (a + 4)), nI (a + 4), td, nI 0, ?_, l_td, Or.inr ⟨a + 4, by omega, rfl, rfl, rfl⟩⟩
            refine Ef.in (md := mX6_item) (L := [some (.ref 65), none, none, none]) rfl (Nat.le_of_ble_eq_true rfl) rfl ?_
            refine E_aload_n at_X6_item_0 rfl ?_
            refine E_iconst (x := nI 0) at_X6_item_1 (by decide) ?_
            refine E_callV (v := some (.int (nI 0))) (As := [.ref 65, .int (nI 0)]) (r0 := []) (cs2 := (ww im lf s d k ls rf rz ra rn rq lt m1 m2 m3 m4 bd fc hd sz el q (fUp (fUp (fUp (fUp (fUp (fUp g 27 (nI (160 * j))) 29 (nI n)) 6 (-1)) 28 (nI a)) 30 x30) 31 x31) fm hm so si sh ce ca td wa kp la bf oo bo pw ow tr)) at_X6_item_2 rfl rfl (Nat.le_of_ble_eq_true rfl) rfl (ab_rvOf w65 rfl) (Ev.vi (congrArg nI (if_neg (by omega))) (m_sd0 hj hn ha l_ce hce)) (by decide) rfl ?_
            refine E_if (t := 17) (b := true) at_X6_item_5 rfl (by decide) ?_
            refine E_aload_n at_X6_item_17 rfl ?_
            refine E_iconst (x := nI 1) at_X6_item_18 (by decide) ?_
            refine E_callV (v := some (.int (nI 0))) (As := [.ref 65, .int (nI 1)]) (r0 := []) (cs2 := (ww im lf s d k ls rf rz ra rn rq lt m1 m2 m3 m4 bd fc hd sz el q (fUp (fUp (fUp (fUp (fUp (fUp g 27 (nI (160 * j))) 29 (nI n)) 6 (-1)) 28 (nI a)) 30 x30) 31 x31) fm hm so si sh ce ca td wa kp la bf oo bo pw ow tr)) at_X6_item_19 rfl rfl (Nat.le_of_ble_eq_true rfl) rfl (ab_rvOf w65 rfl) (Ev.vi (congrArg nI (if_neg (by omega))) (m_sd1 hj hn ha l_ce hce)) (by decide) rfl ?_
            refine E_if (t := 43) (b := true) at_X6_item_22 rfl (by decide) ?_
            refine E_aload_n at_X6_item_43 rfl ?_
            refine E_callV (v := some (.int (nI 3))) (As := [.ref 65]) (r0 := []) (cs2 := (ww im lf s d k ls rf rz ra rn rq lt m1 m2 m3 m4 bd fc hd sz el q (fUp (fUp (fUp (fUp (fUp (fUp g 27 (nI (160 * j))) 29 (nI n)) 6 (-1)) 28 (nI (a + 4))) 30 x30) 31 x31) fm hm so si sh ce ca td wa kp la bf oo bo pw ow tr)) at_X6_item_44 rfl rfl (Nat.le_of_ble_eq_true rfl) rfl (ab_rvOf w65 rfl) (m_wd3b hj hn ha l_ce hce hw hb0) (by decide) w_lens ?_
            refine E_istore_n (L2 := [some (.ref 65), some (.int (nI 3)), none, none]) at_X6_item_47 rfl ?_
            refine E_iload_n at_X6_item_48 rfl ?_
            refine E_iconst (x := (-1)) at_X6_item_49 (by decide) ?_
            refine E_ic (t := 55) (b := true) at_X6_item_50 rfl (by decide) ?_
            refine E_iconst (x := nI 0) at_X6_item_55 (by decide) ?_
            refine E_istore_n (L2 := [some (.ref 65), some (.int (nI 3)), some (.int (nI 0)), none]) at_X6_item_56 rfl ?_
            exact md301 hj hn (a := a + 3) (by omega) Iq l_td l_ce hce hb0 hd0 (show nuV e n (a + 4) < qN q from by omega) (show ¬ (qP q).getD (nuV e n (a + 4)) 0 = 99 from by omega)
        · have hz := mtc_n (e := e) (n := n) [104, 97, 115] a ha
          have hz_ : a + mj3 e n a ≤ n := hz
          have hb0_ := (chB_t hb0).1
          have hd0_ := (dgB_t hd0).1
          have hV0 := nuV_99 hd0
          have hF0 : nuF e n (a + 3) 0 (qN q) = a + 3 + 2 := nuF_D hb0 hd0 (show nuV e n (a + 4) < 0 ∨ (qN q) ≤ nuV e n (a + 4) from by omega)
          have hI : itF e n q a = a + 5 := (it_3 (q := q) hw).1.trans (by unfold hasF; rw [if_neg (by omega)]; exact hF0)
          refine ⟨q, nI (cnE e n (a + 3)), nI (nuV e n (a + 4)), nI (a + 4), td, nI 0, ?_, l_td, Or.inr ⟨a + 4, by omega, rfl, rfl, rfl⟩⟩
          refine Ef.in (md := mX6_item) (L := [some (.ref 65), none, none, none]) rfl (Nat.le_of_ble_eq_true rfl) rfl ?_
          refine E_aload_n at_X6_item_0 rfl ?_
          refine E_iconst (x := nI 0) at_X6_item_1 (by decide) ?_
          refine E_callV (v := some (.int (nI 0))) (As := [.ref 65, .int (nI 0)]) (r0 := []) (cs2 := (ww im lf s d k ls rf rz ra rn rq lt m1 m2 m3 m4 bd fc hd sz el q (fUp (fUp (fUp (fUp (fUp (fUp g 27 (nI (160 * j))) 29 (nI n)) 6 (-1)) 28 (nI a)) 30 x30) 31 x31) fm hm so si sh ce ca td wa kp la bf oo bo pw ow tr)) at_X6_item_2 rfl rfl (Nat.le_of_ble_eq_true rfl) rfl (ab_rvOf w65 rfl) (Ev.vi (congrArg nI (if_neg (by omega))) (m_sd0 hj hn ha l_ce hce)) (by decide) rfl ?_
          refine E_if (t := 17) (b := true) at_X6_item_5 rfl (by decide) ?_
          refine E_aload_n at_X6_item_17 rfl ?_
          refine E_iconst (x := nI 1) at_X6_item_18 (by decide) ?_
          refine E_callV (v := some (.int (nI 0))) (As := [.ref 65, .int (nI 1)]) (r0 := []) (cs2 := (ww im lf s d k ls rf rz ra rn rq lt m1 m2 m3 m4 bd fc hd sz el q (fUp (fUp (fUp (fUp (fUp (fUp g 27 (nI (160 * j))) 29 (nI n)) 6 (-1)) 28 (nI a)) 30 x30) 31 x31) fm hm so si sh ce ca td wa kp la bf oo bo pw ow tr)) at_X6_item_19 rfl rfl (Nat.le_of_ble_eq_true rfl) rfl (ab_rvOf w65 rfl) (Ev.vi (congrArg nI (if_neg (by omega))) (m_sd1 hj hn ha l_ce hce)) (by decide) rfl ?_
          refine E_if (t := 43) (b := true) at_X6_item_22 rfl (by decide) ?_
          refine E_aload_n at_X6_item_43 rfl ?_
          refine E_callV (v := some (.int (nI 3))) (As := [.ref 65]) (r0 := []) (cs2 := (ww im lf s d k ls rf rz ra rn rq lt m1 m2 m3 m4 bd fc hd sz el q (fUp (fUp (fUp (fUp (fUp (fUp g 27 (nI (160 * j))) 29 (nI n)) 6 (-1)) 28 (nI (a + 4))) 30 x30) 31 x31) fm hm so si sh ce ca td wa kp la bf oo bo pw ow tr)) at_X6_item_44 rfl rfl (Nat.le_of_ble_eq_true rfl) rfl (ab_rvOf w65 rfl) (m_wd3b hj hn ha l_ce hce hw hb0) (by decide) w_lens ?_
          refine E_istore_n (L2 := [some (.ref 65), some (.int (nI 3)), none, none]) at_X6_item_47 rfl ?_
          refine E_iload_n at_X6_item_48 rfl ?_
          refine E_iconst (x := (-1)) at_X6_item_49 (by decide) ?_
          refine E_ic (t := 55) (b := true) at_X6_item_50 rfl (by decide) ?_
          refine E_iconst (x := nI 0) at_X6_item_55 (by decide) ?_
          refine E_istore_n (L2 := [some (.ref 65), some (.int (nI 3)), some (.int (nI 0)), none]) at_X6_item_56 rfl ?_
          exact md300 hj hn (a := a + 3) (by omega) Iq l_td l_ce hce hb0 hd0 (show qN q ≤ nuV e n (a + 4) from by omega)
  · rcases bo2 (chB e n (a + 4) 32) with hb0 | hb0
    · have hz := mtc_n (e := e) (n := n) [98, 97, 99, 107] a ha
      have hz_ : a + mj4 e n a ≤ n := hz
      have hF0 : nuF e n (a + 4) 0 (qN q) = a + 4 + 1 := nuF_A hb0
      have hI : itF e n q a = a + 5 := (it_4 (q := q) hw).1.trans (by unfold bakF; rw [if_neg (by omega)]; exact hF0)
      refine ⟨q, nI a, x30, nI (a + 4), td, nI 0, ?_, l_td, Or.inr ⟨a + 4, by omega, rfl, rfl, rfl⟩⟩
      refine Ef.in (md := mX6_item) (L := [some (.ref 65), none, none, none]) rfl (Nat.le_of_ble_eq_true rfl) rfl ?_
      refine E_aload_n at_X6_item_0 rfl ?_
      refine E_iconst (x := nI 0) at_X6_item_1 (by decide) ?_
      refine E_callV (v := some (.int (nI 0))) (As := [.ref 65, .int (nI 0)]) (r0 := []) (cs2 := (ww im lf s d k ls rf rz ra rn rq lt m1 m2 m3 m4 bd fc hd sz el q (fUp (fUp (fUp (fUp (fUp (fUp g 27 (nI (160 * j))) 29 (nI n)) 6 (-1)) 28 (nI a)) 30 x30) 31 x31) fm hm so si sh ce ca td wa kp la bf oo bo pw ow tr)) at_X6_item_2 rfl rfl (Nat.le_of_ble_eq_true rfl) rfl (ab_rvOf w65 rfl) (Ev.vi (congrArg nI (if_neg (by omega))) (m_sd0 hj hn ha l_ce hce)) (by decide) rfl ?_
      refine E_if (t := 17) (b := true) at_X6_item_5 rfl (by decide) ?_
      refine E_aload_n at_X6_item_17 rfl ?_
      refine E_iconst (x := nI 1) at_X6_item_18 (by decide) ?_
      refine E_callV (v := some (.int (nI 0))) (As := [.ref 65, .int (nI 1)]) (r0 := []) (cs2 := (ww im lf s d k ls rf rz ra rn rq lt m1 m2 m3 m4 bd fc hd sz el q (fUp (fUp (fUp (fUp (fUp (fUp g 27 (nI (160 * j))) 29 (nI n)) 6 (-1)) 28 (nI a)) 30 x30) 31 x31) fm hm so si sh ce ca td wa kp la bf oo bo pw ow tr)) at_X6_item_19 rfl rfl (Nat.le_of_ble_eq_true rfl) rfl (ab_rvOf w65 rfl) (Ev.vi (congrArg nI (if_neg (by omega))) (m_sd1 hj hn ha l_ce hce)) (by decide) rfl ?_
      refine E_if (t := 43) (b := true) at_X6_item_22 rfl (by decide) ?_
      refine E_aload_n at_X6_item_43 rfl ?_
      refine E_callV (v := some (.int (-1))) (As := [.ref 65]) (r0 := []) (cs2 := (ww im lf s d k ls rf rz ra rn rq lt m1 m2 m3 m4 bd fc hd sz el q (fUp (fUp (fUp (fUp (fUp (fUp g 27 (nI (160 * j))) 29 (nI n)) 6 (-1)) 28 (nI a)) 30 x30) 31 (nI (a + 4))) fm hm so si sh ce ca td wa kp la bf oo bo pw ow tr)) at_X6_item_44 rfl rfl (Nat.le_of_ble_eq_true rfl) rfl (ab_rvOf w65 rfl) (m_wd4n hj hn ha l_ce hce hw hb0) (by decide) w_lens ?_
      refine E_istore_n (L2 := [some (.ref 65), some (.int (-1)), none, none]) at_X6_item_47 rfl ?_
      refine E_iload_n at_X6_item_48 rfl ?_
      refine E_iconst (x := (-1)) at_X6_item_49 (by decide) ?_
      refine E_ic (t := 55) (b := false) at_X6_item_50 rfl (by decide) ?_
      refine E_iconst (x := nI 0) at_X6_item_53 (by decide) ?_
      exact E_iret at_X6_item_54 rfl
    · rcases bo2 (dgB e n (a + 5)) with hd0 | hd0
      · have hz := mtc_n (e := e) (n := n) [98, 97, 99, 107] a ha
        have hz_ : a + mj4 e n a ≤ n := hz
        have hb0_ := (chB_t hb0).1
        have hF0 : nuF e n (a + 4) 0 (qN q) = a + 4 + 2 := nuF_B hb0 hd0
        have hI : itF e n q a = a + 6 := (it_4 (q := q) hw).1.trans (by unfold bakF; rw [if_neg (by omega)]; exact hF0)
        refine ⟨q, nI (a + 5), nI 0, nI (a + 5), td, nI 0, ?_, l_td, Or.inr ⟨a + 5, by omega, rfl, rfl, rfl⟩⟩
        refine Ef.in (md := mX6_item) (L := [some (.ref 65), none, none, none]) rfl (Nat.le_of_ble_eq_true rfl) rfl ?_
        refine E_aload_n at_X6_item_0 rfl ?_
        refine E_iconst (x := nI 0) at_X6_item_1 (by decide) ?_
        refine E_callV (v := some (.int (nI 0))) (As := [.ref 65, .int (nI 0)]) (r0 := []) (cs2 := (ww im lf s d k ls rf rz ra rn rq lt m1 m2 m3 m4 bd fc hd sz el q (fUp (fUp (fUp (fUp (fUp (fUp g 27 (nI (160 * j))) 29 (nI n)) 6 (-1)) 28 (nI a)) 30 x30) 31 x31) fm hm so si sh ce ca td wa kp la bf oo bo pw ow tr)) at_X6_item_2 rfl rfl (Nat.le_of_ble_eq_true rfl) rfl (ab_rvOf w65 rfl) (Ev.vi (congrArg nI (if_neg (by omega))) (m_sd0 hj hn ha l_ce hce)) (by decide) rfl ?_
        refine E_if (t := 17) (b := true) at_X6_item_5 rfl (by decide) ?_
        refine E_aload_n at_X6_item_17 rfl ?_
        refine E_iconst (x := nI 1) at_X6_item_18 (by decide) ?_
        refine E_callV (v := some (.int (nI 0))) (As := [.ref 65, .int (nI 1)]) (r0 := []) (cs2 := (ww im lf s d k ls rf rz ra rn rq lt m1 m2 m3 m4 bd fc hd sz el q (fUp (fUp (fUp (fUp (fUp (fUp g 27 (nI (160 * j))) 29 (nI n)) 6 (-1)) 28 (nI a)) 30 x30) 31 x31) fm hm so si sh ce ca td wa kp la bf oo bo pw ow tr)) at_X6_item_19 rfl rfl (Nat.le_of_ble_eq_true rfl) rfl (ab_rvOf w65 rfl) (Ev.vi (congrArg nI (if_neg (by omega))) (m_sd1 hj hn ha l_ce hce)) (by decide) rfl ?_
        refine E_if (t := 43) (b := true) at_X6_item_22 rfl (by decide) ?_
        refine E_aload_n at_X6_item_43 rfl ?_
        refine E_callV (v := some (.int (nI 4))) (As := [.ref 65]) (r0 := []) (cs2 := (ww im lf s d k ls rf rz ra rn rq lt m1 m2 m3 m4 bd fc hd sz el q (fUp (fUp (fUp (fUp (fUp (fUp g 27 (nI (160 * j))) 29 (nI n)) 6 (-1)) 28 (nI (a + 5))) 30 x30) 31 x31) fm hm so si sh ce ca td wa kp la bf oo bo pw ow tr)) at_X6_item_44 rfl rfl (Nat.le_of_ble_eq_true rfl) rfl (ab_rvOf w65 rfl) (m_wd4b hj hn ha l_ce hce hw hb0) (by decide) w_lens ?_
        refine E_istore_n (L2 := [some (.ref 65), some (.int (nI 4)), none, none]) at_X6_item_47 rfl ?_
        refine E_iload_n at_X6_item_48 rfl ?_
        refine E_iconst (x := (-1)) at_X6_item_49 (by decide) ?_
        refine E_ic (t := 55) (b := true) at_X6_item_50 rfl (by decide) ?_
        refine E_iconst (x := nI 0) at_X6_item_55 (by decide) ?_
        refine E_istore_n (L2 := [some (.ref 65), some (.int (nI 4)), some (.int (nI 0)), none]) at_X6_item_56 rfl ?_
        exact mb40 hj hn (a := a + 4) (by omega) Iq l_td l_ce hce hb0 hd0
      · rcases Nat.lt_or_ge (nuV e n (a + 5)) (qN q) with hr0 | hr0
        · by_cases f4 : ((qP q).getD (nuV e n (a + 5)) 0) = 99
          · have hz := mtc_n (e := e) (n := n) [98, 97, 99, 107] a ha
            have hz_ : a + mj4 e n a ≤ n := hz
            have hb0_ := (chB_t hb0).1
            have hd0_ := (dgB_t hd0).1
            have hV0 := nuV_99 hd0
            have hc0 := cnE_n hd0
            have hF0 : nuF e n (a + 4) 0 (qN q) = 0 := nuF_C hb0 hd0 (show ¬ (nuV e n (a + 5) < 0 ∨ (qN q) ≤ nuV e n (a + 5)) from by omega)
            have hI : itF e n q a = a + 6 := (it_4 (q := q) hw).1.trans (by unfold bakF; rw [if_pos hF0, if_pos (by omega)])
            refine ⟨q, nI (cnE e n (a + 4)), nI (nuV e n (a + 5)), nI (a + 5), td, nI 0, ?_, l_td, Or.inr ⟨a + 5, by omega, rfl, rfl, rfl⟩⟩
            refine Ef.in (md := mX6_item) (L := [some (.ref 65), none, none, none]) rfl (Nat.le_of_ble_eq_true rfl) rfl ?_
            refine E_aload_n at_X6_item_0 rfl ?_
            refine E_iconst (x := nI 0) at_X6_item_1 (by decide) ?_
            refine E_callV (v := some (.int (nI 0))) (As := [.ref 65, .int (nI 0)]) (r0 := []) (cs2 := (ww im lf s d k ls rf rz ra rn rq lt m1 m2 m3 m4 bd fc hd sz el q (fUp (fUp (fUp (fUp (fUp (fUp g 27 (nI (160 * j))) 29 (nI n)) 6 (-1)) 28 (nI a)) 30 x30) 31 x31) fm hm so si sh ce ca td wa kp la bf oo bo pw ow tr)) at_X6_item_2 rfl rfl (Nat.le_of_ble_eq_true rfl) rfl (ab_rvOf w65 rfl) (Ev.vi (congrArg nI (if_neg (by omega))) (m_sd0 hj hn ha l_ce hce)) (by decide) rfl ?_
            refine E_if (t := 17) (b := true) at_X6_item_5 rfl (by decide) ?_
            refine E_aload_n at_X6_item_17 rfl ?_
            refine E_iconst (x := nI 1) at_X6_item_18 (by decide) ?_
            refine E_callV (v := some (.int (nI 0))) (As := [.ref 65, .int (nI 1)]) (r0 := []) (cs2 := (ww im lf s d k ls rf rz ra rn rq lt m1 m2 m3 m4 bd fc hd sz el q (fUp (fUp (fUp (fUp (fUp (fUp g 27 (nI (160 * j))) 29 (nI n)) 6 (-1)) 28 (nI a)) 30 x30) 31 x31) fm hm so si sh ce ca td wa kp la bf oo bo pw ow tr)) at_X6_item_19 rfl rfl (Nat.le_of_ble_eq_true rfl) rfl (ab_rvOf w65 rfl) (Ev.vi (congrArg nI (if_neg (by omega))) (m_sd1 hj hn ha l_ce hce)) (by decide) rfl ?_
            refine E_if (t := 43) (b := true) at_X6_item_22 rfl (by decide) ?_
            refine E_aload_n at_X6_item_43 rfl ?_
            refine E_callV (v := some (.int (nI 4))) (As := [.ref 65]) (r0 := []) (cs2 := (ww im lf s d k ls rf rz ra rn rq lt m1 m2 m3 m4 bd fc hd sz el q (fUp (fUp (fUp (fUp (fUp (fUp g 27 (nI (160 * j))) 29 (nI n)) 6 (-1)) 28 (nI (a + 5))) 30 x30) 31 x31) fm hm so si sh ce ca td wa kp la bf oo bo pw ow tr)) at_X6_item_44 rfl rfl (Nat.le_of_ble_eq_true rfl) rfl (ab_rvOf w65 rfl) (m_wd4b hj hn ha l_ce hce hw hb0) (by decide) w_lens ?_
            refine E_istore_n (L2 := [some (.ref 65), some (.int (nI 4)), none, none]) at_X6_item_47 rfl ?_
            refine E_iload_n at_X6_item_48 rfl ?_
            refine E_iconst (x := (-1)) at_X6_item_49 (by decide) ?_
            refine E_ic (t := 55) (b := true) at_X6_item_50 rfl (by decide) ?_
            refine E_iconst (x := nI 0) at_X6_item_55 (by decide) ?_
            refine E_istore_n (L2 := [some (.ref 65), some (.int (nI 4)), some (.int (nI 0)), none]) at_X6_item_56 rfl ?_
            exact md401 hj hn (a := a + 4) (by omega) Iq l_td l_ce hce hb0 hd0 (show nuV e n (a + 5) < qN q from by omega) (show (qP q).getD (nuV e n (a + 5)) 0 = 99 from by omega)
          · have hz := mtc_n (e := e) (n := n) [98, 97, 99, 107] a ha
            have hz_ : a + mj4 e n a ≤ n := hz
            have hb0_ := (chB_t hb0).1
            have hd0_ := (dgB_t hd0).1
            have hV0 := nuV_99 hd0
            have hc0 := cnE_n hd0
            have : ([3, 3, 2, 2, 1, 0, 0] : List Nat).length = 7 := rfl
            have : (td.set 0 (nI (nuV e n (a + 5)))).length = 3 := by first | omega | (simp only [List.length_set]; omega)
            have : (qP q).length = 9 := by first | omega | (simp only [List.length_set]; omega)
            have hF0 : nuF e n (a + 4) 0 (qN q) = 0 := nuF_C hb0 hd0 (show ¬ (nuV e n (a + 5) < 0 ∨ (qN q) ≤ nuV e n (a + 5)) from by omega)
            have hI : itF e n q a = 0 := (it_4 (q := q) hw).1.trans (by unfold bakF; rw [if_pos hF0, if_neg (by omega)])
            have hE : itA e n a = cnE e n (a + 4) := (it_4 (q := q) hw).2.2
            refine ⟨(qs_P q ((qP q).set (nuV e n (a + 5)) 99)), nI (cnE e n (a + 4)), nI (nuV e n (a + 5)), x31, (td.set 0 (nI (nuV e n (a + 5)))), nI 1, ?_, (by simp only [List.length_set]; exact l_td), Or.inl ⟨hI, (it_4 (q := q) hw).2.1.symm, by rw [hE], rfl, by omega, by omega, (kP Iq (by omega))⟩⟩
            refine Ef.in (md := mX6_item) (L := [some (.ref 65), none, none, none]) rfl (Nat.le_of_ble_eq_true rfl) rfl ?_
            refine E_aload_n at_X6_item_0 rfl ?_
            refine E_iconst (x := nI 0) at_X6_item_1 (by decide) ?_
            refine E_callV (v := some (.int (nI 0))) (As := [.ref 65, .int (nI 0)]) (r0 := []) (cs2 := (ww im lf s d k ls rf rz ra rn rq lt m1 m2 m3 m4 bd fc hd sz el q (fUp (fUp (fUp (fUp (fUp (fUp g 27 (nI (160 * j))) 29 (nI n)) 6 (-1)) 28 (nI a)) 30 x30) 31 x31) fm hm so si sh ce ca td wa kp la bf oo bo pw ow tr)) at_X6_item_2 rfl rfl (Nat.le_of_ble_eq_true rfl) rfl (ab_rvOf w65 rfl) (Ev.vi (congrArg nI (if_neg (by omega))) (m_sd0 hj hn ha l_ce hce)) (by decide) rfl ?_
            refine E_if (t := 17) (b := true) at_X6_item_5 rfl (by decide) ?_
            refine E_aload_n at_X6_item_17 rfl ?_
            refine E_iconst (x := nI 1) at_X6_item_18 (by decide) ?_
            refine E_callV (v := some (.int (nI 0))) (As := [.ref 65, .int (nI 1)]) (r0 := []) (cs2 := (ww im lf s d k ls rf rz ra rn rq lt m1 m2 m3 m4 bd fc hd sz el q (fUp (fUp (fUp (fUp (fUp (fUp g 27 (nI (160 * j))) 29 (nI n)) 6 (-1)) 28 (nI a)) 30 x30) 31 x31) fm hm so si sh ce ca td wa kp la bf oo bo pw ow tr)) at_X6_item_19 rfl rfl (Nat.le_of_ble_eq_true rfl) rfl (ab_rvOf w65 rfl) (Ev.vi (congrArg nI (if_neg (by omega))) (m_sd1 hj hn ha l_ce hce)) (by decide) rfl ?_
            refine E_if (t := 43) (b := true) at_X6_item_22 rfl (by decide) ?_
            refine E_aload_n at_X6_item_43 rfl ?_
            refine E_callV (v := some (.int (nI 4))) (As := [.ref 65]) (r0 := []) (cs2 := (ww im lf s d k ls rf rz ra rn rq lt m1 m2 m3 m4 bd fc hd sz el q (fUp (fUp (fUp (fUp (fUp (fUp g 27 (nI (160 * j))) 29 (nI n)) 6 (-1)) 28 (nI (a + 5))) 30 x30) 31 x31) fm hm so si sh ce ca td wa kp la bf oo bo pw ow tr)) at_X6_item_44 rfl rfl (Nat.le_of_ble_eq_true rfl) rfl (ab_rvOf w65 rfl) (m_wd4b hj hn ha l_ce hce hw hb0) (by decide) w_lens ?_
            refine E_istore_n (L2 := [some (.ref 65), some (.int (nI 4)), none, none]) at_X6_item_47 rfl ?_
            refine E_iload_n at_X6_item_48 rfl ?_
            refine E_iconst (x := (-1)) at_X6_item_49 (by decide) ?_
            refine E_ic (t := 55) (b := true) at_X6_item_50 rfl (by decide) ?_
            refine E_iconst (x := nI 0) at_X6_item_55 (by decide) ?_
            refine E_istore_n (L2 := [some (.ref 65), some (.int (nI 4)), some (.int (nI 0)), none]) at_X6_item_56 rfl ?_
            refine mc40 hj hn (a := a + 4) (by omega) Iq l_td l_ce hce hb0 hd0 (show 0 ≤ nuV e n (a + 5) from by omega) (show nuV e n (a + 5) < qN q from by omega) (show ¬ (qP q).getD (nuV e n (a + 5)) 0 = 99 from by omega) ?_
            refine E_iload_n rfl rfl ?_
            refine E_aload_n rfl rfl ?_
            refine E_getfield (v := .ref 83) rfl w65 rfl (by decide) rfl ?_
            refine E_iload_n rfl rfl ?_
            refine E_ialN (l := [3, 3, 2, 2, 1, 0, 0]) (v := 1) rfl w83 (by omega) (by omega) rfl ?_
            refine E_ic (t := 166) (b := true) rfl rfl (by decide) ?_
            refine E_iload_n rfl rfl ?_
            refine E_tsIn (off := 125) (t := 292) rfl (by decide) rfl rfl ?_
            refine E_aload_n rfl rfl ?_
            refine E_getfield (v := .ref 70) rfl w65 rfl (by decide) rfl ?_
            refine E_aload_n rfl rfl ?_
            refine E_getfield (v := .ref 85) rfl w65 rfl (by decide) rfl ?_
            refine E_iconst (x := nI 0) rfl (by decide) ?_
            refine E_ialI (l := (td.set 0 (nI (nuV e n (a + 5))))) (v := nI (nuV e n (a + 5))) rfl w85 (by omega) (by omega) (ab_gs2 (by first | omega | (simp only [List.length_set]; omega))) ?_
            refine E_bipush (x := nI 99) rfl (by decide) ?_
            refine E_iasN (l := qP q) (cs2 := (ww im lf s d k ls rf rz ra rn rq lt m1 m2 m3 m4 bd fc hd sz el (qs_P q ((qP q).set (nuV e n (a + 5)) 99)) (fUp (fUp (fUp (fUp (fUp (fUp g 27 (nI (160 * j))) 29 (nI n)) 6 (-1)) 28 (nI (cnE e n (a + 4)))) 30 (nI (nuV e n (a + 5)))) 31 x31) fm hm so si sh ce ca (td.set 0 (nI (nuV e n (a + 5)))) wa kp la bf oo bo pw ow tr)) rfl w70 (by omega) (by omega) w_pt65_P ?_
            refine E_goto (t := 316) rfl rfl ?_
            refine E_iconst (x := nI 1) rfl (by decide) ?_
            exact E_iret rfl rfl
        · have hz := mtc_n (e := e) (n := n) [98, 97, 99, 107] a ha
          have hz_ : a + mj4 e n a ≤ n := hz
          have hb0_ := (chB_t hb0).1
          have hd0_ := (dgB_t hd0).1
          have hV0 := nuV_99 hd0
          have hF0 : nuF e n (a + 4) 0 (qN q) = a + 4 + 2 := nuF_D hb0 hd0 (show nuV e n (a + 5) < 0 ∨ (qN q) ≤ nuV e n (a + 5) from by omega)
          have hI : itF e n q a = a + 6 := (it_4 (q := q) hw).1.trans (by unfold bakF; rw [if_neg (by omega)]; exact hF0)
          refine ⟨q, nI (cnE e n (a + 4)), nI (nuV e n (a + 5)), nI (a + 5), td, nI 0, ?_, l_td, Or.inr ⟨a + 5, by omega, rfl, rfl, rfl⟩⟩
          refine Ef.in (md := mX6_item) (L := [some (.ref 65), none, none, none]) rfl (Nat.le_of_ble_eq_true rfl) rfl ?_
          refine E_aload_n at_X6_item_0 rfl ?_
          refine E_iconst (x := nI 0) at_X6_item_1 (by decide) ?_
          refine E_callV (v := some (.int (nI 0))) (As := [.ref 65, .int (nI 0)]) (r0 := []) (cs2 := (ww im lf s d k ls rf rz ra rn rq lt m1 m2 m3 m4 bd fc hd sz el q (fUp (fUp (fUp (fUp (fUp (fUp g 27 (nI (160 * j))) 29 (nI n)) 6 (-1)) 28 (nI a)) 30 x30) 31 x31) fm hm so si sh ce ca td wa kp la bf oo bo pw ow tr)) at_X6_item_2 rfl rfl (Nat.le_of_ble_eq_true rfl) rfl (ab_rvOf w65 rfl) (Ev.vi (congrArg nI (if_neg (by omega))) (m_sd0 hj hn ha l_ce hce)) (by decide) rfl ?_
          refine E_if (t := 17) (b := true) at_X6_item_5 rfl (by decide) ?_
          refine E_aload_n at_X6_item_17 rfl ?_
          refine E_iconst (x := nI 1) at_X6_item_18 (by decide) ?_
          refine E_callV (v := some (.int (nI 0))) (As := [.ref 65, .int (nI 1)]) (r0 := []) (cs2 := (ww im lf s d k ls rf rz ra rn rq lt m1 m2 m3 m4 bd fc hd sz el q (fUp (fUp (fUp (fUp (fUp (fUp g 27 (nI (160 * j))) 29 (nI n)) 6 (-1)) 28 (nI a)) 30 x30) 31 x31) fm hm so si sh ce ca td wa kp la bf oo bo pw ow tr)) at_X6_item_19 rfl rfl (Nat.le_of_ble_eq_true rfl) rfl (ab_rvOf w65 rfl) (Ev.vi (congrArg nI (if_neg (by omega))) (m_sd1 hj hn ha l_ce hce)) (by decide) rfl ?_
          refine E_if (t := 43) (b := true) at_X6_item_22 rfl (by decide) ?_
          refine E_aload_n at_X6_item_43 rfl ?_
          refine E_callV (v := some (.int (nI 4))) (As := [.ref 65]) (r0 := []) (cs2 := (ww im lf s d k ls rf rz ra rn rq lt m1 m2 m3 m4 bd fc hd sz el q (fUp (fUp (fUp (fUp (fUp (fUp g 27 (nI (160 * j))) 29 (nI n)) 6 (-1)) 28 (nI (a + 5))) 30 x30) 31 x31) fm hm so si sh ce ca td wa kp la bf oo bo pw ow tr)) at_X6_item_44 rfl rfl (Nat.le_of_ble_eq_true rfl) rfl (ab_rvOf w65 rfl) (m_wd4b hj hn ha l_ce hce hw hb0) (by decide) w_lens ?_
          refine E_istore_n (L2 := [some (.ref 65), some (.int (nI 4)), none, none]) at_X6_item_47 rfl ?_
          refine E_iload_n at_X6_item_48 rfl ?_
          refine E_iconst (x := (-1)) at_X6_item_49 (by decide) ?_
          refine E_ic (t := 55) (b := true) at_X6_item_50 rfl (by decide) ?_
          refine E_iconst (x := nI 0) at_X6_item_55 (by decide) ?_
          refine E_istore_n (L2 := [some (.ref 65), some (.int (nI 4)), some (.int (nI 0)), none]) at_X6_item_56 rfl ?_
          exact md400 hj hn (a := a + 4) (by omega) Iq l_td l_ce hce hb0 hd0 (show qN q ≤ nuV e n (a + 5) from by omega)
  · have hz := mtc_n (e := e) (n := n) [103, 114, 101, 101, 100, 121] a ha
    have hz_ : a + mj5 e n a ≤ n := hz
    have : ([3, 3, 2, 2, 1, 0, 0] : List Nat).length = 7 := rfl
    have hI : itF e n q a = 0 := (it_5 (q := q) hw).1
    have hE : itA e n a = a + 6 := (it_5 (q := q) hw).2.2
    refine ⟨(qs_R q (nI 1)), nI (a + 6), x30, x31, td, nI 1, ?_, l_td, Or.inl ⟨hI, (it_5 (q := q) hw).2.1.symm, by rw [hE], rfl, by omega, by omega, (qI_R Iq (by first | exact Or.inl rfl | exact Or.inr rfl))⟩⟩
    refine Ef.in (md := mX6_item) (L := [some (.ref 65), none, none, none]) rfl (Nat.le_of_ble_eq_true rfl) rfl ?_
    refine E_aload_n at_X6_item_0 rfl ?_
    refine E_iconst (x := nI 0) at_X6_item_1 (by decide) ?_
    refine E_callV (v := some (.int (nI 0))) (As := [.ref 65, .int (nI 0)]) (r0 := []) (cs2 := (ww im lf s d k ls rf rz ra rn rq lt m1 m2 m3 m4 bd fc hd sz el q (fUp (fUp (fUp (fUp (fUp (fUp g 27 (nI (160 * j))) 29 (nI n)) 6 (-1)) 28 (nI a)) 30 x30) 31 x31) fm hm so si sh ce ca td wa kp la bf oo bo pw ow tr)) at_X6_item_2 rfl rfl (Nat.le_of_ble_eq_true rfl) rfl (ab_rvOf w65 rfl) (Ev.vi (congrArg nI (if_neg (by omega))) (m_sd0 hj hn ha l_ce hce)) (by decide) rfl ?_
    refine E_if (t := 17) (b := true) at_X6_item_5 rfl (by decide) ?_
    refine E_aload_n at_X6_item_17 rfl ?_
    refine E_iconst (x := nI 1) at_X6_item_18 (by decide) ?_
    refine E_callV (v := some (.int (nI 0))) (As := [.ref 65, .int (nI 1)]) (r0 := []) (cs2 := (ww im lf s d k ls rf rz ra rn rq lt m1 m2 m3 m4 bd fc hd sz el q (fUp (fUp (fUp (fUp (fUp (fUp g 27 (nI (160 * j))) 29 (nI n)) 6 (-1)) 28 (nI a)) 30 x30) 31 x31) fm hm so si sh ce ca td wa kp la bf oo bo pw ow tr)) at_X6_item_19 rfl rfl (Nat.le_of_ble_eq_true rfl) rfl (ab_rvOf w65 rfl) (Ev.vi (congrArg nI (if_neg (by omega))) (m_sd1 hj hn ha l_ce hce)) (by decide) rfl ?_
    refine E_if (t := 43) (b := true) at_X6_item_22 rfl (by decide) ?_
    refine E_aload_n at_X6_item_43 rfl ?_
    refine E_callV (v := some (.int (nI 5))) (As := [.ref 65]) (r0 := []) (cs2 := (ww im lf s d k ls rf rz ra rn rq lt m1 m2 m3 m4 bd fc hd sz el q (fUp (fUp (fUp (fUp (fUp (fUp g 27 (nI (160 * j))) 29 (nI n)) 6 (-1)) 28 (nI (a + 6))) 30 x30) 31 x31) fm hm so si sh ce ca td wa kp la bf oo bo pw ow tr)) at_X6_item_44 rfl rfl (Nat.le_of_ble_eq_true rfl) rfl (ab_rvOf w65 rfl) (m_wd5 hj hn ha l_ce hce hw) (by decide) w_lens ?_
    refine E_istore_n (L2 := [some (.ref 65), some (.int (nI 5)), none, none]) at_X6_item_47 rfl ?_
    refine E_iload_n at_X6_item_48 rfl ?_
    refine E_iconst (x := (-1)) at_X6_item_49 (by decide) ?_
    refine E_ic (t := 55) (b := true) at_X6_item_50 rfl (by decide) ?_
    refine E_iconst (x := nI 0) at_X6_item_55 (by decide) ?_
    refine E_istore_n (L2 := [some (.ref 65), some (.int (nI 5)), some (.int (nI 0)), none]) at_X6_item_56 rfl ?_
    refine E_iload_n at_X6_item_57 rfl ?_
    refine E_aload_n at_X6_item_58 rfl ?_
    refine E_getfield (v := .ref 83) at_X6_item_59 w65 rfl (by decide) rfl ?_
    refine E_iload_n at_X6_item_62 rfl ?_
    refine E_ialN (l := [3, 3, 2, 2, 1, 0, 0]) (v := 0) at_X6_item_63 w83 (by omega) (by omega) rfl ?_
    refine E_ic (t := 166) (b := true) at_X6_item_64 rfl (by decide) ?_
    refine E_iload_n rfl rfl ?_
    refine E_tsOut (t := 308) rfl (by decide) rfl ?_
    refine E_aload_n rfl rfl ?_
    refine E_bipush (x := nI 6) rfl (by decide) ?_
    refine E_iload_n rfl rfl ?_
    refine E_isub (z := nI 1) rfl (by decide) ?_
    refine E_putfield (cs2 := (ww im lf s d k ls rf rz ra rn rq lt m1 m2 m3 m4 bd fc hd sz el (qs_R q (nI 1)) (fUp (fUp (fUp (fUp (fUp (fUp g 27 (nI (160 * j))) 29 (nI n)) 6 (-1)) 28 (nI (a + 6))) 30 x30) 31 x31) fm hm so si sh ce ca td wa kp la bf oo bo pw ow tr)) rfl w65 rfl (by decide) (Nat.le_of_ble_eq_true rfl) rfl rfl rfl w_pt65_R ?_
    refine E_iconst (x := nI 1) rfl (by decide) ?_
    exact E_iret rfl rfl
  · have hz := mtc_n (e := e) (n := n) [98, 101, 115, 116] a ha
    have hz_ : a + mj6 e n a ≤ n := hz
    have : ([3, 3, 2, 2, 1, 0, 0] : List Nat).length = 7 := rfl
    have hI : itF e n q a = 0 := (it_6 (q := q) hw).1
    have hE : itA e n a = a + 4 := (it_6 (q := q) hw).2.2
    refine ⟨(qs_R q (nI 0)), nI (a + 4), x30, x31, td, nI 1, ?_, l_td, Or.inl ⟨hI, (it_6 (q := q) hw).2.1.symm, by rw [hE], rfl, by omega, by omega, (qI_R Iq (by first | exact Or.inl rfl | exact Or.inr rfl))⟩⟩
    refine Ef.in (md := mX6_item) (L := [some (.ref 65), none, none, none]) rfl (Nat.le_of_ble_eq_true rfl) rfl ?_
    refine E_aload_n at_X6_item_0 rfl ?_
    refine E_iconst (x := nI 0) at_X6_item_1 (by decide) ?_
    refine E_callV (v := some (.int (nI 0))) (As := [.ref 65, .int (nI 0)]) (r0 := []) (cs2 := (ww im lf s d k ls rf rz ra rn rq lt m1 m2 m3 m4 bd fc hd sz el q (fUp (fUp (fUp (fUp (fUp (fUp g 27 (nI (160 * j))) 29 (nI n)) 6 (-1)) 28 (nI a)) 30 x30) 31 x31) fm hm so si sh ce ca td wa kp la bf oo bo pw ow tr)) at_X6_item_2 rfl rfl (Nat.le_of_ble_eq_true rfl) rfl (ab_rvOf w65 rfl) (Ev.vi (congrArg nI (if_neg (by omega))) (m_sd0 hj hn ha l_ce hce)) (by decide) rfl ?_
    refine E_if (t := 17) (b := true) at_X6_item_5 rfl (by decide) ?_
    refine E_aload_n at_X6_item_17 rfl ?_
    refine E_iconst (x := nI 1) at_X6_item_18 (by decide) ?_
    refine E_callV (v := some (.int (nI 0))) (As := [.ref 65, .int (nI 1)]) (r0 := []) (cs2 := (ww im lf s d k ls rf rz ra rn rq lt m1 m2 m3 m4 bd fc hd sz el q (fUp (fUp (fUp (fUp (fUp (fUp g 27 (nI (160 * j))) 29 (nI n)) 6 (-1)) 28 (nI a)) 30 x30) 31 x31) fm hm so si sh ce ca td wa kp la bf oo bo pw ow tr)) at_X6_item_19 rfl rfl (Nat.le_of_ble_eq_true rfl) rfl (ab_rvOf w65 rfl) (Ev.vi (congrArg nI (if_neg (by omega))) (m_sd1 hj hn ha l_ce hce)) (by decide) rfl ?_
    refine E_if (t := 43) (b := true) at_X6_item_22 rfl (by decide) ?_
    refine E_aload_n at_X6_item_43 rfl ?_
    refine E_callV (v := some (.int (nI 6))) (As := [.ref 65]) (r0 := []) (cs2 := (ww im lf s d k ls rf rz ra rn rq lt m1 m2 m3 m4 bd fc hd sz el q (fUp (fUp (fUp (fUp (fUp (fUp g 27 (nI (160 * j))) 29 (nI n)) 6 (-1)) 28 (nI (a + 4))) 30 x30) 31 x31) fm hm so si sh ce ca td wa kp la bf oo bo pw ow tr)) at_X6_item_44 rfl rfl (Nat.le_of_ble_eq_true rfl) rfl (ab_rvOf w65 rfl) (m_wd6 hj hn ha l_ce hce hw) (by decide) w_lens ?_
    refine E_istore_n (L2 := [some (.ref 65), some (.int (nI 6)), none, none]) at_X6_item_47 rfl ?_
    refine E_iload_n at_X6_item_48 rfl ?_
    refine E_iconst (x := (-1)) at_X6_item_49 (by decide) ?_
    refine E_ic (t := 55) (b := true) at_X6_item_50 rfl (by decide) ?_
    refine E_iconst (x := nI 0) at_X6_item_55 (by decide) ?_
    refine E_istore_n (L2 := [some (.ref 65), some (.int (nI 6)), some (.int (nI 0)), none]) at_X6_item_56 rfl ?_
    refine E_iload_n at_X6_item_57 rfl ?_
    refine E_aload_n at_X6_item_58 rfl ?_
    refine E_getfield (v := .ref 83) at_X6_item_59 w65 rfl (by decide) rfl ?_
    refine E_iload_n at_X6_item_62 rfl ?_
    refine E_ialN (l := [3, 3, 2, 2, 1, 0, 0]) (v := 0) at_X6_item_63 w83 (by omega) (by omega) rfl ?_
    refine E_ic (t := 166) (b := true) at_X6_item_64 rfl (by decide) ?_
    refine E_iload_n rfl rfl ?_
    refine E_tsOut (t := 308) rfl (by decide) rfl ?_
    refine E_aload_n rfl rfl ?_
    refine E_bipush (x := nI 6) rfl (by decide) ?_
    refine E_iload_n rfl rfl ?_
    refine E_isub (z := nI 0) rfl (by decide) ?_
    refine E_putfield (cs2 := (ww im lf s d k ls rf rz ra rn rq lt m1 m2 m3 m4 bd fc hd sz el (qs_R q (nI 0)) (fUp (fUp (fUp (fUp (fUp (fUp g 27 (nI (160 * j))) 29 (nI n)) 6 (-1)) 28 (nI (a + 4))) 30 x30) 31 x31) fm hm so si sh ce ca td wa kp la bf oo bo pw ow tr)) rfl w65 rfl (by decide) (Nat.le_of_ble_eq_true rfl) rfl rfl rfl w_pt65_R ?_
    refine E_iconst (x := nI 1) rfl (by decide) ?_
    exact E_iret rfl rfl
  · have hI : itF e n q a = a + mxL e n a + 1 := (it_7 (q := q) hw).1
    refine ⟨q, nI a, x30, nI (a + mxL e n a), td, nI 0, ?_, l_td, Or.inr ⟨a + mxL e n a, by omega, rfl, rfl, rfl⟩⟩
    refine Ef.in (md := mX6_item) (L := [some (.ref 65), none, none, none]) rfl (Nat.le_of_ble_eq_true rfl) rfl ?_
    refine E_aload_n at_X6_item_0 rfl ?_
    refine E_iconst (x := nI 0) at_X6_item_1 (by decide) ?_
    refine E_callV (v := some (.int (nI 0))) (As := [.ref 65, .int (nI 0)]) (r0 := []) (cs2 := (ww im lf s d k ls rf rz ra rn rq lt m1 m2 m3 m4 bd fc hd sz el q (fUp (fUp (fUp (fUp (fUp (fUp g 27 (nI (160 * j))) 29 (nI n)) 6 (-1)) 28 (nI a)) 30 x30) 31 x31) fm hm so si sh ce ca td wa kp la bf oo bo pw ow tr)) at_X6_item_2 rfl rfl (Nat.le_of_ble_eq_true rfl) rfl (ab_rvOf w65 rfl) (Ev.vi (congrArg nI (if_neg (by omega))) (m_sd0 hj hn ha l_ce hce)) (by decide) rfl ?_
    refine E_if (t := 17) (b := true) at_X6_item_5 rfl (by decide) ?_
    refine E_aload_n at_X6_item_17 rfl ?_
    refine E_iconst (x := nI 1) at_X6_item_18 (by decide) ?_
    refine E_callV (v := some (.int (nI 0))) (As := [.ref 65, .int (nI 1)]) (r0 := []) (cs2 := (ww im lf s d k ls rf rz ra rn rq lt m1 m2 m3 m4 bd fc hd sz el q (fUp (fUp (fUp (fUp (fUp (fUp g 27 (nI (160 * j))) 29 (nI n)) 6 (-1)) 28 (nI a)) 30 x30) 31 x31) fm hm so si sh ce ca td wa kp la bf oo bo pw ow tr)) at_X6_item_19 rfl rfl (Nat.le_of_ble_eq_true rfl) rfl (ab_rvOf w65 rfl) (Ev.vi (congrArg nI (if_neg (by omega))) (m_sd1 hj hn ha l_ce hce)) (by decide) rfl ?_
    refine E_if (t := 43) (b := true) at_X6_item_22 rfl (by decide) ?_
    refine E_aload_n at_X6_item_43 rfl ?_
    refine E_callV (v := some (.int (-1))) (As := [.ref 65]) (r0 := []) (cs2 := (ww im lf s d k ls rf rz ra rn rq lt m1 m2 m3 m4 bd fc hd sz el q (fUp (fUp (fUp (fUp (fUp (fUp g 27 (nI (160 * j))) 29 (nI n)) 6 (-1)) 28 (nI a)) 30 x30) 31 (nI (a + mxL e n a))) fm hm so si sh ce ca td wa kp la bf oo bo pw ow tr)) at_X6_item_44 rfl rfl (Nat.le_of_ble_eq_true rfl) rfl (ab_rvOf w65 rfl) (m_wd7 hj hn ha l_ce hce hw) (by decide) w_lens ?_
    refine E_istore_n (L2 := [some (.ref 65), some (.int (-1)), none, none]) at_X6_item_47 rfl ?_
    refine E_iload_n at_X6_item_48 rfl ?_
    refine E_iconst (x := (-1)) at_X6_item_49 (by decide) ?_
    refine E_ic (t := 55) (b := false) at_X6_item_50 rfl (by decide) ?_
    refine E_iconst (x := nI 0) at_X6_item_53 (by decide) ?_
    exact E_iret at_X6_item_54 rfl
end SE
