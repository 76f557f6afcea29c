/-! one item, the class; by program (wip/tools/mksq.py) -/
section SC
variable {im : Int32} {lf : Int32} {s : ab_q} {d : ab_q} {k : ab_q} {ls : List Int32} {rf : Int32} {rz : Int32} {ra : Int32} {rn : Int32} {rq : ab_q} {lt : List Int32} {m1 : Int32} {m2 : Int32} {m3 : Int32} {m4 : Int32} {bd : List Int32} {fc : List Int32} {hd : Nat → Int32} {sz : Nat → Int32} {el : Nat → List Int64} {t : ab_q} {g : Nat → Int32} {fm : List Int32} {hm : List Nat} {so : List Nat} {si : List Nat} {sh : List Int32} {ce : List Int64} {ca : List Int64} {td : List Int32} {wa : List Int32} {kp : List Int32} {la : List Int32} {bf : List Int32} {oo : List Int32} {bo : List Int32} {pw : List Int32} {ow : List Int32} {tr : List Int32}
set_option maxHeartbeats 4000000 in
theorem w_item {e : List Int64} {n a : Nat} {q : ab_q} (hn : n ≤ 160) (ha : a ≤ n) (l_lt : lt.length = 160) (hlt : ∀ i, i < n → lt.getD i 0 = tw e i) (Iq : qI q) : ∃ (rq2 : ab_q) (rf2 ra2 rn2 : Int32), Ev ab_Z0 5 15 [.ref 34] (ww im lf s d k ls (-1) (nI n) (nI a) rn q lt m1 m2 m3 m4 bd fc hd sz el t g fm hm so si sh ce ca td wa kp la bf oo bo pw ow tr) (none, (ww im lf s d k ls rf2 (nI n) ra2 rn2 rq2 lt m1 m2 m3 m4 bd fc hd sz el t g fm hm so si sh ce ca td wa kp la bf oo bo pw ow tr)) ∧ ((itF e n q a = 0 ∧ rq2 = itQ e n q a ∧ ra2 = nI (itA e n a) ∧ rf2 = -1 ∧ itA e n a ≤ n ∧ a < itA e n a ∧ qI rq2 ∧ qN q ≤ qN rq2) ∨ ∃ f, itF e n q a = f + 1 ∧ rf2 = nI f ∧ f ≤ n ∧ rq2 = q) := by
  obtain ⟨⟨i0, i1, i2, i3⟩, ⟨i4, i5, i6, i7, i8⟩, ⟨i9, i10⟩, I1_, I2_, I3_, I4_⟩ := id Iq
  rcases wd_c e n a with ⟨hw, hw_0⟩ | ⟨hw, hw_0, hw_1⟩ | ⟨hw, hw_0, hw_1, hw_2⟩ | ⟨hw, hw_0, hw_1, hw_2, hw_3⟩ | ⟨hw, hw_0, hw_1, hw_2, hw_3, hw_4⟩ | ⟨hw, hw_0, hw_1, hw_2, hw_3, hw_4, hw_5⟩ | ⟨hw, hw_0, hw_1, hw_2, hw_3, hw_4, hw_5, hw_6⟩ | ⟨hw, hw_0, hw_1, hw_2, hw_3, hw_4, hw_5, hw_6⟩
  · by_cases f1 : (qN q) < 9
    · rcases bo2 (chB e n (a + 5) 32) with hb0 | hb0
      · have hz := mtc_n (e := e) (n := n) [112, 105, 101, 99, 101] a ha
        have hz_ : a + mj0 e n a ≤ n := hz
        have hF0 : nuF e n (a + 5) 0 7 = a + 5 + 1 := nuF_A hb0
        have hI : itF e n q a = a + 6 := (it_0 (q := q) hw).1.trans (by rw [if_neg (by omega)]; unfold s3F; rw [if_neg (by omega)]; exact hF0)
        refine ⟨q, (nI (a + 5)), (nI (a + 5)), rn, ?_, Or.inr ⟨a + 5, by omega, rfl, by omega, rfl⟩⟩
        refine Ef.in (md := mX2_readItem) (L := [some (.ref 34), none, none]) rfl (Nat.le_of_ble_eq_true rfl) rfl ?_
        refine E_aload_n at_X2_readItem_0 rfl ?_
        refine E_getfield (v := .int (nI a)) at_X2_readItem_1 w34 rfl (by decide) rfl ?_
        refine E_istore_n (L2 := [some (.ref 34), some (.int (nI a)), none]) at_X2_readItem_4 rfl ?_
        refine E_aload_n at_X2_readItem_5 rfl ?_
        refine E_callV (v := some (.int (nI 0))) (As := [.ref 34]) (r0 := []) (cs2 := (ww im lf s d k ls (-1) (nI n) (nI (a + 5)) rn q lt m1 m2 m3 m4 bd fc hd sz el t g fm hm so si sh ce ca td wa kp la bf oo bo pw ow tr)) at_X2_readItem_6 rfl rfl (Nat.le_of_ble_eq_true rfl) rfl (ab_rvOf w34 rfl) (w_rw0 hn ha l_lt hlt hw) (by decide) w_lens ?_
        refine E_istore_n (L2 := [some (.ref 34), some (.int (nI a)), some (.int (nI 0))]) at_X2_readItem_9 rfl ?_
        refine E_aload_n at_X2_readItem_10 rfl ?_
        refine E_getfield (v := .int (-1)) at_X2_readItem_11 w34 rfl (by decide) rfl ?_
        refine E_iconst (x := (-1)) at_X2_readItem_14 (by decide) ?_
        refine E_ic (t := 19) (b := true) at_X2_readItem_15 rfl (by decide) ?_
        refine E_iload_n at_X2_readItem_19 rfl ?_
        refine E_tsIn (off := 36) (t := 56) at_X2_readItem_20 (by decide) rfl rfl ?_
        refine E_aload_n at_X2_readItem_56 rfl ?_
        refine E_iload_n at_X2_readItem_57 rfl ?_
        have e2 : Ev ab_Z0 4 16 [.ref 34, .int (nI a)] (ww im lf s d k ls (-1) (nI n) (nI (a + 5)) rn q lt m1 m2 m3 m4 bd fc hd sz el t g fm hm so si sh ce ca td wa kp la bf oo bo pw ow tr) (none, (ww im lf s d k ls (nI (a + 5)) (nI n) (nI (a + 5)) rn q lt m1 m2 m3 m4 bd fc hd sz el t g fm hm so si sh ce ca td wa kp la bf oo bo pw ow tr)) := by
          refine Ef.in (md := mX2_readPiece) (L := [some (.ref 34), some (.int (nI a)), none, none, none]) rfl (Nat.le_of_ble_eq_true rfl) rfl ?_
          refine E_aload_n at_X2_readPiece_0 rfl ?_
          refine E_getfield (v := .ref 35) at_X2_readPiece_1 w34 rfl (by decide) rfl ?_
          have e1 : Ev ab_Z0 1 52 [.ref 35] (ww im lf s d k ls (-1) (nI n) (nI (a + 5)) rn q lt m1 m2 m3 m4 bd fc hd sz el t g fm hm so si sh ce ca td wa kp la bf oo bo pw ow tr) (some (.int (nI 1)), (ww im lf s d k ls (-1) (nI n) (nI (a + 5)) rn q lt m1 m2 m3 m4 bd fc hd sz el t g fm hm so si sh ce ca td wa kp la bf oo bo pw ow tr)) := by
            refine Ef.in (md := mX4_hasRoomForPiece) (L := [some (.ref 35)]) rfl (Nat.le_of_ble_eq_true rfl) rfl ?_
            refine E_aload_n at_X4_hasRoomForPiece_0 rfl ?_
            refine E_getfield (v := .int (nI (qN q))) at_X4_hasRoomForPiece_1 w35 rfl (by decide) rfl ?_
            refine E_bipush (x := nI 9) at_X4_hasRoomForPiece_4 (by decide) ?_
            refine E_ic (t := 13) (b := false) at_X4_hasRoomForPiece_6 rfl ((cn_ge (nI_toInt (by omega)) (nI_toInt (by omega))).trans (decide_eq_false (by omega))) ?_
            refine E_iconst (x := nI 1) at_X4_hasRoomForPiece_9 (by decide) ?_
            refine E_goto (t := 14) at_X4_hasRoomForPiece_10 rfl ?_
            exact E_iret at_X4_hasRoomForPiece_14 rfl
          refine E_callV (v := some (.int (nI 1))) (As := [.ref 35]) (r0 := []) (cs2 := (ww im lf s d k ls (-1) (nI n) (nI (a + 5)) rn q lt m1 m2 m3 m4 bd fc hd sz el t g fm hm so si sh ce ca td wa kp la bf oo bo pw ow tr)) at_X2_readPiece_4 rfl rfl (Nat.le_of_ble_eq_true rfl) rfl (ab_rvOf w35 rfl) e1 (by decide) rfl ?_
          refine E_if (t := 15) (b := true) at_X2_readPiece_7 rfl (by decide) ?_
          refine E_aload_n at_X2_readPiece_15 rfl ?_
          refine E_iconst (x := nI 0) at_X2_readPiece_16 (by decide) ?_
          refine E_bipush (x := nI 6) at_X2_readPiece_17 (by decide) ?_
          refine E_callV (v := some (.int (nI 0))) (As := [.ref 34, .int (nI 0), .int (nI 6)]) (r0 := []) (cs2 := (ww im lf s d k ls (nI (a + 5)) (nI n) (nI (a + 5)) rn q lt m1 m2 m3 m4 bd fc hd sz el t g fm hm so si sh ce ca td wa kp la bf oo bo pw ow tr)) at_X2_readPiece_19 rfl rfl (Nat.le_of_ble_eq_true rfl) rfl (ab_rvOf w34 rfl) (w_nuA (a := a + 5) (hi := nI 6) (by decide) hn (by omega) l_lt hlt hb0) (by decide) w_lens ?_
          refine E_istore_n (L2 := [some (.ref 34), some (.int (nI a)), some (.int (nI 0)), none, none]) at_X2_readPiece_22 rfl ?_
          refine E_aload_n at_X2_readPiece_23 rfl ?_
          refine E_iconst (x := nI 0) at_X2_readPiece_24 (by decide) ?_
          refine E_bipush (x := nI 9) at_X2_readPiece_25 (by decide) ?_
          refine E_callV (v := some (.int (nI 0))) (As := [.ref 34, .int (nI 0), .int (nI 9)]) (r0 := []) (cs2 := (ww im lf s d k ls (nI (a + 5)) (nI n) (nI (a + 5)) rn q lt m1 m2 m3 m4 bd fc hd sz el t g fm hm so si sh ce ca td wa kp la bf oo bo pw ow tr)) at_X2_readPiece_27 rfl rfl (Nat.le_of_ble_eq_true rfl) rfl (ab_rvOf w34 rfl) (w_nux (f := a + 5) (by omega)) (by decide) rfl ?_
          refine E_istore_n (L2 := [some (.ref 34), some (.int (nI a)), some (.int (nI 0)), some (.int (nI 0)), none]) at_X2_readPiece_30 rfl ?_
          refine E_aload_n at_X2_readPiece_31 rfl ?_
          refine E_iconst (x := nI 1) at_X2_readPiece_32 (by decide) ?_
          refine E_bipush (x := nI 50) at_X2_readPiece_33 (by decide) ?_
          refine E_callV (v := some (.int (nI 0))) (As := [.ref 34, .int (nI 1), .int (nI 50)]) (r0 := []) (cs2 := (ww im lf s d k ls (nI (a + 5)) (nI n) (nI (a + 5)) rn q lt m1 m2 m3 m4 bd fc hd sz el t g fm hm so si sh ce ca td wa kp la bf oo bo pw ow tr)) at_X2_readPiece_35 rfl rfl (Nat.le_of_ble_eq_true rfl) rfl (ab_rvOf w34 rfl) (w_nux (f := a + 5) (by omega)) (by decide) rfl ?_
          refine E_istore (L2 := [some (.ref 34), some (.int (nI a)), some (.int (nI 0)), some (.int (nI 0)), some (.int (nI 0))]) at_X2_readPiece_38 rfl ?_
          refine E_aload_n at_X2_readPiece_40 rfl ?_
          refine E_getfield (v := .int (nI (a + 5))) at_X2_readPiece_41 w34 rfl (by decide) rfl ?_
          refine E_iconst (x := (-1)) at_X2_readPiece_44 (by decide) ?_
          refine E_ic (t := 60) (b := true) at_X2_readPiece_45 rfl ((cn_ne (nI_toInt (by omega)) (by decide : (-1 : Int32).toInt = -1)).trans (decide_eq_true (by omega))) ?_
          exact E_vret at_X2_readPiece_60 rfl
        refine E_callV (v := none) (As := [.ref 34, .int (nI a)]) (r0 := []) (cs2 := (ww im lf s d k ls (nI (a + 5)) (nI n) (nI (a + 5)) rn q lt m1 m2 m3 m4 bd fc hd sz el t g fm hm so si sh ce ca td wa kp la bf oo bo pw ow tr)) at_X2_readItem_58 rfl rfl (Nat.le_of_ble_eq_true rfl) rfl (ab_rvOf w34 rfl) e2 (by decide) w_lens ?_
        refine E_goto (t := 110) at_X2_readItem_61 rfl ?_
        exact E_vret at_X2_readItem_110 rfl
      · rcases bo2 (dgB e n (a + 6)) with hd0 | hd0
        · have hz := mtc_n (e := e) (n := n) [112, 105, 101, 99, 101] a ha
          have hz_ : a + mj0 e n a ≤ n := hz
          have hb0_ := (chB_t hb0).1
          have hF0 : nuF e n (a + 5) 0 7 = a + 5 + 2 := nuF_B hb0 hd0
          have hI : itF e n q a = a + 7 := (it_0 (q := q) hw).1.trans (by rw [if_neg (by omega)]; unfold s3F; rw [if_neg (by omega)]; exact hF0)
          refine ⟨q, (nI (a + 6)), (nI (a + 6)), rn, ?_, Or.inr ⟨a + 6, by omega, rfl, by omega, rfl⟩⟩
          refine Ef.in (md := mX2_readItem) (L := [some (.ref 34), none, none]) rfl (Nat.le_of_ble_eq_true rfl) rfl ?_
          refine E_aload_n at_X2_readItem_0 rfl ?_
          refine E_getfield (v := .int (nI a)) at_X2_readItem_1 w34 rfl (by decide) rfl ?_
          refine E_istore_n (L2 := [some (.ref 34), some (.int (nI a)), none]) at_X2_readItem_4 rfl ?_
          refine E_aload_n at_X2_readItem_5 rfl ?_
          refine E_callV (v := some (.int (nI 0))) (As := [.ref 34]) (r0 := []) (cs2 := (ww im lf s d k ls (-1) (nI n) (nI (a + 5)) rn q lt m1 m2 m3 m4 bd fc hd sz el t g fm hm so si sh ce ca td wa kp la bf oo bo pw ow tr)) at_X2_readItem_6 rfl rfl (Nat.le_of_ble_eq_true rfl) rfl (ab_rvOf w34 rfl) (w_rw0 hn ha l_lt hlt hw) (by decide) w_lens ?_
          refine E_istore_n (L2 := [some (.ref 34), some (.int (nI a)), some (.int (nI 0))]) at_X2_readItem_9 rfl ?_
          refine E_aload_n at_X2_readItem_10 rfl ?_
          refine E_getfield (v := .int (-1)) at_X2_readItem_11 w34 rfl (by decide) rfl ?_
          refine E_iconst (x := (-1)) at_X2_readItem_14 (by decide) ?_
          refine E_ic (t := 19) (b := true) at_X2_readItem_15 rfl (by decide) ?_
          refine E_iload_n at_X2_readItem_19 rfl ?_
          refine E_tsIn (off := 36) (t := 56) at_X2_readItem_20 (by decide) rfl rfl ?_
          refine E_aload_n at_X2_readItem_56 rfl ?_
          refine E_iload_n at_X2_readItem_57 rfl ?_
          have e2 : Ev ab_Z0 4 16 [.ref 34, .int (nI a)] (ww im lf s d k ls (-1) (nI n) (nI (a + 5)) rn q lt m1 m2 m3 m4 bd fc hd sz el t g fm hm so si sh ce ca td wa kp la bf oo bo pw ow tr) (none, (ww im lf s d k ls (nI (a + 6)) (nI n) (nI (a + 6)) rn q lt m1 m2 m3 m4 bd fc hd sz el t g fm hm so si sh ce ca td wa kp la bf oo bo pw ow tr)) := by
            refine Ef.in (md := mX2_readPiece) (L := [some (.ref 34), some (.int (nI a)), none, none, none]) rfl (Nat.le_of_ble_eq_true rfl) rfl ?_
            refine E_aload_n at_X2_readPiece_0 rfl ?_
            refine E_getfield (v := .ref 35) at_X2_readPiece_1 w34 rfl (by decide) rfl ?_
            have e1 : Ev ab_Z0 1 52 [.ref 35] (ww im lf s d k ls (-1) (nI n) (nI (a + 5)) rn q lt m1 m2 m3 m4 bd fc hd sz el t g fm hm so si sh ce ca td wa kp la bf oo bo pw ow tr) (some (.int (nI 1)), (ww im lf s d k ls (-1) (nI n) (nI (a + 5)) rn q lt m1 m2 m3 m4 bd fc hd sz el t g fm hm so si sh ce ca td wa kp la bf oo bo pw ow tr)) := by
              refine Ef.in (md := mX4_hasRoomForPiece) (L := [some (.ref 35)]) rfl (Nat.le_of_ble_eq_true rfl) rfl ?_
              refine E_aload_n at_X4_hasRoomForPiece_0 rfl ?_
              refine E_getfield (v := .int (nI (qN q))) at_X4_hasRoomForPiece_1 w35 rfl (by decide) rfl ?_
              refine E_bipush (x := nI 9) at_X4_hasRoomForPiece_4 (by decide) ?_
              refine E_ic (t := 13) (b := false) at_X4_hasRoomForPiece_6 rfl ((cn_ge (nI_toInt (by omega)) (nI_toInt (by omega))).trans (decide_eq_false (by omega))) ?_
              refine E_iconst (x := nI 1) at_X4_hasRoomForPiece_9 (by decide) ?_
              refine E_goto (t := 14) at_X4_hasRoomForPiece_10 rfl ?_
              exact E_iret at_X4_hasRoomForPiece_14 rfl
            refine E_callV (v := some (.int (nI 1))) (As := [.ref 35]) (r0 := []) (cs2 := (ww im lf s d k ls (-1) (nI n) (nI (a + 5)) rn q lt m1 m2 m3 m4 bd fc hd sz el t g fm hm so si sh ce ca td wa kp la bf oo bo pw ow tr)) at_X2_readPiece_4 rfl rfl (Nat.le_of_ble_eq_true rfl) rfl (ab_rvOf w35 rfl) e1 (by decide) rfl ?_
            refine E_if (t := 15) (b := true) at_X2_readPiece_7 rfl (by decide) ?_
            refine E_aload_n at_X2_readPiece_15 rfl ?_
            refine E_iconst (x := nI 0) at_X2_readPiece_16 (by decide) ?_
            refine E_bipush (x := nI 6) at_X2_readPiece_17 (by decide) ?_
            refine E_callV (v := some (.int (nI 0))) (As := [.ref 34, .int (nI 0), .int (nI 6)]) (r0 := []) (cs2 := (ww im lf s d k ls (nI (a + 6)) (nI n) (nI (a + 6)) rn q lt m1 m2 m3 m4 bd fc hd sz el t g fm hm so si sh ce ca td wa kp la bf oo bo pw ow tr)) at_X2_readPiece_19 rfl rfl (Nat.le_of_ble_eq_true rfl) rfl (ab_rvOf w34 rfl) (w_nuB (a := a + 5) (hi := nI 6) (by decide) hn (by omega) l_lt hlt hb0 hd0) (by decide) w_lens ?_
            refine E_istore_n (L2 := [some (.ref 34), some (.int (nI a)), some (.int (nI 0)), none, none]) at_X2_readPiece_22 rfl ?_
            refine E_aload_n at_X2_readPiece_23 rfl ?_
            refine E_iconst (x := nI 0) at_X2_readPiece_24 (by decide) ?_
            refine E_bipush (x := nI 9) at_X2_readPiece_25 (by decide) ?_
            refine E_callV (v := some (.int (nI 0))) (As := [.ref 34, .int (nI 0), .int (nI 9)]) (r0 := []) (cs2 := (ww im lf s d k ls (nI (a + 6)) (nI n) (nI (a + 6)) rn q lt m1 m2 m3 m4 bd fc hd sz el t g fm hm so si sh ce ca td wa kp la bf oo bo pw ow tr)) at_X2_readPiece_27 rfl rfl (Nat.le_of_ble_eq_true rfl) rfl (ab_rvOf w34 rfl) (w_nux (f := a + 6) (by omega)) (by decide) rfl ?_
            refine E_istore_n (L2 := [some (.ref 34), some (.int (nI a)), some (.int (nI 0)), some (.int (nI 0)), none]) at_X2_readPiece_30 rfl ?_
            refine E_aload_n at_X2_readPiece_31 rfl ?_
            refine E_iconst (x := nI 1) at_X2_readPiece_32 (by decide) ?_
            refine E_bipush (x := nI 50) at_X2_readPiece_33 (by decide) ?_
            refine E_callV (v := some (.int (nI 0))) (As := [.ref 34, .int (nI 1), .int (nI 50)]) (r0 := []) (cs2 := (ww im lf s d k ls (nI (a + 6)) (nI n) (nI (a + 6)) rn q lt m1 m2 m3 m4 bd fc hd sz el t g fm hm so si sh ce ca td wa kp la bf oo bo pw ow tr)) at_X2_readPiece_35 rfl rfl (Nat.le_of_ble_eq_true rfl) rfl (ab_rvOf w34 rfl) (w_nux (f := a + 6) (by omega)) (by decide) rfl ?_
            refine E_istore (L2 := [some (.ref 34), some (.int (nI a)), some (.int (nI 0)), some (.int (nI 0)), some (.int (nI 0))]) at_X2_readPiece_38 rfl ?_
            refine E_aload_n at_X2_readPiece_40 rfl ?_
            refine E_getfield (v := .int (nI (a + 6))) at_X2_readPiece_41 w34 rfl (by decide) rfl ?_
            refine E_iconst (x := (-1)) at_X2_readPiece_44 (by decide) ?_
            refine E_ic (t := 60) (b := true) at_X2_readPiece_45 rfl ((cn_ne (nI_toInt (by omega)) (by decide : (-1 : Int32).toInt = -1)).trans (decide_eq_true (by omega))) ?_
            exact E_vret at_X2_readPiece_60 rfl
          refine E_callV (v := none) (As := [.ref 34, .int (nI a)]) (r0 := []) (cs2 := (ww im lf s d k ls (nI (a + 6)) (nI n) (nI (a + 6)) rn q lt m1 m2 m3 m4 bd fc hd sz el t g fm hm so si sh ce ca td wa kp la bf oo bo pw ow tr)) at_X2_readItem_58 rfl rfl (Nat.le_of_ble_eq_true rfl) rfl (ab_rvOf w34 rfl) e2 (by decide) w_lens ?_
          refine E_goto (t := 110) at_X2_readItem_61 rfl ?_
          exact E_vret at_X2_readItem_110 rfl
        · rcases Nat.lt_or_ge (nuV e n (a + 6)) (7) with hr0 | hr0
          · rcases bo2 (chB e n (cnE e n (a + 5)) 32) with hb1 | hb1
            · have hz := mtc_n (e := e) (n := n) [112, 105, 101, 99, 101] a ha
              have hz_ : a + mj0 e n a ≤ n := hz
              have hb0_ := (chB_t hb0).1
              have hd0_ := (dgB_t hd0).1
              have hV0 := nuV_99 hd0
              have hc0 := cnE_n hd0
              have hF0 : nuF e n (a + 5) 0 7 = 0 := nuF_C hb0 hd0 (show ¬ (nuV e n (a + 6) < 0 ∨ 7 ≤ nuV e n (a + 6)) from by omega)
              have hF1 : nuF e n (cnE e n (a + 5)) 0 10 = cnE e n (a + 5) + 1 := nuF_A hb1
              have hI : itF e n q a = cnE e n (a + 5) + 1 := (it_0 (q := q) hw).1.trans (by rw [if_neg (by omega)]; unfold s3F; rw [if_pos hF0]; unfold s2F; rw [if_neg (by omega)]; exact hF1)
              refine ⟨q, (nI (cnE e n (a + 5))), (nI (cnE e n (a + 5))), (nI (a + 6)), ?_, Or.inr ⟨cnE e n (a + 5), by omega, rfl, by omega, rfl⟩⟩
              refine Ef.in (md := mX2_readItem) (L := [some (.ref 34), none, none]) rfl (Nat.le_of_ble_eq_true rfl) rfl ?_
              refine E_aload_n at_X2_readItem_0 rfl ?_
              refine E_getfield (v := .int (nI a)) at_X2_readItem_1 w34 rfl (by decide) rfl ?_
              refine E_istore_n (L2 := [some (.ref 34), some (.int (nI a)), none]) at_X2_readItem_4 rfl ?_
              refine E_aload_n at_X2_readItem_5 rfl ?_
              refine E_callV (v := some (.int (nI 0))) (As := [.ref 34]) (r0 := []) (cs2 := (ww im lf s d k ls (-1) (nI n) (nI (a + 5)) rn q lt m1 m2 m3 m4 bd fc hd sz el t g fm hm so si sh ce ca td wa kp la bf oo bo pw ow tr)) at_X2_readItem_6 rfl rfl (Nat.le_of_ble_eq_true rfl) rfl (ab_rvOf w34 rfl) (w_rw0 hn ha l_lt hlt hw) (by decide) w_lens ?_
              refine E_istore_n (L2 := [some (.ref 34), some (.int (nI a)), some (.int (nI 0))]) at_X2_readItem_9 rfl ?_
              refine E_aload_n at_X2_readItem_10 rfl ?_
              refine E_getfield (v := .int (-1)) at_X2_readItem_11 w34 rfl (by decide) rfl ?_
              refine E_iconst (x := (-1)) at_X2_readItem_14 (by decide) ?_
              refine E_ic (t := 19) (b := true) at_X2_readItem_15 rfl (by decide) ?_
              refine E_iload_n at_X2_readItem_19 rfl ?_
              refine E_tsIn (off := 36) (t := 56) at_X2_readItem_20 (by decide) rfl rfl ?_
              refine E_aload_n at_X2_readItem_56 rfl ?_
              refine E_iload_n at_X2_readItem_57 rfl ?_
              have e2 : Ev ab_Z0 4 16 [.ref 34, .int (nI a)] (ww im lf s d k ls (-1) (nI n) (nI (a + 5)) rn q lt m1 m2 m3 m4 bd fc hd sz el t g fm hm so si sh ce ca td wa kp la bf oo bo pw ow tr) (none, (ww im lf s d k ls (nI (cnE e n (a + 5))) (nI n) (nI (cnE e n (a + 5))) (nI (a + 6)) q lt m1 m2 m3 m4 bd fc hd sz el t g fm hm so si sh ce ca td wa kp la bf oo bo pw ow tr)) := by
                refine Ef.in (md := mX2_readPiece) (L := [some (.ref 34), some (.int (nI a)), none, none, none]) rfl (Nat.le_of_ble_eq_true rfl) rfl ?_
                refine E_aload_n at_X2_readPiece_0 rfl ?_
                refine E_getfield (v := .ref 35) at_X2_readPiece_1 w34 rfl (by decide) rfl ?_
                have e1 : Ev ab_Z0 1 52 [.ref 35] (ww im lf s d k ls (-1) (nI n) (nI (a + 5)) rn q lt m1 m2 m3 m4 bd fc hd sz el t g fm hm so si sh ce ca td wa kp la bf oo bo pw ow tr) (some (.int (nI 1)), (ww im lf s d k ls (-1) (nI n) (nI (a + 5)) rn q lt m1 m2 m3 m4 bd fc hd sz el t g fm hm so si sh ce ca td wa kp la bf oo bo pw ow tr)) := by
                  refine Ef.in (md := mX4_hasRoomForPiece) (L := [some (.ref 35)]) rfl (Nat.le_of_ble_eq_true rfl) rfl ?_
                  refine E_aload_n at_X4_hasRoomForPiece_0 rfl ?_
                  refine E_getfield (v := .int (nI (qN q))) at_X4_hasRoomForPiece_1 w35 rfl (by decide) rfl ?_
                  refine E_bipush (x := nI 9) at_X4_hasRoomForPiece_4 (by decide) ?_
                  refine E_ic (t := 13) (b := false) at_X4_hasRoomForPiece_6 rfl ((cn_ge (nI_toInt (by omega)) (nI_toInt (by omega))).trans (decide_eq_false (by omega))) ?_
                  refine E_iconst (x := nI 1) at_X4_hasRoomForPiece_9 (by decide) ?_
                  refine E_goto (t := 14) at_X4_hasRoomForPiece_10 rfl ?_
                  exact E_iret at_X4_hasRoomForPiece_14 rfl
                refine E_callV (v := some (.int (nI 1))) (As := [.ref 35]) (r0 := []) (cs2 := (ww im lf s d k ls (-1) (nI n) (nI (a + 5)) rn q lt m1 m2 m3 m4 bd fc hd sz el t g fm hm so si sh ce ca td wa kp la bf oo bo pw ow tr)) at_X2_readPiece_4 rfl rfl (Nat.le_of_ble_eq_true rfl) rfl (ab_rvOf w35 rfl) e1 (by decide) rfl ?_
                refine E_if (t := 15) (b := true) at_X2_readPiece_7 rfl (by decide) ?_
                refine E_aload_n at_X2_readPiece_15 rfl ?_
                refine E_iconst (x := nI 0) at_X2_readPiece_16 (by decide) ?_
                refine E_bipush (x := nI 6) at_X2_readPiece_17 (by decide) ?_
                refine E_callV (v := some (.int (nI (nuV e n (a + 6))))) (As := [.ref 34, .int (nI 0), .int (nI 6)]) (r0 := []) (cs2 := (ww im lf s d k ls (-1) (nI n) (nI (cnE e n (a + 5))) (nI (a + 6)) q lt m1 m2 m3 m4 bd fc hd sz el t g fm hm so si sh ce ca td wa kp la bf oo bo pw ow tr)) at_X2_readPiece_19 rfl rfl (Nat.le_of_ble_eq_true rfl) rfl (ab_rvOf w34 rfl) (w_nuC (a := a + 5) (hi := nI 6) (by decide) hn (by omega) l_lt hlt hb0 hd0 (show 0 ≤ nuV e n (a + 6) from by omega) (show ((nuV e n (a + 6) : Nat) : Int) ≤ (nI 6).toInt from by rw [(nI_toInt (by omega) : (nI 6).toInt = ((6 : Nat) : Int))]; omega)) (by decide) w_lens ?_
                refine E_istore_n (L2 := [some (.ref 34), some (.int (nI a)), some (.int (nI (nuV e n (a + 6)))), none, none]) at_X2_readPiece_22 rfl ?_
                refine E_aload_n at_X2_readPiece_23 rfl ?_
                refine E_iconst (x := nI 0) at_X2_readPiece_24 (by decide) ?_
                refine E_bipush (x := nI 9) at_X2_readPiece_25 (by decide) ?_
                refine E_callV (v := some (.int (nI 0))) (As := [.ref 34, .int (nI 0), .int (nI 9)]) (r0 := []) (cs2 := (ww im lf s d k ls (nI (cnE e n (a + 5))) (nI n) (nI (cnE e n (a + 5))) (nI (a + 6)) q lt m1 m2 m3 m4 bd fc hd sz el t g fm hm so si sh ce ca td wa kp la bf oo bo pw ow tr)) at_X2_readPiece_27 rfl rfl (Nat.le_of_ble_eq_true rfl) rfl (ab_rvOf w34 rfl) (w_nuA (a := cnE e n (a + 5)) (hi := nI 9) (by decide) hn (by omega) l_lt hlt hb1) (by decide) w_lens ?_
                refine E_istore_n (L2 := [some (.ref 34), some (.int (nI a)), some (.int (nI (nuV e n (a + 6)))), some (.int (nI 0)), none]) at_X2_readPiece_30 rfl ?_
                refine E_aload_n at_X2_readPiece_31 rfl ?_
                refine E_iconst (x := nI 1) at_X2_readPiece_32 (by decide) ?_
                refine E_bipush (x := nI 50) at_X2_readPiece_33 (by decide) ?_
                refine E_callV (v := some (.int (nI 0))) (As := [.ref 34, .int (nI 1), .int (nI 50)]) (r0 := []) (cs2 := (ww im lf s d k ls (nI (cnE e n (a + 5))) (nI n) (nI (cnE e n (a + 5))) (nI (a + 6)) q lt m1 m2 m3 m4 bd fc hd sz el t g fm hm so si sh ce ca td wa kp la bf oo bo pw ow tr)) at_X2_readPiece_35 rfl rfl (Nat.le_of_ble_eq_true rfl) rfl (ab_rvOf w34 rfl) (w_nux (f := cnE e n (a + 5)) (by omega)) (by decide) rfl ?_
                refine E_istore (L2 := [some (.ref 34), some (.int (nI a)), some (.int (nI (nuV e n (a + 6)))), some (.int (nI 0)), some (.int (nI 0))]) at_X2_readPiece_38 rfl ?_
                refine E_aload_n at_X2_readPiece_40 rfl ?_
                refine E_getfield (v := .int (nI (cnE e n (a + 5)))) at_X2_readPiece_41 w34 rfl (by decide) rfl ?_
                refine E_iconst (x := (-1)) at_X2_readPiece_44 (by decide) ?_
                refine E_ic (t := 60) (b := true) at_X2_readPiece_45 rfl ((cn_ne (nI_toInt (by omega)) (by decide : (-1 : Int32).toInt = -1)).trans (decide_eq_true (by omega))) ?_
                exact E_vret at_X2_readPiece_60 rfl
              refine E_callV (v := none) (As := [.ref 34, .int (nI a)]) (r0 := []) (cs2 := (ww im lf s d k ls (nI (cnE e n (a + 5))) (nI n) (nI (cnE e n (a + 5))) (nI (a + 6)) q lt m1 m2 m3 m4 bd fc hd sz el t g fm hm so si sh ce ca td wa kp la bf oo bo pw ow tr)) at_X2_readItem_58 rfl rfl (Nat.le_of_ble_eq_true rfl) rfl (ab_rvOf w34 rfl) e2 (by decide) w_lens ?_
              refine E_goto (t := 110) at_X2_readItem_61 rfl ?_
              exact E_vret at_X2_readItem_110 rfl
            · rcases bo2 (dgB e n (cnE e n (a + 5) + 1)) with hd1 | hd1
              · have hz := mtc_n (e := e) (n := n) [112, 105, 101, 99, 101] a ha
                have hz_ : a + mj0 e n a ≤ n := hz
                have hb0_ := (chB_t hb0).1
                have hd0_ := (dgB_t hd0).1
                have hV0 := nuV_99 hd0
                have hc0 := cnE_n hd0
                have hb1_ := (chB_t hb1).1
                have hF0 : nuF e n (a + 5) 0 7 = 0 := nuF_C hb0 hd0 (show ¬ (nuV e n (a + 6) < 0 ∨ 7 ≤ nuV e n (a + 6)) from by omega)
                have hF1 : nuF e n (cnE e n (a + 5)) 0 10 = cnE e n (a + 5) + 2 := nuF_B hb1 hd1
                have hI : itF e n q a = cnE e n (a + 5) + 2 := (it_0 (q := q) hw).1.trans (by rw [if_neg (by omega)]; unfold s3F; rw [if_pos hF0]; unfold s2F; rw [if_neg (by omega)]; exact hF1)
                refine ⟨q, (nI (cnE e n (a + 5) + 1)), (nI (cnE e n (a + 5) + 1)), (nI (a + 6)), ?_, Or.inr ⟨cnE e n (a + 5) + 1, by omega, rfl, by omega, rfl⟩⟩
                refine Ef.in (md := mX2_readItem) (L := [some (.ref 34), none, none]) rfl (Nat.le_of_ble_eq_true rfl) rfl ?_
                refine E_aload_n at_X2_readItem_0 rfl ?_
                refine E_getfield (v := .int (nI a)) at_X2_readItem_1 w34 rfl (by decide) rfl ?_
                refine E_istore_n (L2 := [some (.ref 34), some (.int (nI a)), none]) at_X2_readItem_4 rfl ?_
                refine E_aload_n at_X2_readItem_5 rfl ?_
                refine E_callV (v := some (.int (nI 0))) (As := [.ref 34]) (r0 := []) (cs2 := (ww im lf s d k ls (-1) (nI n) (nI (a + 5)) rn q lt m1 m2 m3 m4 bd fc hd sz el t g fm hm so si sh ce ca td wa kp la bf oo bo pw ow tr)) at_X2_readItem_6 rfl rfl (Nat.le_of_ble_eq_true rfl) rfl (ab_rvOf w34 rfl) (w_rw0 hn ha l_lt hlt hw) (by decide) w_lens ?_
                refine E_istore_n (L2 := [some (.ref 34), some (.int (nI a)), some (.int (nI 0))]) at_X2_readItem_9 rfl ?_
                refine E_aload_n at_X2_readItem_10 rfl ?_
                refine E_getfield (v := .int (-1)) at_X2_readItem_11 w34 rfl (by decide) rfl ?_
                refine E_iconst (x := (-1)) at_X2_readItem_14 (by decide) ?_
                refine E_ic (t := 19) (b := true) at_X2_readItem_15 rfl (by decide) ?_
                refine E_iload_n at_X2_readItem_19 rfl ?_
                refine E_tsIn (off := 36) (t := 56) at_X2_readItem_20 (by decide) rfl rfl ?_
                refine E_aload_n at_X2_readItem_56 rfl ?_
                refine E_iload_n at_X2_readItem_57 rfl ?_
                have e2 : Ev ab_Z0 4 16 [.ref 34, .int (nI a)] (ww im lf s d k ls (-1) (nI n) (nI (a + 5)) rn q lt m1 m2 m3 m4 bd fc hd sz el t g fm hm so si sh ce ca td wa kp la bf oo bo pw ow tr) (none, (ww im lf s d k ls (nI (cnE e n (a + 5) + 1)) (nI n) (nI (cnE e n (a + 5) + 1)) (nI (a + 6)) q lt m1 m2 m3 m4 bd fc hd sz el t g fm hm so si sh ce ca td wa kp la bf oo bo pw ow tr)) := by
                  refine Ef.in (md := mX2_readPiece) (L := [some (.ref 34), some (.int (nI a)), none, none, none]) rfl (Nat.le_of_ble_eq_true rfl) rfl ?_
                  refine E_aload_n at_X2_readPiece_0 rfl ?_
                  refine E_getfield (v := .ref 35) at_X2_readPiece_1 w34 rfl (by decide) rfl ?_
                  have e1 : Ev ab_Z0 1 52 [.ref 35] (ww im lf s d k ls (-1) (nI n) (nI (a + 5)) rn q lt m1 m2 m3 m4 bd fc hd sz el t g fm hm so si sh ce ca td wa kp la bf oo bo pw ow tr) (some (.int (nI 1)), (ww im lf s d k ls (-1) (nI n) (nI (a + 5)) rn q lt m1 m2 m3 m4 bd fc hd sz el t g fm hm so si sh ce ca td wa kp la bf oo bo pw ow tr)) := by
                    refine Ef.in (md := mX4_hasRoomForPiece) (L := [some (.ref 35)]) rfl (Nat.le_of_ble_eq_true rfl) rfl ?_
                    refine E_aload_n at_X4_hasRoomForPiece_0 rfl ?_
                    refine E_getfield (v := .int (nI (qN q))) at_X4_hasRoomForPiece_1 w35 rfl (by decide) rfl ?_
                    refine E_bipush (x := nI 9) at_X4_hasRoomForPiece_4 (by decide) ?_
                    refine E_ic (t := 13) (b := false) at_X4_hasRoomForPiece_6 rfl ((cn_ge (nI_toInt (by omega)) (nI_toInt (by omega))).trans (decide_eq_false (by omega))) ?_
                    refine E_iconst (x := nI 1) at_X4_hasRoomForPiece_9 (by decide) ?_
                    refine E_goto (t := 14) at_X4_hasRoomForPiece_10 rfl ?_
                    exact E_iret at_X4_hasRoomForPiece_14 rfl
                  refine E_callV (v := some (.int (nI 1))) (As := [.ref 35]) (r0 := []) (cs2 := (ww im lf s d k ls (-1) (nI n) (nI (a + 5)) rn q lt m1 m2 m3 m4 bd fc hd sz el t g fm hm so si sh ce ca td wa kp la bf oo bo pw ow tr)) at_X2_readPiece_4 rfl rfl (Nat.le_of_ble_eq_true rfl) rfl (ab_rvOf w35 rfl) e1 (by decide) rfl ?_
                  refine E_if (t := 15) (b := true) at_X2_readPiece_7 rfl (by decide) ?_
                  refine E_aload_n at_X2_readPiece_15 rfl ?_
                  refine E_iconst (x := nI 0) at_X2_readPiece_16 (by decide) ?_
                  refine E_bipush (x := nI 6) at_X2_readPiece_17 (by decide) ?_
                  refine E_callV (v := some (.int (nI (nuV e n (a + 6))))) (As := [.ref 34, .int (nI 0), .int (nI 6)]) (r0 := []) (cs2 := (ww im lf s d k ls (-1) (nI n) (nI (cnE e n (a + 5))) (nI (a + 6)) q lt m1 m2 m3 m4 bd fc hd sz el t g fm hm so si sh ce ca td wa kp la bf oo bo pw ow tr)) at_X2_readPiece_19 rfl rfl (Nat.le_of_ble_eq_true rfl) rfl (ab_rvOf w34 rfl) (w_nuC (a := a + 5) (hi := nI 6) (by decide) hn (by omega) l_lt hlt hb0 hd0 (show 0 ≤ nuV e n (a + 6) from by omega) (show ((nuV e n (a + 6) : Nat) : Int) ≤ (nI 6).toInt from by rw [(nI_toInt (by omega) : (nI 6).toInt = ((6 : Nat) : Int))]; omega)) (by decide) w_lens ?_
                  refine E_istore_n (L2 := [some (.ref 34), some (.int (nI a)), some (.int (nI (nuV e n (a + 6)))), none, none]) at_X2_readPiece_22 rfl ?_
                  refine E_aload_n at_X2_readPiece_23 rfl ?_
                  refine E_iconst (x := nI 0) at_X2_readPiece_24 (by decide) ?_
                  refine E_bipush (x := nI 9) at_X2_readPiece_25 (by decide) ?_
                  refine E_callV (v := some (.int (nI 0))) (As := [.ref 34, .int (nI 0), .int (nI 9)]) (r0 := []) (cs2 := (ww im lf s d k ls (nI (cnE e n (a + 5) + 1)) (nI n) (nI (cnE e n (a + 5) + 1)) (nI (a + 6)) q lt m1 m2 m3 m4 bd fc hd sz el t g fm hm so si sh ce ca td wa kp la bf oo bo pw ow tr)) at_X2_readPiece_27 rfl rfl (Nat.le_of_ble_eq_true rfl) rfl (ab_rvOf w34 rfl) (w_nuB (a := cnE e n (a + 5)) (hi := nI 9) (by decide) hn (by omega) l_lt hlt hb1 hd1) (by decide) w_lens ?_
                  refine E_istore_n (L2 := [some (.ref 34), some (.int (nI a)), some (.int (nI (nuV e n (a + 6)))), some (.int (nI 0)), none]) at_X2_readPiece_30 rfl ?_
                  refine E_aload_n at_X2_readPiece_31 rfl ?_
                  refine E_iconst (x := nI 1) at_X2_readPiece_32 (by decide) ?_
                  refine E_bipush (x := nI 50) at_X2_readPiece_33 (by decide) ?_
                  refine E_callV (v := some (.int (nI 0))) (As := [.ref 34, .int (nI 1), .int (nI 50)]) (r0 := []) (cs2 := (ww im lf s d k ls (nI (cnE e n (a + 5) + 1)) (nI n) (nI (cnE e n (a + 5) + 1)) (nI (a + 6)) q lt m1 m2 m3 m4 bd fc hd sz el t g fm hm so si sh ce ca td wa kp la bf oo bo pw ow tr)) at_X2_readPiece_35 rfl rfl (Nat.le_of_ble_eq_true rfl) rfl (ab_rvOf w34 rfl) (w_nux (f := cnE e n (a + 5) + 1) (by omega)) (by decide) rfl ?_
                  refine E_istore (L2 := [some (.ref 34), some (.int (nI a)), some (.int (nI (nuV e n (a + 6)))), some (.int (nI 0)), some (.int (nI 0))]) at_X2_readPiece_38 rfl ?_
                  refine E_aload_n at_X2_readPiece_40 rfl ?_
                  refine E_getfield (v := .int (nI (cnE e n (a + 5) + 1))) at_X2_readPiece_41 w34 rfl (by decide) rfl ?_
                  refine E_iconst (x := (-1)) at_X2_readPiece_44 (by decide) ?_
                  refine E_ic (t := 60) (b := true) at_X2_readPiece_45 rfl ((cn_ne (nI_toInt (by omega)) (by decide : (-1 : Int32).toInt = -1)).trans (decide_eq_true (by omega))) ?_
                  exact E_vret at_X2_readPiece_60 rfl
                refine E_callV (v := none) (As := [.ref 34, .int (nI a)]) (r0 := []) (cs2 := (ww im lf s d k ls (nI (cnE e n (a + 5) + 1)) (nI n) (nI (cnE e n (a + 5) + 1)) (nI (a + 6)) q lt m1 m2 m3 m4 bd fc hd sz el t g fm hm so si sh ce ca td wa kp la bf oo bo pw ow tr)) at_X2_readItem_58 rfl rfl (Nat.le_of_ble_eq_true rfl) rfl (ab_rvOf w34 rfl) e2 (by decide) w_lens ?_
                refine E_goto (t := 110) at_X2_readItem_61 rfl ?_
                exact E_vret at_X2_readItem_110 rfl
              · rcases Nat.lt_or_ge (nuV e n (cnE e n (a + 5) + 1)) (10) with hr1 | hr1
                · rcases bo2 (chB e n (cnE e n (cnE e n (a + 5))) 32) with hb2 | hb2
                  · have hz := mtc_n (e := e) (n := n) [112, 105, 101, 99, 101] a ha
                    have hz_ : a + mj0 e n a ≤ n := hz
                    have hb0_ := (chB_t hb0).1
                    have hd0_ := (dgB_t hd0).1
                    have hV0 := nuV_99 hd0
                    have hc0 := cnE_n hd0
                    have hb1_ := (chB_t hb1).1
                    have hd1_ := (dgB_t hd1).1
                    have hV1 := nuV_99 hd1
                    have hc1 := cnE_n hd1
                    have hF0 : nuF e n (a + 5) 0 7 = 0 := nuF_C hb0 hd0 (show ¬ (nuV e n (a + 6) < 0 ∨ 7 ≤ nuV e n (a + 6)) from by omega)
                    have hF1 : nuF e n (cnE e n (a + 5)) 0 10 = 0 := nuF_C hb1 hd1 (show ¬ (nuV e n (cnE e n (a + 5) + 1) < 0 ∨ 10 ≤ nuV e n (cnE e n (a + 5) + 1)) from by omega)
                    have hF2 : nuF e n (cnE e n (cnE e n (a + 5))) 1 51 = cnE e n (cnE e n (a + 5)) + 1 := nuF_A hb2
                    have hI : itF e n q a = cnE e n (cnE e n (a + 5)) + 1 := (it_0 (q := q) hw).1.trans (by rw [if_neg (by omega)]; unfold s3F; rw [if_pos hF0]; unfold s2F; rw [if_pos hF1]; exact hF2)
                    refine ⟨q, (nI (cnE e n (cnE e n (a + 5)))), (nI (cnE e n (cnE e n (a + 5)))), (nI (cnE e n (a + 5) + 1)), ?_, Or.inr ⟨cnE e n (cnE e n (a + 5)), by omega, rfl, by omega, rfl⟩⟩
                    refine Ef.in (md := mX2_readItem) (L := [some (.ref 34), none, none]) rfl (Nat.le_of_ble_eq_true rfl) rfl ?_
                    refine E_aload_n at_X2_readItem_0 rfl ?_
                    refine E_getfield (v := .int (nI a)) at_X2_readItem_1 w34 rfl (by decide) rfl ?_
                    refine E_istore_n (L2 := [some (.ref 34), some (.int (nI a)), none]) at_X2_readItem_4 rfl ?_
                    refine E_aload_n at_X2_readItem_5 rfl ?_
                    refine E_callV (v := some (.int (nI 0))) (As := [.ref 34]) (r0 := []) (cs2 := (ww im lf s d k ls (-1) (nI n) (nI (a + 5)) rn q lt m1 m2 m3 m4 bd fc hd sz el t g fm hm so si sh ce ca td wa kp la bf oo bo pw ow tr)) at_X2_readItem_6 rfl rfl (Nat.le_of_ble_eq_true rfl) rfl (ab_rvOf w34 rfl) (w_rw0 hn ha l_lt hlt hw) (by decide) w_lens ?_
                    refine E_istore_n (L2 := [some (.ref 34), some (.int (nI a)), some (.int (nI 0))]) at_X2_readItem_9 rfl ?_
                    refine E_aload_n at_X2_readItem_10 rfl ?_
                    refine E_getfield (v := .int (-1)) at_X2_readItem_11 w34 rfl (by decide) rfl ?_
                    refine E_iconst (x := (-1)) at_X2_readItem_14 (by decide) ?_
                    refine E_ic (t := 19) (b := true) at_X2_readItem_15 rfl (by decide) ?_
                    refine E_iload_n at_X2_readItem_19 rfl ?_
                    refine E_tsIn (off := 36) (t := 56) at_X2_readItem_20 (by decide) rfl rfl ?_
                    refine E_aload_n at_X2_readItem_56 rfl ?_
                    refine E_iload_n at_X2_readItem_57 rfl ?_
                    have e2 : Ev ab_Z0 4 16 [.ref 34, .int (nI a)] (ww im lf s d k ls (-1) (nI n) (nI (a + 5)) rn q lt m1 m2 m3 m4 bd fc hd sz el t g fm hm so si sh ce ca td wa kp la bf oo bo pw ow tr) (none, (ww im lf s d k ls (nI (cnE e n (cnE e n (a + 5)))) (nI n) (nI (cnE e n (cnE e n (a + 5)))) (nI (cnE e n (a + 5) + 1)) q lt m1 m2 m3 m4 bd fc hd sz el t g fm hm so si sh ce ca td wa kp la bf oo bo pw ow tr)) := by
                      refine Ef.in (md := mX2_readPiece) (L := [some (.ref 34), some (.int (nI a)), none, none, none]) rfl (Nat.le_of_ble_eq_true rfl) rfl ?_
                      refine E_aload_n at_X2_readPiece_0 rfl ?_
                      refine E_getfield (v := .ref 35) at_X2_readPiece_1 w34 rfl (by decide) rfl ?_
                      have e1 : Ev ab_Z0 1 52 [.ref 35] (ww im lf s d k ls (-1) (nI n) (nI (a + 5)) rn q lt m1 m2 m3 m4 bd fc hd sz el t g fm hm so si sh ce ca td wa kp la bf oo bo pw ow tr) (some (.int (nI 1)), (ww im lf s d k ls (-1) (nI n) (nI (a + 5)) rn q lt m1 m2 m3 m4 bd fc hd sz el t g fm hm so si sh ce ca td wa kp la bf oo bo pw ow tr)) := by
                        refine Ef.in (md := mX4_hasRoomForPiece) (L := [some (.ref 35)]) rfl (Nat.le_of_ble_eq_true rfl) rfl ?_
                        refine E_aload_n at_X4_hasRoomForPiece_0 rfl ?_
                        refine E_getfield (v := .int (nI (qN q))) at_X4_hasRoomForPiece_1 w35 rfl (by decide) rfl ?_
                        refine E_bipush (x := nI 9) at_X4_hasRoomForPiece_4 (by decide) ?_
                        refine E_ic (t := 13) (b := false) at_X4_hasRoomForPiece_6 rfl ((cn_ge (nI_toInt (by omega)) (nI_toInt (by omega))).trans (decide_eq_false (by omega))) ?_
                        refine E_iconst (x := nI 1) at_X4_hasRoomForPiece_9 (by decide) ?_
                        refine E_goto (t := 14) at_X4_hasRoomForPiece_10 rfl ?_
                        exact E_iret at_X4_hasRoomForPiece_14 rfl
                      refine E_callV (v := some (.int (nI 1))) (As := [.ref 35]) (r0 := []) (cs2 := (ww im lf s d k ls (-1) (nI n) (nI (a + 5)) rn q lt m1 m2 m3 m4 bd fc hd sz el t g fm hm so si sh ce ca td wa kp la bf oo bo pw ow tr)) at_X2_readPiece_4 rfl rfl (Nat.le_of_ble_eq_true rfl) rfl (ab_rvOf w35 rfl) e1 (by decide) rfl ?_
                      refine E_if (t := 15) (b := true) at_X2_readPiece_7 rfl (by decide) ?_
                      refine E_aload_n at_X2_readPiece_15 rfl ?_
                      refine E_iconst (x := nI 0) at_X2_readPiece_16 (by decide) ?_
                      refine E_bipush (x := nI 6) at_X2_readPiece_17 (by decide) ?_
                      refine E_callV (v := some (.int (nI (nuV e n (a + 6))))) (As := [.ref 34, .int (nI 0), .int (nI 6)]) (r0 := []) (cs2 := (ww im lf s d k ls (-1) (nI n) (nI (cnE e n (a + 5))) (nI (a + 6)) q lt m1 m2 m3 m4 bd fc hd sz el t g fm hm so si sh ce ca td wa kp la bf oo bo pw ow tr)) at_X2_readPiece_19 rfl rfl (Nat.le_of_ble_eq_true rfl) rfl (ab_rvOf w34 rfl) (w_nuC (a := a + 5) (hi := nI 6) (by decide) hn (by omega) l_lt hlt hb0 hd0 (show 0 ≤ nuV e n (a + 6) from by omega) (show ((nuV e n (a + 6) : Nat) : Int) ≤ (nI 6).toInt from by rw [(nI_toInt (by omega) : (nI 6).toInt = ((6 : Nat) : Int))]; omega)) (by decide) w_lens ?_
                      refine E_istore_n (L2 := [some (.ref 34), some (.int (nI a)), some (.int (nI (nuV e n (a + 6)))), none, none]) at_X2_readPiece_22 rfl ?_
                      refine E_aload_n at_X2_readPiece_23 rfl ?_
                      refine E_iconst (x := nI 0) at_X2_readPiece_24 (by decide) ?_
                      refine E_bipush (x := nI 9) at_X2_readPiece_25 (by decide) ?_
                      refine E_callV (v := some (.int (nI (nuV e n (cnE e n (a + 5) + 1))))) (As := [.ref 34, .int (nI 0), .int (nI 9)]) (r0 := []) (cs2 := (ww im lf s d k ls (-1) (nI n) (nI (cnE e n (cnE e n (a + 5)))) (nI (cnE e n (a + 5) + 1)) q lt m1 m2 m3 m4 bd fc hd sz el t g fm hm so si sh ce ca td wa kp la bf oo bo pw ow tr)) at_X2_readPiece_27 rfl rfl (Nat.le_of_ble_eq_true rfl) rfl (ab_rvOf w34 rfl) (w_nuC (a := cnE e n (a + 5)) (hi := nI 9) (by decide) hn (by omega) l_lt hlt hb1 hd1 (show 0 ≤ nuV e n (cnE e n (a + 5) + 1) from by omega) (show ((nuV e n (cnE e n (a + 5) + 1) : Nat) : Int) ≤ (nI 9).toInt from by rw [(nI_toInt (by omega) : (nI 9).toInt = ((9 : Nat) : Int))]; omega)) (by decide) w_lens ?_
                      refine E_istore_n (L2 := [some (.ref 34), some (.int (nI a)), some (.int (nI (nuV e n (a + 6)))), some (.int (nI (nuV e n (cnE e n (a + 5) + 1)))), none]) at_X2_readPiece_30 rfl ?_
                      refine E_aload_n at_X2_readPiece_31 rfl ?_
                      refine E_iconst (x := nI 1) at_X2_readPiece_32 (by decide) ?_
                      refine E_bipush (x := nI 50) at_X2_readPiece_33 (by decide) ?_
                      refine E_callV (v := some (.int (nI 0))) (As := [.ref 34, .int (nI 1), .int (nI 50)]) (r0 := []) (cs2 := (ww im lf s d k ls (nI (cnE e n (cnE e n (a + 5)))) (nI n) (nI (cnE e n (cnE e n (a + 5)))) (nI (cnE e n (a + 5) + 1)) q lt m1 m2 m3 m4 bd fc hd sz el t g fm hm so si sh ce ca td wa kp la bf oo bo pw ow tr)) at_X2_readPiece_35 rfl rfl (Nat.le_of_ble_eq_true rfl) rfl (ab_rvOf w34 rfl) (w_nuA (a := cnE e n (cnE e n (a + 5))) (hi := nI 50) (by decide) hn (by omega) l_lt hlt hb2) (by decide) w_lens ?_
                      refine E_istore (L2 := [some (.ref 34), some (.int (nI a)), some (.int (nI (nuV e n (a + 6)))), some (.int (nI (nuV e n (cnE e n (a + 5) + 1)))), some (.int (nI 0))]) at_X2_readPiece_38 rfl ?_
                      refine E_aload_n at_X2_readPiece_40 rfl ?_
                      refine E_getfield (v := .int (nI (cnE e n (cnE e n (a + 5))))) at_X2_readPiece_41 w34 rfl (by decide) rfl ?_
                      refine E_iconst (x := (-1)) at_X2_readPiece_44 (by decide) ?_
                      refine E_ic (t := 60) (b := true) at_X2_readPiece_45 rfl ((cn_ne (nI_toInt (by omega)) (by decide : (-1 : Int32).toInt = -1)).trans (decide_eq_true (by omega))) ?_
                      exact E_vret at_X2_readPiece_60 rfl
                    refine E_callV (v := none) (As := [.ref 34, .int (nI a)]) (r0 := []) (cs2 := (ww im lf s d k ls (nI (cnE e n (cnE e n (a + 5)))) (nI n) (nI (cnE e n (cnE e n (a + 5)))) (nI (cnE e n (a + 5) + 1)) q lt m1 m2 m3 m4 bd fc hd sz el t g fm hm so si sh ce ca td wa kp la bf oo bo pw ow tr)) at_X2_readItem_58 rfl rfl (Nat.le_of_ble_eq_true rfl) rfl (ab_rvOf w34 rfl) e2 (by decide) w_lens ?_
                    refine E_goto (t := 110) at_X2_readItem_61 rfl ?_
                    exact E_vret at_X2_readItem_110 rfl
                  · rcases bo2 (dgB e n (cnE e n (cnE e n (a + 5)) + 1)) with hd2 | hd2
                    · have hz := mtc_n (e := e) (n := n) [112, 105, 101, 99, 101] a ha
                      have hz_ : a + mj0 e n a ≤ n := hz
                      have hb0_ := (chB_t hb0).1
                      have hd0_ := (dgB_t hd0).1
                      have hV0 := nuV_99 hd0
                      have hc0 := cnE_n hd0
                      have hb1_ := (chB_t hb1).1
                      have hd1_ := (dgB_t hd1).1
                      have hV1 := nuV_99 hd1
                      have hc1 := cnE_n hd1
                      have hb2_ := (chB_t hb2).1
                      have hF0 : nuF e n (a + 5) 0 7 = 0 := nuF_C hb0 hd0 (show ¬ (nuV e n (a + 6) < 0 ∨ 7 ≤ nuV e n (a + 6)) from by omega)
                      have hF1 : nuF e n (cnE e n (a + 5)) 0 10 = 0 := nuF_C hb1 hd1 (show ¬ (nuV e n (cnE e n (a + 5) + 1) < 0 ∨ 10 ≤ nuV e n (cnE e n (a + 5) + 1)) from by omega)
                      have hF2 : nuF e n (cnE e n (cnE e n (a + 5))) 1 51 = cnE e n (cnE e n (a + 5)) + 2 := nuF_B hb2 hd2
                      have hI : itF e n q a = cnE e n (cnE e n (a + 5)) + 2 := (it_0 (q := q) hw).1.trans (by rw [if_neg (by omega)]; unfold s3F; rw [if_pos hF0]; unfold s2F; rw [if_pos hF1]; exact hF2)
                      refine ⟨q, (nI (cnE e n (cnE e n (a + 5)) + 1)), (nI (cnE e n (cnE e n (a + 5)) + 1)), (nI (cnE e n (a + 5) + 1)), ?_, Or.inr ⟨cnE e n (cnE e n (a + 5)) + 1, by omega, rfl, by omega, rfl⟩⟩
                      refine Ef.in (md := mX2_readItem) (L := [some (.ref 34), none, none]) rfl (Nat.le_of_ble_eq_true rfl) rfl ?_
                      refine E_aload_n at_X2_readItem_0 rfl ?_
                      refine E_getfield (v := .int (nI a)) at_X2_readItem_1 w34 rfl (by decide) rfl ?_
                      refine E_istore_n (L2 := [some (.ref 34), some (.int (nI a)), none]) at_X2_readItem_4 rfl ?_
                      refine E_aload_n at_X2_readItem_5 rfl ?_
                      refine E_callV (v := some (.int (nI 0))) (As := [.ref 34]) (r0 := []) (cs2 := (ww im lf s d k ls (-1) (nI n) (nI (a + 5)) rn q lt m1 m2 m3 m4 bd fc hd sz el t g fm hm so si sh ce ca td wa kp la bf oo bo pw ow tr)) at_X2_readItem_6 rfl rfl (Nat.le_of_ble_eq_true rfl) rfl (ab_rvOf w34 rfl) (w_rw0 hn ha l_lt hlt hw) (by decide) w_lens ?_
                      refine E_istore_n (L2 := [some (.ref 34), some (.int (nI a)), some (.int (nI 0))]) at_X2_readItem_9 rfl ?_
                      refine E_aload_n at_X2_readItem_10 rfl ?_
                      refine E_getfield (v := .int (-1)) at_X2_readItem_11 w34 rfl (by decide) rfl ?_
                      refine E_iconst (x := (-1)) at_X2_readItem_14 (by decide) ?_
                      refine E_ic (t := 19) (b := true) at_X2_readItem_15 rfl (by decide) ?_
                      refine E_iload_n at_X2_readItem_19 rfl ?_
                      refine E_tsIn (off := 36) (t := 56) at_X2_readItem_20 (by decide) rfl rfl ?_
                      refine E_aload_n at_X2_readItem_56 rfl ?_
                      refine E_iload_n at_X2_readItem_57 rfl ?_
                      have e2 : Ev ab_Z0 4 16 [.ref 34, .int (nI a)] (ww im lf s d k ls (-1) (nI n) (nI (a + 5)) rn q lt m1 m2 m3 m4 bd fc hd sz el t g fm hm so si sh ce ca td wa kp la bf oo bo pw ow tr) (none, (ww im lf s d k ls (nI (cnE e n (cnE e n (a + 5)) + 1)) (nI n) (nI (cnE e n (cnE e n (a + 5)) + 1)) (nI (cnE e n (a + 5) + 1)) q lt m1 m2 m3 m4 bd fc hd sz el t g fm hm so si sh ce ca td wa kp la bf oo bo pw ow tr)) := by
                        refine Ef.in (md := mX2_readPiece) (L := [some (.ref 34), some (.int (nI a)), none, none, none]) rfl (Nat.le_of_ble_eq_true rfl) rfl ?_
                        refine E_aload_n at_X2_readPiece_0 rfl ?_
                        refine E_getfield (v := .ref 35) at_X2_readPiece_1 w34 rfl (by decide) rfl ?_
                        have e1 : Ev ab_Z0 1 52 [.ref 35] (ww im lf s d k ls (-1) (nI n) (nI (a + 5)) rn q lt m1 m2 m3 m4 bd fc hd sz el t g fm hm so si sh ce ca td wa kp la bf oo bo pw ow tr) (some (.int (nI 1)), (ww im lf s d k ls (-1) (nI n) (nI (a + 5)) rn q lt m1 m2 m3 m4 bd fc hd sz el t g fm hm so si sh ce ca td wa kp la bf oo bo pw ow tr)) := by
                          refine Ef.in (md := mX4_hasRoomForPiece) (L := [some (.ref 35)]) rfl (Nat.le_of_ble_eq_true rfl) rfl ?_
                          refine E_aload_n at_X4_hasRoomForPiece_0 rfl ?_
                          refine E_getfield (v := .int (nI (qN q))) at_X4_hasRoomForPiece_1 w35 rfl (by decide) rfl ?_
                          refine E_bipush (x := nI 9) at_X4_hasRoomForPiece_4 (by decide) ?_
                          refine E_ic (t := 13) (b := false) at_X4_hasRoomForPiece_6 rfl ((cn_ge (nI_toInt (by omega)) (nI_toInt (by omega))).trans (decide_eq_false (by omega))) ?_
                          refine E_iconst (x := nI 1) at_X4_hasRoomForPiece_9 (by decide) ?_
                          refine E_goto (t := 14) at_X4_hasRoomForPiece_10 rfl ?_
                          exact E_iret at_X4_hasRoomForPiece_14 rfl
                        refine E_callV (v := some (.int (nI 1))) (As := [.ref 35]) (r0 := []) (cs2 := (ww im lf s d k ls (-1) (nI n) (nI (a + 5)) rn q lt m1 m2 m3 m4 bd fc hd sz el t g fm hm so si sh ce ca td wa kp la bf oo bo pw ow tr)) at_X2_readPiece_4 rfl rfl (Nat.le_of_ble_eq_true rfl) rfl (ab_rvOf w35 rfl) e1 (by decide) rfl ?_
                        refine E_if (t := 15) (b := true) at_X2_readPiece_7 rfl (by decide) ?_
                        refine E_aload_n at_X2_readPiece_15 rfl ?_
                        refine E_iconst (x := nI 0) at_X2_readPiece_16 (by decide) ?_
                        refine E_bipush (x := nI 6) at_X2_readPiece_17 (by decide) ?_
                        refine E_callV (v := some (.int (nI (nuV e n (a + 6))))) (As := [.ref 34, .int (nI 0), .int (nI 6)]) (r0 := []) (cs2 := (ww im lf s d k ls (-1) (nI n) (nI (cnE e n (a + 5))) (nI (a + 6)) q lt m1 m2 m3 m4 bd fc hd sz el t g fm hm so si sh ce ca td wa kp la bf oo bo pw ow tr)) at_X2_readPiece_19 rfl rfl (Nat.le_of_ble_eq_true rfl) rfl (ab_rvOf w34 rfl) (w_nuC (a := a + 5) (hi := nI 6) (by decide) hn (by omega) l_lt hlt hb0 hd0 (show 0 ≤ nuV e n (a + 6) from by omega) (show ((nuV e n (a + 6) : Nat) : Int) ≤ (nI 6).toInt from by rw [(nI_toInt (by omega) : (nI 6).toInt = ((6 : Nat) : Int))]; omega)) (by decide) w_lens ?_
                        refine E_istore_n (L2 := [some (.ref 34), some (.int (nI a)), some (.int (nI (nuV e n (a + 6)))), none, none]) at_X2_readPiece_22 rfl ?_
                        refine E_aload_n at_X2_readPiece_23 rfl ?_
                        refine E_iconst (x := nI 0) at_X2_readPiece_24 (by decide) ?_
                        refine E_bipush (x := nI 9) at_X2_readPiece_25 (by decide) ?_
                        refine E_callV (v := some (.int (nI (nuV e n (cnE e n (a + 5) + 1))))) (As := [.ref 34, .int (nI 0), .int (nI 9)]) (r0 := []) (cs2 := (ww im lf s d k ls (-1) (nI n) (nI (cnE e n (cnE e n (a + 5)))) (nI (cnE e n (a + 5) + 1)) q lt m1 m2 m3 m4 bd fc hd sz el t g fm hm so si sh ce ca td wa kp la bf oo bo pw ow tr)) at_X2_readPiece_27 rfl rfl (Nat.le_of_ble_eq_true rfl) rfl (ab_rvOf w34 rfl) (w_nuC (a := cnE e n (a + 5)) (hi := nI 9) (by decide) hn (by omega) l_lt hlt hb1 hd1 (show 0 ≤ nuV e n (cnE e n (a + 5) + 1) from by omega) (show ((nuV e n (cnE e n (a + 5) + 1) : Nat) : Int) ≤ (nI 9).toInt from by rw [(nI_toInt (by omega) : (nI 9).toInt = ((9 : Nat) : Int))]; omega)) (by decide) w_lens ?_
                        refine E_istore_n (L2 := [some (.ref 34), some (.int (nI a)), some (.int (nI (nuV e n (a + 6)))), some (.int (nI (nuV e n (cnE e n (a + 5) + 1)))), none]) at_X2_readPiece_30 rfl ?_
                        refine E_aload_n at_X2_readPiece_31 rfl ?_
                        refine E_iconst (x := nI 1) at_X2_readPiece_32 (by decide) ?_
                        refine E_bipush (x := nI 50) at_X2_readPiece_33 (by decide) ?_
                        refine E_callV (v := some (.int (nI 0))) (As := [.ref 34, .int (nI 1), .int (nI 50)]) (r0 := []) (cs2 := (ww im lf s d k ls (nI (cnE e n (cnE e n (a + 5)) + 1)) (nI n) (nI (cnE e n (cnE e n (a + 5)) + 1)) (nI (cnE e n (a + 5) + 1)) q lt m1 m2 m3 m4 bd fc hd sz el t g fm hm so si sh ce ca td wa kp la bf oo bo pw ow tr)) at_X2_readPiece_35 rfl rfl (Nat.le_of_ble_eq_true rfl) rfl (ab_rvOf w34 rfl) (w_nuB (a := cnE e n (cnE e n (a + 5))) (hi := nI 50) (by decide) hn (by omega) l_lt hlt hb2 hd2) (by decide) w_lens ?_
                        refine E_istore (L2 := [some (.ref 34), some (.int (nI a)), some (.int (nI (nuV e n (a + 6)))), some (.int (nI (nuV e n (cnE e n (a + 5) + 1)))), some (.int (nI 0))]) at_X2_readPiece_38 rfl ?_
                        refine E_aload_n at_X2_readPiece_40 rfl ?_
                        refine E_getfield (v := .int (nI (cnE e n (cnE e n (a + 5)) + 1))) at_X2_readPiece_41 w34 rfl (by decide) rfl ?_
                        refine E_iconst (x := (-1)) at_X2_readPiece_44 (by decide) ?_
                        refine E_ic (t := 60) (b := true) at_X2_readPiece_45 rfl ((cn_ne (nI_toInt (by omega)) (by decide : (-1 : Int32).toInt = -1)).trans (decide_eq_true (by omega))) ?_
                        exact E_vret at_X2_readPiece_60 rfl
                      refine E_callV (v := none) (As := [.ref 34, .int (nI a)]) (r0 := []) (cs2 := (ww im lf s d k ls (nI (cnE e n (cnE e n (a + 5)) + 1)) (nI n) (nI (cnE e n (cnE e n (a + 5)) + 1)) (nI (cnE e n (a + 5) + 1)) q lt m1 m2 m3 m4 bd fc hd sz el t g fm hm so si sh ce ca td wa kp la bf oo bo pw ow tr)) at_X2_readItem_58 rfl rfl (Nat.le_of_ble_eq_true rfl) rfl (ab_rvOf w34 rfl) e2 (by decide) w_lens ?_
                      refine E_goto (t := 110) at_X2_readItem_61 rfl ?_
                      exact E_vret at_X2_readItem_110 rfl
                    · rcases Nat.lt_or_ge (nuV e n (cnE e n (cnE e n (a + 5)) + 1)) 1 with hr2 | hr2
                      · have hz := mtc_n (e := e) (n := n) [112, 105, 101, 99, 101] a ha
                        have hz_ : a + mj0 e n a ≤ n := hz
                        have hb0_ := (chB_t hb0).1
                        have hd0_ := (dgB_t hd0).1
                        have hV0 := nuV_99 hd0
                        have hc0 := cnE_n hd0
                        have hb1_ := (chB_t hb1).1
                        have hd1_ := (dgB_t hd1).1
                        have hV1 := nuV_99 hd1
                        have hc1 := cnE_n hd1
                        have hb2_ := (chB_t hb2).1
                        have hd2_ := (dgB_t hd2).1
                        have hV2 := nuV_99 hd2
                        have hF0 : nuF e n (a + 5) 0 7 = 0 := nuF_C hb0 hd0 (show ¬ (nuV e n (a + 6) < 0 ∨ 7 ≤ nuV e n (a + 6)) from by omega)
                        have hF1 : nuF e n (cnE e n (a + 5)) 0 10 = 0 := nuF_C hb1 hd1 (show ¬ (nuV e n (cnE e n (a + 5) + 1) < 0 ∨ 10 ≤ nuV e n (cnE e n (a + 5) + 1)) from by omega)
                        have hF2 : nuF e n (cnE e n (cnE e n (a + 5))) 1 51 = cnE e n (cnE e n (a + 5)) + 2 := nuF_D hb2 hd2 (show nuV e n (cnE e n (cnE e n (a + 5)) + 1) < 1 ∨ 51 ≤ nuV e n (cnE e n (cnE e n (a + 5)) + 1) from by omega)
                        have hI : itF e n q a = cnE e n (cnE e n (a + 5)) + 2 := (it_0 (q := q) hw).1.trans (by rw [if_neg (by omega)]; unfold s3F; rw [if_pos hF0]; unfold s2F; rw [if_pos hF1]; exact hF2)
                        refine ⟨q, (nI (cnE e n (cnE e n (a + 5)) + 1)), (nI (nuE e n (cnE e n (cnE e n (a + 5)) + 1))), (nI (cnE e n (cnE e n (a + 5)) + 1)), ?_, Or.inr ⟨cnE e n (cnE e n (a + 5)) + 1, by omega, rfl, by omega, rfl⟩⟩
                        refine Ef.in (md := mX2_readItem) (L := [some (.ref 34), none, none]) rfl (Nat.le_of_ble_eq_true rfl) rfl ?_
                        refine E_aload_n at_X2_readItem_0 rfl ?_
                        refine E_getfield (v := .int (nI a)) at_X2_readItem_1 w34 rfl (by decide) rfl ?_
                        refine E_istore_n (L2 := [some (.ref 34), some (.int (nI a)), none]) at_X2_readItem_4 rfl ?_
                        refine E_aload_n at_X2_readItem_5 rfl ?_
                        refine E_callV (v := some (.int (nI 0))) (As := [.ref 34]) (r0 := []) (cs2 := (ww im lf s d k ls (-1) (nI n) (nI (a + 5)) rn q lt m1 m2 m3 m4 bd fc hd sz el t g fm hm so si sh ce ca td wa kp la bf oo bo pw ow tr)) at_X2_readItem_6 rfl rfl (Nat.le_of_ble_eq_true rfl) rfl (ab_rvOf w34 rfl) (w_rw0 hn ha l_lt hlt hw) (by decide) w_lens ?_
                        refine E_istore_n (L2 := [some (.ref 34), some (.int (nI a)), some (.int (nI 0))]) at_X2_readItem_9 rfl ?_
                        refine E_aload_n at_X2_readItem_10 rfl ?_
                        refine E_getfield (v := .int (-1)) at_X2_readItem_11 w34 rfl (by decide) rfl ?_
                        refine E_iconst (x := (-1)) at_X2_readItem_14 (by decide) ?_
                        refine E_ic (t := 19) (b := true) at_X2_readItem_15 rfl (by decide) ?_
                        refine E_iload_n at_X2_readItem_19 rfl ?_
                        refine E_tsIn (off := 36) (t := 56) at_X2_readItem_20 (by decide) rfl rfl ?_
                        refine E_aload_n at_X2_readItem_56 rfl ?_
                        refine E_iload_n at_X2_readItem_57 rfl ?_
                        have e2 : Ev ab_Z0 4 16 [.ref 34, .int (nI a)] (ww im lf s d k ls (-1) (nI n) (nI (a + 5)) rn q lt m1 m2 m3 m4 bd fc hd sz el t g fm hm so si sh ce ca td wa kp la bf oo bo pw ow tr) (none, (ww im lf s d k ls (nI (cnE e n (cnE e n (a + 5)) + 1)) (nI n) (nI (nuE e n (cnE e n (cnE e n (a + 5)) + 1))) (nI (cnE e n (cnE e n (a + 5)) + 1)) q lt m1 m2 m3 m4 bd fc hd sz el t g fm hm so si sh ce ca td wa kp la bf oo bo pw ow tr)) := by
                          refine Ef.in (md := mX2_readPiece) (L := [some (.ref 34), some (.int (nI a)), none, none, none]) rfl (Nat.le_of_ble_eq_true rfl) rfl ?_
                          refine E_aload_n at_X2_readPiece_0 rfl ?_
                          refine E_getfield (v := .ref 35) at_X2_readPiece_1 w34 rfl (by decide) rfl ?_
                          have e1 : Ev ab_Z0 1 52 [.ref 35] (ww im lf s d k ls (-1) (nI n) (nI (a + 5)) rn q lt m1 m2 m3 m4 bd fc hd sz el t g fm hm so si sh ce ca td wa kp la bf oo bo pw ow tr) (some (.int (nI 1)), (ww im lf s d k ls (-1) (nI n) (nI (a + 5)) rn q lt m1 m2 m3 m4 bd fc hd sz el t g fm hm so si sh ce ca td wa kp la bf oo bo pw ow tr)) := by
                            refine Ef.in (md := mX4_hasRoomForPiece) (L := [some (.ref 35)]) rfl (Nat.le_of_ble_eq_true rfl) rfl ?_
                            refine E_aload_n at_X4_hasRoomForPiece_0 rfl ?_
                            refine E_getfield (v := .int (nI (qN q))) at_X4_hasRoomForPiece_1 w35 rfl (by decide) rfl ?_
                            refine E_bipush (x := nI 9) at_X4_hasRoomForPiece_4 (by decide) ?_
                            refine E_ic (t := 13) (b := false) at_X4_hasRoomForPiece_6 rfl ((cn_ge (nI_toInt (by omega)) (nI_toInt (by omega))).trans (decide_eq_false (by omega))) ?_
                            refine E_iconst (x := nI 1) at_X4_hasRoomForPiece_9 (by decide) ?_
                            refine E_goto (t := 14) at_X4_hasRoomForPiece_10 rfl ?_
                            exact E_iret at_X4_hasRoomForPiece_14 rfl
                          refine E_callV (v := some (.int (nI 1))) (As := [.ref 35]) (r0 := []) (cs2 := (ww im lf s d k ls (-1) (nI n) (nI (a + 5)) rn q lt m1 m2 m3 m4 bd fc hd sz el t g fm hm so si sh ce ca td wa kp la bf oo bo pw ow tr)) at_X2_readPiece_4 rfl rfl (Nat.le_of_ble_eq_true rfl) rfl (ab_rvOf w35 rfl) e1 (by decide) rfl ?_
                          refine E_if (t := 15) (b := true) at_X2_readPiece_7 rfl (by decide) ?_
                          refine E_aload_n at_X2_readPiece_15 rfl ?_
                          refine E_iconst (x := nI 0) at_X2_readPiece_16 (by decide) ?_
                          refine E_bipush (x := nI 6) at_X2_readPiece_17 (by decide) ?_
                          refine E_callV (v := some (.int (nI (nuV e n (a + 6))))) (As := [.ref 34, .int (nI 0), .int (nI 6)]) (r0 := []) (cs2 := (ww im lf s d k ls (-1) (nI n) (nI (cnE e n (a + 5))) (nI (a + 6)) q lt m1 m2 m3 m4 bd fc hd sz el t g fm hm so si sh ce ca td wa kp la bf oo bo pw ow tr)) at_X2_readPiece_19 rfl rfl (Nat.le_of_ble_eq_true rfl) rfl (ab_rvOf w34 rfl) (w_nuC (a := a + 5) (hi := nI 6) (by decide) hn (by omega) l_lt hlt hb0 hd0 (show 0 ≤ nuV e n (a + 6) from by omega) (show ((nuV e n (a + 6) : Nat) : Int) ≤ (nI 6).toInt from by rw [(nI_toInt (by omega) : (nI 6).toInt = ((6 : Nat) : Int))]; omega)) (by decide) w_lens ?_
                          refine E_istore_n (L2 := [some (.ref 34), some (.int (nI a)), some (.int (nI (nuV e n (a + 6)))), none, none]) at_X2_readPiece_22 rfl ?_
                          refine E_aload_n at_X2_readPiece_23 rfl ?_
                          refine E_iconst (x := nI 0) at_X2_readPiece_24 (by decide) ?_
                          refine E_bipush (x := nI 9) at_X2_readPiece_25 (by decide) ?_
                          refine E_callV (v := some (.int (nI (nuV e n (cnE e n (a + 5) + 1))))) (As := [.ref 34, .int (nI 0), .int (nI 9)]) (r0 := []) (cs2 := (ww im lf s d k ls (-1) (nI n) (nI (cnE e n (cnE e n (a + 5)))) (nI (cnE e n (a + 5) + 1)) q lt m1 m2 m3 m4 bd fc hd sz el t g fm hm so si sh ce ca td wa kp la bf oo bo pw ow tr)) at_X2_readPiece_27 rfl rfl (Nat.le_of_ble_eq_true rfl) rfl (ab_rvOf w34 rfl) (w_nuC (a := cnE e n (a + 5)) (hi := nI 9) (by decide) hn (by omega) l_lt hlt hb1 hd1 (show 0 ≤ nuV e n (cnE e n (a + 5) + 1) from by omega) (show ((nuV e n (cnE e n (a + 5) + 1) : Nat) : Int) ≤ (nI 9).toInt from by rw [(nI_toInt (by omega) : (nI 9).toInt = ((9 : Nat) : Int))]; omega)) (by decide) w_lens ?_
                          refine E_istore_n (L2 := [some (.ref 34), some (.int (nI a)), some (.int (nI (nuV e n (a + 6)))), some (.int (nI (nuV e n (cnE e n (a + 5) + 1)))), none]) at_X2_readPiece_30 rfl ?_
                          refine E_aload_n at_X2_readPiece_31 rfl ?_
                          refine E_iconst (x := nI 1) at_X2_readPiece_32 (by decide) ?_
                          refine E_bipush (x := nI 50) at_X2_readPiece_33 (by decide) ?_
                          refine E_callV (v := some (.int (nI (nuV e n (cnE e n (cnE e n (a + 5)) + 1))))) (As := [.ref 34, .int (nI 1), .int (nI 50)]) (r0 := []) (cs2 := (ww im lf s d k ls (nI (cnE e n (cnE e n (a + 5)) + 1)) (nI n) (nI (nuE e n (cnE e n (cnE e n (a + 5)) + 1))) (nI (cnE e n (cnE e n (a + 5)) + 1)) q lt m1 m2 m3 m4 bd fc hd sz el t g fm hm so si sh ce ca td wa kp la bf oo bo pw ow tr)) at_X2_readPiece_35 rfl rfl (Nat.le_of_ble_eq_true rfl) rfl (ab_rvOf w34 rfl) (w_nuD (a := cnE e n (cnE e n (a + 5))) (hi := nI 50) (by decide) hn (by omega) l_lt hlt hb2 hd2 (show nuV e n (cnE e n (cnE e n (a + 5)) + 1) < 1 ∨ (nI 50).toInt < ((nuV e n (cnE e n (cnE e n (a + 5)) + 1) : Nat) : Int) from by rw [(nI_toInt (by omega) : (nI 50).toInt = ((50 : Nat) : Int))]; omega)) (by decide) w_lens ?_
                          refine E_istore (L2 := [some (.ref 34), some (.int (nI a)), some (.int (nI (nuV e n (a + 6)))), some (.int (nI (nuV e n (cnE e n (a + 5) + 1)))), some (.int (nI (nuV e n (cnE e n (cnE e n (a + 5)) + 1))))]) at_X2_readPiece_38 rfl ?_
                          refine E_aload_n at_X2_readPiece_40 rfl ?_
                          refine E_getfield (v := .int (nI (cnE e n (cnE e n (a + 5)) + 1))) at_X2_readPiece_41 w34 rfl (by decide) rfl ?_
                          refine E_iconst (x := (-1)) at_X2_readPiece_44 (by decide) ?_
                          refine E_ic (t := 60) (b := true) at_X2_readPiece_45 rfl ((cn_ne (nI_toInt (by omega)) (by decide : (-1 : Int32).toInt = -1)).trans (decide_eq_true (by omega))) ?_
                          exact E_vret at_X2_readPiece_60 rfl
                        refine E_callV (v := none) (As := [.ref 34, .int (nI a)]) (r0 := []) (cs2 := (ww im lf s d k ls (nI (cnE e n (cnE e n (a + 5)) + 1)) (nI n) (nI (nuE e n (cnE e n (cnE e n (a + 5)) + 1))) (nI (cnE e n (cnE e n (a + 5)) + 1)) q lt m1 m2 m3 m4 bd fc hd sz el t g fm hm so si sh ce ca td wa kp la bf oo bo pw ow tr)) at_X2_readItem_58 rfl rfl (Nat.le_of_ble_eq_true rfl) rfl (ab_rvOf w34 rfl) e2 (by decide) w_lens ?_
                        refine E_goto (t := 110) at_X2_readItem_61 rfl ?_
                        exact E_vret at_X2_readItem_110 rfl
                      · rcases Nat.lt_or_ge (nuV e n (cnE e n (cnE e n (a + 5)) + 1)) (51) with hs2 | hs2
                        · have hz := mtc_n (e := e) (n := n) [112, 105, 101, 99, 101] a ha
                          have hz_ : a + mj0 e n a ≤ n := hz
                          have hb0_ := (chB_t hb0).1
                          have hd0_ := (dgB_t hd0).1
                          have hV0 := nuV_99 hd0
                          have hc0 := cnE_n hd0
                          have hb1_ := (chB_t hb1).1
                          have hd1_ := (dgB_t hd1).1
                          have hV1 := nuV_99 hd1
                          have hc1 := cnE_n hd1
                          have hb2_ := (chB_t hb2).1
                          have hd2_ := (dgB_t hd2).1
                          have hV2 := nuV_99 hd2
                          have hc2 := cnE_n hd2
                          have : (qK q).length = 9 := by first | omega | (simp only [List.length_set]; omega)
                          have : (qA q).length = 9 := by first | omega | (simp only [List.length_set]; omega)
                          have : (qB q).length = 9 := by first | omega | (simp only [List.length_set]; omega)
                          have : (qP q).length = 9 := by first | omega | (simp only [List.length_set]; omega)
                          have hF0 : nuF e n (a + 5) 0 7 = 0 := nuF_C hb0 hd0 (show ¬ (nuV e n (a + 6) < 0 ∨ 7 ≤ nuV e n (a + 6)) from by omega)
                          have hF1 : nuF e n (cnE e n (a + 5)) 0 10 = 0 := nuF_C hb1 hd1 (show ¬ (nuV e n (cnE e n (a + 5) + 1) < 0 ∨ 10 ≤ nuV e n (cnE e n (a + 5) + 1)) from by omega)
                          have hF2 : nuF e n (cnE e n (cnE e n (a + 5))) 1 51 = 0 := nuF_C hb2 hd2 (show ¬ (nuV e n (cnE e n (cnE e n (a + 5)) + 1) < 1 ∨ 51 ≤ nuV e n (cnE e n (cnE e n (a + 5)) + 1)) from by omega)
                          have hI : itF e n q a = 0 := (it_0 (q := q) hw).1.trans (by rw [if_neg (by omega)]; unfold s3F; rw [if_pos hF0]; unfold s2F; rw [if_pos hF1]; exact hF2)
                          have hE : itA e n a = cnE e n (cnE e n (cnE e n (a + 5))) := (it_0 (q := q) hw).2.2
                          refine ⟨(qs_N (qs_P (qs_B (qs_A (qs_K q ((qK q).set (qN q) (nuV e n (a + 6)))) ((qA q).set (qN q) (nuV e n (cnE e n (a + 5) + 1)))) ((qB q).set (qN q) (nuV e n (cnE e n (cnE e n (a + 5)) + 1)))) ((qP q).set (qN q) 99)) ((qN q) + 1)), (-1), (nI (cnE e n (cnE e n (cnE e n (a + 5))))), (nI (cnE e n (cnE e n (a + 5)) + 1)), ?_, Or.inl ⟨hI, (it_0 (q := q) hw).2.1.symm, by rw [hE], rfl, by omega, by omega, (qI_addP Iq (by omega) (by omega) (by omega) (by omega) (by omega)), Nat.le_succ _⟩⟩
                          refine Ef.in (md := mX2_readItem) (L := [some (.ref 34), none, none]) rfl (Nat.le_of_ble_eq_true rfl) rfl ?_
                          refine E_aload_n at_X2_readItem_0 rfl ?_
                          refine E_getfield (v := .int (nI a)) at_X2_readItem_1 w34 rfl (by decide) rfl ?_
                          refine E_istore_n (L2 := [some (.ref 34), some (.int (nI a)), none]) at_X2_readItem_4 rfl ?_
                          refine E_aload_n at_X2_readItem_5 rfl ?_
                          refine E_callV (v := some (.int (nI 0))) (As := [.ref 34]) (r0 := []) (cs2 := (ww im lf s d k ls (-1) (nI n) (nI (a + 5)) rn q lt m1 m2 m3 m4 bd fc hd sz el t g fm hm so si sh ce ca td wa kp la bf oo bo pw ow tr)) at_X2_readItem_6 rfl rfl (Nat.le_of_ble_eq_true rfl) rfl (ab_rvOf w34 rfl) (w_rw0 hn ha l_lt hlt hw) (by decide) w_lens ?_
                          refine E_istore_n (L2 := [some (.ref 34), some (.int (nI a)), some (.int (nI 0))]) at_X2_readItem_9 rfl ?_
                          refine E_aload_n at_X2_readItem_10 rfl ?_
                          refine E_getfield (v := .int (-1)) at_X2_readItem_11 w34 rfl (by decide) rfl ?_
                          refine E_iconst (x := (-1)) at_X2_readItem_14 (by decide) ?_
                          refine E_ic (t := 19) (b := true) at_X2_readItem_15 rfl (by decide) ?_
                          refine E_iload_n at_X2_readItem_19 rfl ?_
                          refine E_tsIn (off := 36) (t := 56) at_X2_readItem_20 (by decide) rfl rfl ?_
                          refine E_aload_n at_X2_readItem_56 rfl ?_
                          refine E_iload_n at_X2_readItem_57 rfl ?_
                          have e4 : Ev ab_Z0 4 16 [.ref 34, .int (nI a)] (ww im lf s d k ls (-1) (nI n) (nI (a + 5)) rn q lt m1 m2 m3 m4 bd fc hd sz el t g fm hm so si sh ce ca td wa kp la bf oo bo pw ow tr) (none, (ww im lf s d k ls (-1) (nI n) (nI (cnE e n (cnE e n (cnE e n (a + 5))))) (nI (cnE e n (cnE e n (a + 5)) + 1)) (qs_N (qs_P (qs_B (qs_A (qs_K q ((qK q).set (qN q) (nuV e n (a + 6)))) ((qA q).set (qN q) (nuV e n (cnE e n (a + 5) + 1)))) ((qB q).set (qN q) (nuV e n (cnE e n (cnE e n (a + 5)) + 1)))) ((qP q).set (qN q) 99)) ((qN q) + 1)) lt m1 m2 m3 m4 bd fc hd sz el t g fm hm so si sh ce ca td wa kp la bf oo bo pw ow tr)) := by
                            refine Ef.in (md := mX2_readPiece) (L := [some (.ref 34), some (.int (nI a)), none, none, none]) rfl (Nat.le_of_ble_eq_true rfl) rfl ?_
                            refine E_aload_n at_X2_readPiece_0 rfl ?_
                            refine E_getfield (v := .ref 35) at_X2_readPiece_1 w34 rfl (by decide) rfl ?_
                            have e1 : Ev ab_Z0 1 52 [.ref 35] (ww im lf s d k ls (-1) (nI n) (nI (a + 5)) rn q lt m1 m2 m3 m4 bd fc hd sz el t g fm hm so si sh ce ca td wa kp la bf oo bo pw ow tr) (some (.int (nI 1)), (ww im lf s d k ls (-1) (nI n) (nI (a + 5)) rn q lt m1 m2 m3 m4 bd fc hd sz el t g fm hm so si sh ce ca td wa kp la bf oo bo pw ow tr)) := by
                              refine Ef.in (md := mX4_hasRoomForPiece) (L := [some (.ref 35)]) rfl (Nat.le_of_ble_eq_true rfl) rfl ?_
                              refine E_aload_n at_X4_hasRoomForPiece_0 rfl ?_
                              refine E_getfield (v := .int (nI (qN q))) at_X4_hasRoomForPiece_1 w35 rfl (by decide) rfl ?_
                              refine E_bipush (x := nI 9) at_X4_hasRoomForPiece_4 (by decide) ?_
                              refine E_ic (t := 13) (b := false) at_X4_hasRoomForPiece_6 rfl ((cn_ge (nI_toInt (by omega)) (nI_toInt (by omega))).trans (decide_eq_false (by omega))) ?_
                              refine E_iconst (x := nI 1) at_X4_hasRoomForPiece_9 (by decide) ?_
                              refine E_goto (t := 14) at_X4_hasRoomForPiece_10 rfl ?_
                              exact E_iret at_X4_hasRoomForPiece_14 rfl
                            refine E_callV (v := some (.int (nI 1))) (As := [.ref 35]) (r0 := []) (cs2 := (ww im lf s d k ls (-1) (nI n) (nI (a + 5)) rn q lt m1 m2 m3 m4 bd fc hd sz el t g fm hm so si sh ce ca td wa kp la bf oo bo pw ow tr)) at_X2_readPiece_4 rfl rfl (Nat.le_of_ble_eq_true rfl) rfl (ab_rvOf w35 rfl) e1 (by decide) rfl ?_
                            refine E_if (t := 15) (b := true) at_X2_readPiece_7 rfl (by decide) ?_
                            refine E_aload_n at_X2_readPiece_15 rfl ?_
                            refine E_iconst (x := nI 0) at_X2_readPiece_16 (by decide) ?_
                            refine E_bipush (x := nI 6) at_X2_readPiece_17 (by decide) ?_
                            refine E_callV (v := some (.int (nI (nuV e n (a + 6))))) (As := [.ref 34, .int (nI 0), .int (nI 6)]) (r0 := []) (cs2 := (ww im lf s d k ls (-1) (nI n) (nI (cnE e n (a + 5))) (nI (a + 6)) q lt m1 m2 m3 m4 bd fc hd sz el t g fm hm so si sh ce ca td wa kp la bf oo bo pw ow tr)) at_X2_readPiece_19 rfl rfl (Nat.le_of_ble_eq_true rfl) rfl (ab_rvOf w34 rfl) (w_nuC (a := a + 5) (hi := nI 6) (by decide) hn (by omega) l_lt hlt hb0 hd0 (show 0 ≤ nuV e n (a + 6) from by omega) (show ((nuV e n (a + 6) : Nat) : Int) ≤ (nI 6).toInt from by rw [(nI_toInt (by omega) : (nI 6).toInt = ((6 : Nat) : Int))]; omega)) (by decide) w_lens ?_
                            refine E_istore_n (L2 := [some (.ref 34), some (.int (nI a)), some (.int (nI (nuV e n (a + 6)))), none, none]) at_X2_readPiece_22 rfl ?_
                            refine E_aload_n at_X2_readPiece_23 rfl ?_
                            refine E_iconst (x := nI 0) at_X2_readPiece_24 (by decide) ?_
                            refine E_bipush (x := nI 9) at_X2_readPiece_25 (by decide) ?_
                            refine E_callV (v := some (.int (nI (nuV e n (cnE e n (a + 5) + 1))))) (As := [.ref 34, .int (nI 0), .int (nI 9)]) (r0 := []) (cs2 := (ww im lf s d k ls (-1) (nI n) (nI (cnE e n (cnE e n (a + 5)))) (nI (cnE e n (a + 5) + 1)) q lt m1 m2 m3 m4 bd fc hd sz el t g fm hm so si sh ce ca td wa kp la bf oo bo pw ow tr)) at_X2_readPiece_27 rfl rfl (Nat.le_of_ble_eq_true rfl) rfl (ab_rvOf w34 rfl) (w_nuC (a := cnE e n (a + 5)) (hi := nI 9) (by decide) hn (by omega) l_lt hlt hb1 hd1 (show 0 ≤ nuV e n (cnE e n (a + 5) + 1) from by omega) (show ((nuV e n (cnE e n (a + 5) + 1) : Nat) : Int) ≤ (nI 9).toInt from by rw [(nI_toInt (by omega) : (nI 9).toInt = ((9 : Nat) : Int))]; omega)) (by decide) w_lens ?_
                            refine E_istore_n (L2 := [some (.ref 34), some (.int (nI a)), some (.int (nI (nuV e n (a + 6)))), some (.int (nI (nuV e n (cnE e n (a + 5) + 1)))), none]) at_X2_readPiece_30 rfl ?_
                            refine E_aload_n at_X2_readPiece_31 rfl ?_
                            refine E_iconst (x := nI 1) at_X2_readPiece_32 (by decide) ?_
                            refine E_bipush (x := nI 50) at_X2_readPiece_33 (by decide) ?_
                            refine E_callV (v := some (.int (nI (nuV e n (cnE e n (cnE e n (a + 5)) + 1))))) (As := [.ref 34, .int (nI 1), .int (nI 50)]) (r0 := []) (cs2 := (ww im lf s d k ls (-1) (nI n) (nI (cnE e n (cnE e n (cnE e n (a + 5))))) (nI (cnE e n (cnE e n (a + 5)) + 1)) q lt m1 m2 m3 m4 bd fc hd sz el t g fm hm so si sh ce ca td wa kp la bf oo bo pw ow tr)) at_X2_readPiece_35 rfl rfl (Nat.le_of_ble_eq_true rfl) rfl (ab_rvOf w34 rfl) (w_nuC (a := cnE e n (cnE e n (a + 5))) (hi := nI 50) (by decide) hn (by omega) l_lt hlt hb2 hd2 (show 1 ≤ nuV e n (cnE e n (cnE e n (a + 5)) + 1) from by omega) (show ((nuV e n (cnE e n (cnE e n (a + 5)) + 1) : Nat) : Int) ≤ (nI 50).toInt from by rw [(nI_toInt (by omega) : (nI 50).toInt = ((50 : Nat) : Int))]; omega)) (by decide) w_lens ?_
                            refine E_istore (L2 := [some (.ref 34), some (.int (nI a)), some (.int (nI (nuV e n (a + 6)))), some (.int (nI (nuV e n (cnE e n (a + 5) + 1)))), some (.int (nI (nuV e n (cnE e n (cnE e n (a + 5)) + 1))))]) at_X2_readPiece_38 rfl ?_
                            refine E_aload_n at_X2_readPiece_40 rfl ?_
                            refine E_getfield (v := .int (-1)) at_X2_readPiece_41 w34 rfl (by decide) rfl ?_
                            refine E_iconst (x := (-1)) at_X2_readPiece_44 (by decide) ?_
                            refine E_ic (t := 60) (b := false) at_X2_readPiece_45 rfl (by decide) ?_
                            refine E_aload_n rfl rfl ?_
                            refine E_getfield (v := .ref 35) rfl w34 rfl (by decide) rfl ?_
                            refine E_iload_n rfl rfl ?_
                            refine E_iload_n rfl rfl ?_
                            refine E_iload rfl rfl ?_
                            have e3 : Ev ab_Z0 2 56 [.ref 35, .int (nI (nuV e n (a + 6))), .int (nI (nuV e n (cnE e n (a + 5) + 1))), .int (nI (nuV e n (cnE e n (cnE e n (a + 5)) + 1)))] (ww im lf s d k ls (-1) (nI n) (nI (cnE e n (cnE e n (cnE e n (a + 5))))) (nI (cnE e n (cnE e n (a + 5)) + 1)) q lt m1 m2 m3 m4 bd fc hd sz el t g fm hm so si sh ce ca td wa kp la bf oo bo pw ow tr) (some (.int (nI (qN q))), (ww im lf s d k ls (-1) (nI n) (nI (cnE e n (cnE e n (cnE e n (a + 5))))) (nI (cnE e n (cnE e n (a + 5)) + 1)) (qs_N (qs_P (qs_B (qs_A (qs_K q ((qK q).set (qN q) (nuV e n (a + 6)))) ((qA q).set (qN q) (nuV e n (cnE e n (a + 5) + 1)))) ((qB q).set (qN q) (nuV e n (cnE e n (cnE e n (a + 5)) + 1)))) ((qP q).set (qN q) 99)) ((qN q) + 1)) lt m1 m2 m3 m4 bd fc hd sz el t g fm hm so si sh ce ca td wa kp la bf oo bo pw ow tr)) := by
                              refine Ef.in (md := mX4_addPiece) (L := [some (.ref 35), some (.int (nI (nuV e n (a + 6)))), some (.int (nI (nuV e n (cnE e n (a + 5) + 1)))), some (.int (nI (nuV e n (cnE e n (cnE e n (a + 5)) + 1)))), none]) rfl (Nat.le_of_ble_eq_true rfl) rfl ?_
                              refine E_aload_n rfl rfl ?_
                              have e2 : Ev ab_Z0 1 52 [.ref 35] (ww im lf s d k ls (-1) (nI n) (nI (cnE e n (cnE e n (cnE e n (a + 5))))) (nI (cnE e n (cnE e n (a + 5)) + 1)) q lt m1 m2 m3 m4 bd fc hd sz el t g fm hm so si sh ce ca td wa kp la bf oo bo pw ow tr) (some (.int (nI 1)), (ww im lf s d k ls (-1) (nI n) (nI (cnE e n (cnE e n (cnE e n (a + 5))))) (nI (cnE e n (cnE e n (a + 5)) + 1)) q lt m1 m2 m3 m4 bd fc hd sz el t g fm hm so si sh ce ca td wa kp la bf oo bo pw ow tr)) := by
                                refine Ef.in (md := mX4_hasRoomForPiece) (L := [some (.ref 35)]) rfl (Nat.le_of_ble_eq_true rfl) rfl ?_
                                refine E_aload_n at_X4_hasRoomForPiece_0 rfl ?_
                                refine E_getfield (v := .int (nI (qN q))) at_X4_hasRoomForPiece_1 w35 rfl (by decide) rfl ?_
                                refine E_bipush (x := nI 9) at_X4_hasRoomForPiece_4 (by decide) ?_
                                refine E_ic (t := 13) (b := false) at_X4_hasRoomForPiece_6 rfl ((cn_ge (nI_toInt (by omega)) (nI_toInt (by omega))).trans (decide_eq_false (by omega))) ?_
                                refine E_iconst (x := nI 1) at_X4_hasRoomForPiece_9 (by decide) ?_
                                refine E_goto (t := 14) at_X4_hasRoomForPiece_10 rfl ?_
                                exact E_iret at_X4_hasRoomForPiece_14 rfl
                              refine E_callV (v := some (.int (nI 1))) (As := [.ref 35]) (r0 := []) (cs2 := (ww im lf s d k ls (-1) (nI n) (nI (cnE e n (cnE e n (cnE e n (a + 5))))) (nI (cnE e n (cnE e n (a + 5)) + 1)) q lt m1 m2 m3 m4 bd fc hd sz el t g fm hm so si sh ce ca td wa kp la bf oo bo pw ow tr)) rfl rfl rfl (Nat.le_of_ble_eq_true rfl) rfl (ab_rvOf w35 rfl) e2 (by decide) rfl ?_
                              refine E_if (t := 9) (b := true) rfl rfl (by decide) ?_
                              refine E_aload_n rfl rfl ?_
                              refine E_getfield (v := .int (nI (qN q))) rfl w35 rfl (by decide) rfl ?_
                              refine E_istore (L2 := [some (.ref 35), some (.int (nI (nuV e n (a + 6)))), some (.int (nI (nuV e n (cnE e n (a + 5) + 1)))), some (.int (nI (nuV e n (cnE e n (cnE e n (a + 5)) + 1)))), some (.int (nI (qN q)))]) rfl rfl ?_
                              refine E_aload_n rfl rfl ?_
                              refine E_getfield (v := .ref 36) rfl w35 rfl (by decide) rfl ?_
                              refine E_iload rfl rfl ?_
                              refine E_iload_n rfl rfl ?_
                              refine E_iasN (l := qK q) (cs2 := (ww im lf s d k ls (-1) (nI n) (nI (cnE e n (cnE e n (cnE e n (a + 5))))) (nI (cnE e n (cnE e n (a + 5)) + 1)) (qs_K q ((qK q).set (qN q) (nuV e n (a + 6)))) lt m1 m2 m3 m4 bd fc hd sz el t g fm hm so si sh ce ca td wa kp la bf oo bo pw ow tr)) rfl w36 (by omega) (by omega) w_pt35_K ?_
                              refine E_aload_n rfl rfl ?_
                              refine E_getfield (v := .ref 37) rfl w35 rfl (by decide) rfl ?_
                              refine E_iload rfl rfl ?_
                              refine E_iload_n rfl rfl ?_
                              refine E_iasN (l := qA q) (cs2 := (ww im lf s d k ls (-1) (nI n) (nI (cnE e n (cnE e n (cnE e n (a + 5))))) (nI (cnE e n (cnE e n (a + 5)) + 1)) (qs_A (qs_K q ((qK q).set (qN q) (nuV e n (a + 6)))) ((qA q).set (qN q) (nuV e n (cnE e n (a + 5) + 1)))) lt m1 m2 m3 m4 bd fc hd sz el t g fm hm so si sh ce ca td wa kp la bf oo bo pw ow tr)) rfl (w37v qg_AK) (by omega) (by omega) w_pt35_A ?_
                              refine E_aload_n rfl rfl ?_
                              refine E_getfield (v := .ref 38) rfl w35 rfl (by decide) rfl ?_
                              refine E_iload rfl rfl ?_
                              refine E_iload_n rfl rfl ?_
                              refine E_iasN (l := qB q) (cs2 := (ww im lf s d k ls (-1) (nI n) (nI (cnE e n (cnE e n (cnE e n (a + 5))))) (nI (cnE e n (cnE e n (a + 5)) + 1)) (qs_B (qs_A (qs_K q ((qK q).set (qN q) (nuV e n (a + 6)))) ((qA q).set (qN q) (nuV e n (cnE e n (a + 5) + 1)))) ((qB q).set (qN q) (nuV e n (cnE e n (cnE e n (a + 5)) + 1)))) lt m1 m2 m3 m4 bd fc hd sz el t g fm hm so si sh ce ca td wa kp la bf oo bo pw ow tr)) rfl (w38v (qg_BA.trans qg_BK)) (by omega) (by omega) w_pt35_B ?_
                              refine E_aload_n rfl rfl ?_
                              refine E_getfield (v := .ref 39) rfl w35 rfl (by decide) rfl ?_
                              refine E_iload rfl rfl ?_
                              refine E_bipush (x := nI 99) rfl (by decide) ?_
                              refine E_iasN (l := qP q) (cs2 := (ww im lf s d k ls (-1) (nI n) (nI (cnE e n (cnE e n (cnE e n (a + 5))))) (nI (cnE e n (cnE e n (a + 5)) + 1)) (qs_P (qs_B (qs_A (qs_K q ((qK q).set (qN q) (nuV e n (a + 6)))) ((qA q).set (qN q) (nuV e n (cnE e n (a + 5) + 1)))) ((qB q).set (qN q) (nuV e n (cnE e n (cnE e n (a + 5)) + 1)))) ((qP q).set (qN q) 99)) lt m1 m2 m3 m4 bd fc hd sz el t g fm hm so si sh ce ca td wa kp la bf oo bo pw ow tr)) rfl (w39v (qg_PB.trans (qg_PA.trans qg_PK))) (by omega) (by omega) w_pt35_P ?_
                              refine E_aload_n rfl rfl ?_
                              refine E_dup rfl rfl ?_
                              refine E_getfield (v := .int (nI (qN q))) rfl w35 rfl (by decide) (congrArg (fun z => some (Value.int (nI z))) (qg_NP.trans (qg_NB.trans (qg_NA.trans qg_NK)))) ?_
                              refine E_iconst (x := nI 1) rfl (by decide) ?_
                              refine E_iadd (z := nI ((qN q) + 1)) rfl (nI_add _ _) ?_
                              refine E_putfield (cs2 := (ww im lf s d k ls (-1) (nI n) (nI (cnE e n (cnE e n (cnE e n (a + 5))))) (nI (cnE e n (cnE e n (a + 5)) + 1)) (qs_N (qs_P (qs_B (qs_A (qs_K q ((qK q).set (qN q) (nuV e n (a + 6)))) ((qA q).set (qN q) (nuV e n (cnE e n (a + 5) + 1)))) ((qB q).set (qN q) (nuV e n (cnE e n (cnE e n (a + 5)) + 1)))) ((qP q).set (qN q) 99)) ((qN q) + 1)) lt m1 m2 m3 m4 bd fc hd sz el t g fm hm so si sh ce ca td wa kp la bf oo bo pw ow tr)) rfl w35 rfl (by decide) (Nat.le_of_ble_eq_true rfl) rfl rfl rfl w_pt35_N ?_
                              refine E_iload rfl rfl ?_
                              exact E_iret rfl rfl
                            refine E_callV (v := some (.int (nI (qN q)))) (As := [.ref 35, .int (nI (nuV e n (a + 6))), .int (nI (nuV e n (cnE e n (a + 5) + 1))), .int (nI (nuV e n (cnE e n (cnE e n (a + 5)) + 1)))]) (r0 := []) (cs2 := (ww im lf s d k ls (-1) (nI n) (nI (cnE e n (cnE e n (cnE e n (a + 5))))) (nI (cnE e n (cnE e n (a + 5)) + 1)) (qs_N (qs_P (qs_B (qs_A (qs_K q ((qK q).set (qN q) (nuV e n (a + 6)))) ((qA q).set (qN q) (nuV e n (cnE e n (a + 5) + 1)))) ((qB q).set (qN q) (nuV e n (cnE e n (cnE e n (a + 5)) + 1)))) ((qP q).set (qN q) 99)) ((qN q) + 1)) lt m1 m2 m3 m4 bd fc hd sz el t g fm hm so si sh ce ca td wa kp la bf oo bo pw ow tr)) rfl rfl rfl (Nat.le_of_ble_eq_true rfl) rfl (ab_rvOf w35 rfl) e3 (by decide) w_lens ?_
                            refine E_pop rfl rfl ?_
                            exact E_vret at_X2_readPiece_60 rfl
                          refine E_callV (v := none) (As := [.ref 34, .int (nI a)]) (r0 := []) (cs2 := (ww im lf s d k ls (-1) (nI n) (nI (cnE e n (cnE e n (cnE e n (a + 5))))) (nI (cnE e n (cnE e n (a + 5)) + 1)) (qs_N (qs_P (qs_B (qs_A (qs_K q ((qK q).set (qN q) (nuV e n (a + 6)))) ((qA q).set (qN q) (nuV e n (cnE e n (a + 5) + 1)))) ((qB q).set (qN q) (nuV e n (cnE e n (cnE e n (a + 5)) + 1)))) ((qP q).set (qN q) 99)) ((qN q) + 1)) lt m1 m2 m3 m4 bd fc hd sz el t g fm hm so si sh ce ca td wa kp la bf oo bo pw ow tr)) at_X2_readItem_58 rfl rfl (Nat.le_of_ble_eq_true rfl) rfl (ab_rvOf w34 rfl) e4 (by decide) w_lens ?_
                          refine E_goto (t := 110) at_X2_readItem_61 rfl ?_
                          exact E_vret at_X2_readItem_110 rfl
                        · have hz := mtc_n (e := e) (n := n) [112, 105, 101, 99, 101] a ha
                          have hz_ : a + mj0 e n a ≤ n := hz
                          have hb0_ := (chB_t hb0).1
                          have hd0_ := (dgB_t hd0).1
                          have hV0 := nuV_99 hd0
                          have hc0 := cnE_n hd0
                          have hb1_ := (chB_t hb1).1
                          have hd1_ := (dgB_t hd1).1
                          have hV1 := nuV_99 hd1
                          have hc1 := cnE_n hd1
                          have hb2_ := (chB_t hb2).1
                          have hd2_ := (dgB_t hd2).1
                          have hV2 := nuV_99 hd2
                          have hF0 : nuF e n (a + 5) 0 7 = 0 := nuF_C hb0 hd0 (show ¬ (nuV e n (a + 6) < 0 ∨ 7 ≤ nuV e n (a + 6)) from by omega)
                          have hF1 : nuF e n (cnE e n (a + 5)) 0 10 = 0 := nuF_C hb1 hd1 (show ¬ (nuV e n (cnE e n (a + 5) + 1) < 0 ∨ 10 ≤ nuV e n (cnE e n (a + 5) + 1)) from by omega)
                          have hF2 : nuF e n (cnE e n (cnE e n (a + 5))) 1 51 = cnE e n (cnE e n (a + 5)) + 2 := nuF_D hb2 hd2 (show nuV e n (cnE e n (cnE e n (a + 5)) + 1) < 1 ∨ 51 ≤ nuV e n (cnE e n (cnE e n (a + 5)) + 1) from by omega)
                          have hI : itF e n q a = cnE e n (cnE e n (a + 5)) + 2 := (it_0 (q := q) hw).1.trans (by rw [if_neg (by omega)]; unfold s3F; rw [if_pos hF0]; unfold s2F; rw [if_pos hF1]; exact hF2)
                          refine ⟨q, (nI (cnE e n (cnE e n (a + 5)) + 1)), (nI (nuE e n (cnE e n (cnE e n (a + 5)) + 1))), (nI (cnE e n (cnE e n (a + 5)) + 1)), ?_, Or.inr ⟨cnE e n (cnE e n (a + 5)) + 1, by omega, rfl, by omega, rfl⟩⟩
                          refine Ef.in (md := mX2_readItem) (L := [some (.ref 34), none, none]) rfl (Nat.le_of_ble_eq_true rfl) rfl ?_
                          refine E_aload_n at_X2_readItem_0 rfl ?_
                          refine E_getfield (v := .int (nI a)) at_X2_readItem_1 w34 rfl (by decide) rfl ?_
                          refine E_istore_n (L2 := [some (.ref 34), some (.int (nI a)), none]) at_X2_readItem_4 rfl ?_
                          refine E_aload_n at_X2_readItem_5 rfl ?_
                          refine E_callV (v := some (.int (nI 0))) (As := [.ref 34]) (r0 := []) (cs2 := (ww im lf s d k ls (-1) (nI n) (nI (a + 5)) rn q lt m1 m2 m3 m4 bd fc hd sz el t g fm hm so si sh ce ca td wa kp la bf oo bo pw ow tr)) at_X2_readItem_6 rfl rfl (Nat.le_of_ble_eq_true rfl) rfl (ab_rvOf w34 rfl) (w_rw0 hn ha l_lt hlt hw) (by decide) w_lens ?_
                          refine E_istore_n (L2 := [some (.ref 34), some (.int (nI a)), some (.int (nI 0))]) at_X2_readItem_9 rfl ?_
                          refine E_aload_n at_X2_readItem_10 rfl ?_
                          refine E_getfield (v := .int (-1)) at_X2_readItem_11 w34 rfl (by decide) rfl ?_
                          refine E_iconst (x := (-1)) at_X2_readItem_14 (by decide) ?_
                          refine E_ic (t := 19) (b := true) at_X2_readItem_15 rfl (by decide) ?_
                          refine E_iload_n at_X2_readItem_19 rfl ?_
                          refine E_tsIn (off := 36) (t := 56) at_X2_readItem_20 (by decide) rfl rfl ?_
                          refine E_aload_n at_X2_readItem_56 rfl ?_
                          refine E_iload_n at_X2_readItem_57 rfl ?_
                          have e2 : Ev ab_Z0 4 16 [.ref 34, .int (nI a)] (ww im lf s d k ls (-1) (nI n) (nI (a + 5)) rn q lt m1 m2 m3 m4 bd fc hd sz el t g fm hm so si sh ce ca td wa kp la bf oo bo pw ow tr) (none, (ww im lf s d k ls (nI (cnE e n (cnE e n (a + 5)) + 1)) (nI n) (nI (nuE e n (cnE e n (cnE e n (a + 5)) + 1))) (nI (cnE e n (cnE e n (a + 5)) + 1)) q lt m1 m2 m3 m4 bd fc hd sz el t g fm hm so si sh ce ca td wa kp la bf oo bo pw ow tr)) := by
                            refine Ef.in (md := mX2_readPiece) (L := [some (.ref 34), some (.int (nI a)), none, none, none]) rfl (Nat.le_of_ble_eq_true rfl) rfl ?_
                            refine E_aload_n at_X2_readPiece_0 rfl ?_
                            refine E_getfield (v := .ref 35) at_X2_readPiece_1 w34 rfl (by decide) rfl ?_
                            have e1 : Ev ab_Z0 1 52 [.ref 35] (ww im lf s d k ls (-1) (nI n) (nI (a + 5)) rn q lt m1 m2 m3 m4 bd fc hd sz el t g fm hm so si sh ce ca td wa kp la bf oo bo pw ow tr) (some (.int (nI 1)), (ww im lf s d k ls (-1) (nI n) (nI (a + 5)) rn q lt m1 m2 m3 m4 bd fc hd sz el t g fm hm so si sh ce ca td wa kp la bf oo bo pw ow tr)) := by
                              refine Ef.in (md := mX4_hasRoomForPiece) (L := [some (.ref 35)]) rfl (Nat.le_of_ble_eq_true rfl) rfl ?_
                              refine E_aload_n at_X4_hasRoomForPiece_0 rfl ?_
                              refine E_getfield (v := .int (nI (qN q))) at_X4_hasRoomForPiece_1 w35 rfl (by decide) rfl ?_
                              refine E_bipush (x := nI 9) at_X4_hasRoomForPiece_4 (by decide) ?_
                              refine E_ic (t := 13) (b := false) at_X4_hasRoomForPiece_6 rfl ((cn_ge (nI_toInt (by omega)) (nI_toInt (by omega))).trans (decide_eq_false (by omega))) ?_
                              refine E_iconst (x := nI 1) at_X4_hasRoomForPiece_9 (by decide) ?_
                              refine E_goto (t := 14) at_X4_hasRoomForPiece_10 rfl ?_
                              exact E_iret at_X4_hasRoomForPiece_14 rfl
                            refine E_callV (v := some (.int (nI 1))) (As := [.ref 35]) (r0 := []) (cs2 := (ww im lf s d k ls (-1) (nI n) (nI (a + 5)) rn q lt m1 m2 m3 m4 bd fc hd sz el t g fm hm so si sh ce ca td wa kp la bf oo bo pw ow tr)) at_X2_readPiece_4 rfl rfl (Nat.le_of_ble_eq_true rfl) rfl (ab_rvOf w35 rfl) e1 (by decide) rfl ?_
                            refine E_if (t := 15) (b := true) at_X2_readPiece_7 rfl (by decide) ?_
                            refine E_aload_n at_X2_readPiece_15 rfl ?_
                            refine E_iconst (x := nI 0) at_X2_readPiece_16 (by decide) ?_
                            refine E_bipush (x := nI 6) at_X2_readPiece_17 (by decide) ?_
                            refine E_callV (v := some (.int (nI (nuV e n (a + 6))))) (As := [.ref 34, .int (nI 0), .int (nI 6)]) (r0 := []) (cs2 := (ww im lf s d k ls (-1) (nI n) (nI (cnE e n (a + 5))) (nI (a + 6)) q lt m1 m2 m3 m4 bd fc hd sz el t g fm hm so si sh ce ca td wa kp la bf oo bo pw ow tr)) at_X2_readPiece_19 rfl rfl (Nat.le_of_ble_eq_true rfl) rfl (ab_rvOf w34 rfl) (w_nuC (a := a + 5) (hi := nI 6) (by decide) hn (by omega) l_lt hlt hb0 hd0 (show 0 ≤ nuV e n (a + 6) from by omega) (show ((nuV e n (a + 6) : Nat) : Int) ≤ (nI 6).toInt from by rw [(nI_toInt (by omega) : (nI 6).toInt = ((6 : Nat) : Int))]; omega)) (by decide) w_lens ?_
                            refine E_istore_n (L2 := [some (.ref 34), some (.int (nI a)), some (.int (nI (nuV e n (a + 6)))), none, none]) at_X2_readPiece_22 rfl ?_
                            refine E_aload_n at_X2_readPiece_23 rfl ?_
                            refine E_iconst (x := nI 0) at_X2_readPiece_24 (by decide) ?_
                            refine E_bipush (x := nI 9) at_X2_readPiece_25 (by decide) ?_
                            refine E_callV (v := some (.int (nI (nuV e n (cnE e n (a + 5) + 1))))) (As := [.ref 34, .int (nI 0), .int (nI 9)]) (r0 := []) (cs2 := (ww im lf s d k ls (-1) (nI n) (nI (cnE e n (cnE e n (a + 5)))) (nI (cnE e n (a + 5) + 1)) q lt m1 m2 m3 m4 bd fc hd sz el t g fm hm so si sh ce ca td wa kp la bf oo bo pw ow tr)) at_X2_readPiece_27 rfl rfl (Nat.le_of_ble_eq_true rfl) rfl (ab_rvOf w34 rfl) (w_nuC (a := cnE e n (a + 5)) (hi := nI 9) (by decide) hn (by omega) l_lt hlt hb1 hd1 (show 0 ≤ nuV e n (cnE e n (a + 5) + 1) from by omega) (show ((nuV e n (cnE e n (a + 5) + 1) : Nat) : Int) ≤ (nI 9).toInt from by rw [(nI_toInt (by omega) : (nI 9).toInt = ((9 : Nat) : Int))]; omega)) (by decide) w_lens ?_
                            refine E_istore_n (L2 := [some (.ref 34), some (.int (nI a)), some (.int (nI (nuV e n (a + 6)))), some (.int (nI (nuV e n (cnE e n (a + 5) + 1)))), none]) at_X2_readPiece_30 rfl ?_
                            refine E_aload_n at_X2_readPiece_31 rfl ?_
                            refine E_iconst (x := nI 1) at_X2_readPiece_32 (by decide) ?_
                            refine E_bipush (x := nI 50) at_X2_readPiece_33 (by decide) ?_
                            refine E_callV (v := some (.int (nI (nuV e n (cnE e n (cnE e n (a + 5)) + 1))))) (As := [.ref 34, .int (nI 1), .int (nI 50)]) (r0 := []) (cs2 := (ww im lf s d k ls (nI (cnE e n (cnE e n (a + 5)) + 1)) (nI n) (nI (nuE e n (cnE e n (cnE e n (a + 5)) + 1))) (nI (cnE e n (cnE e n (a + 5)) + 1)) q lt m1 m2 m3 m4 bd fc hd sz el t g fm hm so si sh ce ca td wa kp la bf oo bo pw ow tr)) at_X2_readPiece_35 rfl rfl (Nat.le_of_ble_eq_true rfl) rfl (ab_rvOf w34 rfl) (w_nuD (a := cnE e n (cnE e n (a + 5))) (hi := nI 50) (by decide) hn (by omega) l_lt hlt hb2 hd2 (show nuV e n (cnE e n (cnE e n (a + 5)) + 1) < 1 ∨ (nI 50).toInt < ((nuV e n (cnE e n (cnE e n (a + 5)) + 1) : Nat) : Int) from by rw [(nI_toInt (by omega) : (nI 50).toInt = ((50 : Nat) : Int))]; omega)) (by decide) w_lens ?_
                            refine E_istore (L2 := [some (.ref 34), some (.int (nI a)), some (.int (nI (nuV e n (a + 6)))), some (.int (nI (nuV e n (cnE e n (a + 5) + 1)))), some (.int (nI (nuV e n (cnE e n (cnE e n (a + 5)) + 1))))]) at_X2_readPiece_38 rfl ?_
                            refine E_aload_n at_X2_readPiece_40 rfl ?_
                            refine E_getfield (v := .int (nI (cnE e n (cnE e n (a + 5)) + 1))) at_X2_readPiece_41 w34 rfl (by decide) rfl ?_
                            refine E_iconst (x := (-1)) at_X2_readPiece_44 (by decide) ?_
                            refine E_ic (t := 60) (b := true) at_X2_readPiece_45 rfl ((cn_ne (nI_toInt (by omega)) (by decide : (-1 : Int32).toInt = -1)).trans (decide_eq_true (by omega))) ?_
                            exact E_vret at_X2_readPiece_60 rfl
                          refine E_callV (v := none) (As := [.ref 34, .int (nI a)]) (r0 := []) (cs2 := (ww im lf s d k ls (nI (cnE e n (cnE e n (a + 5)) + 1)) (nI n) (nI (nuE e n (cnE e n (cnE e n (a + 5)) + 1))) (nI (cnE e n (cnE e n (a + 5)) + 1)) q lt m1 m2 m3 m4 bd fc hd sz el t g fm hm so si sh ce ca td wa kp la bf oo bo pw ow tr)) at_X2_readItem_58 rfl rfl (Nat.le_of_ble_eq_true rfl) rfl (ab_rvOf w34 rfl) e2 (by decide) w_lens ?_
                          refine E_goto (t := 110) at_X2_readItem_61 rfl ?_
                          exact E_vret at_X2_readItem_110 rfl
                · have hz := mtc_n (e := e) (n := n) [112, 105, 101, 99, 101] a ha
                  have hz_ : a + mj0 e n a ≤ n := hz
                  have hb0_ := (chB_t hb0).1
                  have hd0_ := (dgB_t hd0).1
                  have hV0 := nuV_99 hd0
                  have hc0 := cnE_n hd0
                  have hb1_ := (chB_t hb1).1
                  have hd1_ := (dgB_t hd1).1
                  have hV1 := nuV_99 hd1
                  have hF0 : nuF e n (a + 5) 0 7 = 0 := nuF_C hb0 hd0 (show ¬ (nuV e n (a + 6) < 0 ∨ 7 ≤ nuV e n (a + 6)) from by omega)
                  have hF1 : nuF e n (cnE e n (a + 5)) 0 10 = cnE e n (a + 5) + 2 := nuF_D hb1 hd1 (show nuV e n (cnE e n (a + 5) + 1) < 0 ∨ 10 ≤ nuV e n (cnE e n (a + 5) + 1) from by omega)
                  have hI : itF e n q a = cnE e n (a + 5) + 2 := (it_0 (q := q) hw).1.trans (by rw [if_neg (by omega)]; unfold s3F; rw [if_pos hF0]; unfold s2F; rw [if_neg (by omega)]; exact hF1)
                  refine ⟨q, (nI (cnE e n (a + 5) + 1)), (nI (nuE e n (cnE e n (a + 5) + 1))), (nI (cnE e n (a + 5) + 1)), ?_, Or.inr ⟨cnE e n (a + 5) + 1, by omega, rfl, by omega, rfl⟩⟩
                  refine Ef.in (md := mX2_readItem) (L := [some (.ref 34), none, none]) rfl (Nat.le_of_ble_eq_true rfl) rfl ?_
                  refine E_aload_n at_X2_readItem_0 rfl ?_
                  refine E_getfield (v := .int (nI a)) at_X2_readItem_1 w34 rfl (by decide) rfl ?_
                  refine E_istore_n (L2 := [some (.ref 34), some (.int (nI a)), none]) at_X2_readItem_4 rfl ?_
                  refine E_aload_n at_X2_readItem_5 rfl ?_
                  refine E_callV (v := some (.int (nI 0))) (As := [.ref 34]) (r0 := []) (cs2 := (ww im lf s d k ls (-1) (nI n) (nI (a + 5)) rn q lt m1 m2 m3 m4 bd fc hd sz el t g fm hm so si sh ce ca td wa kp la bf oo bo pw ow tr)) at_X2_readItem_6 rfl rfl (Nat.le_of_ble_eq_true rfl) rfl (ab_rvOf w34 rfl) (w_rw0 hn ha l_lt hlt hw) (by decide) w_lens ?_
                  refine E_istore_n (L2 := [some (.ref 34), some (.int (nI a)), some (.int (nI 0))]) at_X2_readItem_9 rfl ?_
                  refine E_aload_n at_X2_readItem_10 rfl ?_
                  refine E_getfield (v := .int (-1)) at_X2_readItem_11 w34 rfl (by decide) rfl ?_
                  refine E_iconst (x := (-1)) at_X2_readItem_14 (by decide) ?_
                  refine E_ic (t := 19) (b := true) at_X2_readItem_15 rfl (by decide) ?_
                  refine E_iload_n at_X2_readItem_19 rfl ?_
                  refine E_tsIn (off := 36) (t := 56) at_X2_readItem_20 (by decide) rfl rfl ?_
                  refine E_aload_n at_X2_readItem_56 rfl ?_
                  refine E_iload_n at_X2_readItem_57 rfl ?_
                  have e2 : Ev ab_Z0 4 16 [.ref 34, .int (nI a)] (ww im lf s d k ls (-1) (nI n) (nI (a + 5)) rn q lt m1 m2 m3 m4 bd fc hd sz el t g fm hm so si sh ce ca td wa kp la bf oo bo pw ow tr) (none, (ww im lf s d k ls (nI (cnE e n (a + 5) + 1)) (nI n) (nI (nuE e n (cnE e n (a + 5) + 1))) (nI (cnE e n (a + 5) + 1)) q lt m1 m2 m3 m4 bd fc hd sz el t g fm hm so si sh ce ca td wa kp la bf oo bo pw ow tr)) := by
                    refine Ef.in (md := mX2_readPiece) (L := [some (.ref 34), some (.int (nI a)), none, none, none]) rfl (Nat.le_of_ble_eq_true rfl) rfl ?_
                    refine E_aload_n at_X2_readPiece_0 rfl ?_
                    refine E_getfield (v := .ref 35) at_X2_readPiece_1 w34 rfl (by decide) rfl ?_
                    have e1 : Ev ab_Z0 1 52 [.ref 35] (ww im lf s d k ls (-1) (nI n) (nI (a + 5)) rn q lt m1 m2 m3 m4 bd fc hd sz el t g fm hm so si sh ce ca td wa kp la bf oo bo pw ow tr) (some (.int (nI 1)), (ww im lf s d k ls (-1) (nI n) (nI (a + 5)) rn q lt m1 m2 m3 m4 bd fc hd sz el t g fm hm so si sh ce ca td wa kp la bf oo bo pw ow tr)) := by
                      refine Ef.in (md := mX4_hasRoomForPiece) (L := [some (.ref 35)]) rfl (Nat.le_of_ble_eq_true rfl) rfl ?_
                      refine E_aload_n at_X4_hasRoomForPiece_0 rfl ?_
                      refine E_getfield (v := .int (nI (qN q))) at_X4_hasRoomForPiece_1 w35 rfl (by decide) rfl ?_
                      refine E_bipush (x := nI 9) at_X4_hasRoomForPiece_4 (by decide) ?_
                      refine E_ic (t := 13) (b := false) at_X4_hasRoomForPiece_6 rfl ((cn_ge (nI_toInt (by omega)) (nI_toInt (by omega))).trans (decide_eq_false (by omega))) ?_
                      refine E_iconst (x := nI 1) at_X4_hasRoomForPiece_9 (by decide) ?_
                      refine E_goto (t := 14) at_X4_hasRoomForPiece_10 rfl ?_
                      exact E_iret at_X4_hasRoomForPiece_14 rfl
                    refine E_callV (v := some (.int (nI 1))) (As := [.ref 35]) (r0 := []) (cs2 := (ww im lf s d k ls (-1) (nI n) (nI (a + 5)) rn q lt m1 m2 m3 m4 bd fc hd sz el t g fm hm so si sh ce ca td wa kp la bf oo bo pw ow tr)) at_X2_readPiece_4 rfl rfl (Nat.le_of_ble_eq_true rfl) rfl (ab_rvOf w35 rfl) e1 (by decide) rfl ?_
                    refine E_if (t := 15) (b := true) at_X2_readPiece_7 rfl (by decide) ?_
                    refine E_aload_n at_X2_readPiece_15 rfl ?_
                    refine E_iconst (x := nI 0) at_X2_readPiece_16 (by decide) ?_
                    refine E_bipush (x := nI 6) at_X2_readPiece_17 (by decide) ?_
                    refine E_callV (v := some (.int (nI (nuV e n (a + 6))))) (As := [.ref 34, .int (nI 0), .int (nI 6)]) (r0 := []) (cs2 := (ww im lf s d k ls (-1) (nI n) (nI (cnE e n (a + 5))) (nI (a + 6)) q lt m1 m2 m3 m4 bd fc hd sz el t g fm hm so si sh ce ca td wa kp la bf oo bo pw ow tr)) at_X2_readPiece_19 rfl rfl (Nat.le_of_ble_eq_true rfl) rfl (ab_rvOf w34 rfl) (w_nuC (a := a + 5) (hi := nI 6) (by decide) hn (by omega) l_lt hlt hb0 hd0 (show 0 ≤ nuV e n (a + 6) from by omega) (show ((nuV e n (a + 6) : Nat) : Int) ≤ (nI 6).toInt from by rw [(nI_toInt (by omega) : (nI 6).toInt = ((6 : Nat) : Int))]; omega)) (by decide) w_lens ?_
                    refine E_istore_n (L2 := [some (.ref 34), some (.int (nI a)), some (.int (nI (nuV e n (a + 6)))), none, none]) at_X2_readPiece_22 rfl ?_
                    refine E_aload_n at_X2_readPiece_23 rfl ?_
                    refine E_iconst (x := nI 0) at_X2_readPiece_24 (by decide) ?_
                    refine E_bipush (x := nI 9) at_X2_readPiece_25 (by decide) ?_
                    refine E_callV (v := some (.int (nI (nuV e n (cnE e n (a + 5) + 1))))) (As := [.ref 34, .int (nI 0), .int (nI 9)]) (r0 := []) (cs2 := (ww im lf s d k ls (nI (cnE e n (a + 5) + 1)) (nI n) (nI (nuE e n (cnE e n (a + 5) + 1))) (nI (cnE e n (a + 5) + 1)) q lt m1 m2 m3 m4 bd fc hd sz el t g fm hm so si sh ce ca td wa kp la bf oo bo pw ow tr)) at_X2_readPiece_27 rfl rfl (Nat.le_of_ble_eq_true rfl) rfl (ab_rvOf w34 rfl) (w_nuD (a := cnE e n (a + 5)) (hi := nI 9) (by decide) hn (by omega) l_lt hlt hb1 hd1 (show nuV e n (cnE e n (a + 5) + 1) < 0 ∨ (nI 9).toInt < ((nuV e n (cnE e n (a + 5) + 1) : Nat) : Int) from by rw [(nI_toInt (by omega) : (nI 9).toInt = ((9 : Nat) : Int))]; omega)) (by decide) w_lens ?_
                    refine E_istore_n (L2 := [some (.ref 34), some (.int (nI a)), some (.int (nI (nuV e n (a + 6)))), some (.int (nI (nuV e n (cnE e n (a + 5) + 1)))), none]) at_X2_readPiece_30 rfl ?_
                    refine E_aload_n at_X2_readPiece_31 rfl ?_
                    refine E_iconst (x := nI 1) at_X2_readPiece_32 (by decide) ?_
                    refine E_bipush (x := nI 50) at_X2_readPiece_33 (by decide) ?_
                    refine E_callV (v := some (.int (nI 0))) (As := [.ref 34, .int (nI 1), .int (nI 50)]) (r0 := []) (cs2 := (ww im lf s d k ls (nI (cnE e n (a + 5) + 1)) (nI n) (nI (nuE e n (cnE e n (a + 5) + 1))) (nI (cnE e n (a + 5) + 1)) q lt m1 m2 m3 m4 bd fc hd sz el t g fm hm so si sh ce ca td wa kp la bf oo bo pw ow tr)) at_X2_readPiece_35 rfl rfl (Nat.le_of_ble_eq_true rfl) rfl (ab_rvOf w34 rfl) (w_nux (f := cnE e n (a + 5) + 1) (by omega)) (by decide) rfl ?_
                    refine E_istore (L2 := [some (.ref 34), some (.int (nI a)), some (.int (nI (nuV e n (a + 6)))), some (.int (nI (nuV e n (cnE e n (a + 5) + 1)))), some (.int (nI 0))]) at_X2_readPiece_38 rfl ?_
                    refine E_aload_n at_X2_readPiece_40 rfl ?_
                    refine E_getfield (v := .int (nI (cnE e n (a + 5) + 1))) at_X2_readPiece_41 w34 rfl (by decide) rfl ?_
                    refine E_iconst (x := (-1)) at_X2_readPiece_44 (by decide) ?_
                    refine E_ic (t := 60) (b := true) at_X2_readPiece_45 rfl ((cn_ne (nI_toInt (by omega)) (by decide : (-1 : Int32).toInt = -1)).trans (decide_eq_true (by omega))) ?_
                    exact E_vret at_X2_readPiece_60 rfl
                  refine E_callV (v := none) (As := [.ref 34, .int (nI a)]) (r0 := []) (cs2 := (ww im lf s d k ls (nI (cnE e n (a + 5) + 1)) (nI n) (nI (nuE e n (cnE e n (a + 5) + 1))) (nI (cnE e n (a + 5) + 1)) q lt m1 m2 m3 m4 bd fc hd sz el t g fm hm so si sh ce ca td wa kp la bf oo bo pw ow tr)) at_X2_readItem_58 rfl rfl (Nat.le_of_ble_eq_true rfl) rfl (ab_rvOf w34 rfl) e2 (by decide) w_lens ?_
                  refine E_goto (t := 110) at_X2_readItem_61 rfl ?_
                  exact E_vret at_X2_readItem_110 rfl
          · have hz := mtc_n (e := e) (n := n) [112, 105, 101, 99, 101] a ha
            have hz_ : a + mj0 e n a ≤ n := hz
            have hb0_ := (chB_t hb0).1
            have hd0_ := (dgB_t hd0).1
            have hV0 := nuV_99 hd0
            have hF0 : nuF e n (a + 5) 0 7 = a + 5 + 2 := nuF_D hb0 hd0 (show nuV e n (a + 6) < 0 ∨ 7 ≤ nuV e n (a + 6) from by omega)
            have hI : itF e n q a = a + 7 := (it_0 (q := q) hw).1.trans (by rw [if_neg (by omega)]; unfold s3F; rw [if_neg (by omega)]; exact hF0)
            refine ⟨q, (nI (a + 6)), (nI (nuE e n (a + 6))), (nI (a + 6)), ?_, Or.inr ⟨a + 6, by omega, rfl, by omega, rfl⟩⟩
            refine Ef.in (md := mX2_readItem) (L := [some (.ref 34), none, none]) rfl (Nat.le_of_ble_eq_true rfl) rfl ?_
            refine E_aload_n at_X2_readItem_0 rfl ?_
            refine E_getfield (v := .int (nI a)) at_X2_readItem_1 w34 rfl (by decide) rfl ?_
            refine E_istore_n (L2 := [some (.ref 34), some (.int (nI a)), none]) at_X2_readItem_4 rfl ?_
            refine E_aload_n at_X2_readItem_5 rfl ?_
            refine E_callV (v := some (.int (nI 0))) (As := [.ref 34]) (r0 := []) (cs2 := (ww im lf s d k ls (-1) (nI n) (nI (a + 5)) rn q lt m1 m2 m3 m4 bd fc hd sz el t g fm hm so si sh ce ca td wa kp la bf oo bo pw ow tr)) at_X2_readItem_6 rfl rfl (Nat.le_of_ble_eq_true rfl) rfl (ab_rvOf w34 rfl) (w_rw0 hn ha l_lt hlt hw) (by decide) w_lens ?_
            refine E_istore_n (L2 := [some (.ref 34), some (.int (nI a)), some (.int (nI 0))]) at_X2_readItem_9 rfl ?_
            refine E_aload_n at_X2_readItem_10 rfl ?_
            refine E_getfield (v := .int (-1)) at_X2_readItem_11 w34 rfl (by decide) rfl ?_
            refine E_iconst (x := (-1)) at_X2_readItem_14 (by decide) ?_
            refine E_ic (t := 19) (b := true) at_X2_readItem_15 rfl (by decide) ?_
            refine E_iload_n at_X2_readItem_19 rfl ?_
            refine E_tsIn (off := 36) (t := 56) at_X2_readItem_20 (by decide) rfl rfl ?_
            refine E_aload_n at_X2_readItem_56 rfl ?_
            refine E_iload_n at_X2_readItem_57 rfl ?_
            have e2 : Ev ab_Z0 4 16 [.ref 34, .int (nI a)] (ww im lf s d k ls (-1) (nI n) (nI (a + 5)) rn q lt m1 m2 m3 m4 bd fc hd sz el t g fm hm so si sh ce ca td wa kp la bf oo bo pw ow tr) (none, (ww im lf s d k ls (nI (a + 6)) (nI n) (nI (nuE e n (a + 6))) (nI (a + 6)) q lt m1 m2 m3 m4 bd fc hd sz el t g fm hm so si sh ce ca td wa kp la bf oo bo pw ow tr)) := by
              refine Ef.in (md := mX2_readPiece) (L := [some (.ref 34), some (.int (nI a)), none, none, none]) rfl (Nat.le_of_ble_eq_true rfl) rfl ?_
              refine E_aload_n at_X2_readPiece_0 rfl ?_
              refine E_getfield (v := .ref 35) at_X2_readPiece_1 w34 rfl (by decide) rfl ?_
              have e1 : Ev ab_Z0 1 52 [.ref 35] (ww im lf s d k ls (-1) (nI n) (nI (a + 5)) rn q lt m1 m2 m3 m4 bd fc hd sz el t g fm hm so si sh ce ca td wa kp la bf oo bo pw ow tr) (some (.int (nI 1)), (ww im lf s d k ls (-1) (nI n) (nI (a + 5)) rn q lt m1 m2 m3 m4 bd fc hd sz el t g fm hm so si sh ce ca td wa kp la bf oo bo pw ow tr)) := by
                refine Ef.in (md := mX4_hasRoomForPiece) (L := [some (.ref 35)]) rfl (Nat.le_of_ble_eq_true rfl) rfl ?_
                refine E_aload_n at_X4_hasRoomForPiece_0 rfl ?_
                refine E_getfield (v := .int (nI (qN q))) at_X4_hasRoomForPiece_1 w35 rfl (by decide) rfl ?_
                refine E_bipush (x := nI 9) at_X4_hasRoomForPiece_4 (by decide) ?_
                refine E_ic (t := 13) (b := false) at_X4_hasRoomForPiece_6 rfl ((cn_ge (nI_toInt (by omega)) (nI_toInt (by omega))).trans (decide_eq_false (by omega))) ?_
                refine E_iconst (x := nI 1) at_X4_hasRoomForPiece_9 (by decide) ?_
                refine E_goto (t := 14) at_X4_hasRoomForPiece_10 rfl ?_
                exact E_iret at_X4_hasRoomForPiece_14 rfl
              refine E_callV (v := some (.int (nI 1))) (As := [.ref 35]) (r0 := []) (cs2 := (ww im lf s d k ls (-1) (nI n) (nI (a + 5)) rn q lt m1 m2 m3 m4 bd fc hd sz el t g fm hm so si sh ce ca td wa kp la bf oo bo pw ow tr)) at_X2_readPiece_4 rfl rfl (Nat.le_of_ble_eq_true rfl) rfl (ab_rvOf w35 rfl) e1 (by decide) rfl ?_
              refine E_if (t := 15) (b := true) at_X2_readPiece_7 rfl (by decide) ?_
              refine E_aload_n at_X2_readPiece_15 rfl ?_
              refine E_iconst (x := nI 0) at_X2_readPiece_16 (by decide) ?_
              refine E_bipush (x := nI 6) at_X2_readPiece_17 (by decide) ?_
              refine E_callV (v := some (.int (nI (nuV e n (a + 6))))) (As := [.ref 34, .int (nI 0), .int (nI 6)]) (r0 := []) (cs2 := (ww im lf s d k ls (nI (a + 6)) (nI n) (nI (nuE e n (a + 6))) (nI (a + 6)) q lt m1 m2 m3 m4 bd fc hd sz el t g fm hm so si sh ce ca td wa kp la bf oo bo pw ow tr)) at_X2_readPiece_19 rfl rfl (Nat.le_of_ble_eq_true rfl) rfl (ab_rvOf w34 rfl) (w_nuD (a := a + 5) (hi := nI 6) (by decide) hn (by omega) l_lt hlt hb0 hd0 (show nuV e n (a + 6) < 0 ∨ (nI 6).toInt < ((nuV e n (a + 6) : Nat) : Int) from by rw [(nI_toInt (by omega) : (nI 6).toInt = ((6 : Nat) : Int))]; omega)) (by decide) w_lens ?_
              refine E_istore_n (L2 := [some (.ref 34), some (.int (nI a)), some (.int (nI (nuV e n (a + 6)))), none, none]) at_X2_readPiece_22 rfl ?_
              refine E_aload_n at_X2_readPiece_23 rfl ?_
              refine E_iconst (x := nI 0) at_X2_readPiece_24 (by decide) ?_
              refine E_bipush (x := nI 9) at_X2_readPiece_25 (by decide) ?_
              refine E_callV (v := some (.int (nI 0))) (As := [.ref 34, .int (nI 0), .int (nI 9)]) (r0 := []) (cs2 := (ww im lf s d k ls (nI (a + 6)) (nI n) (nI (nuE e n (a + 6))) (nI (a + 6)) q lt m1 m2 m3 m4 bd fc hd sz el t g fm hm so si sh ce ca td wa kp la bf oo bo pw ow tr)) at_X2_readPiece_27 rfl rfl (Nat.le_of_ble_eq_true rfl) rfl (ab_rvOf w34 rfl) (w_nux (f := a + 6) (by omega)) (by decide) rfl ?_
              refine E_istore_n (L2 := [some (.ref 34), some (.int (nI a)), some (.int (nI (nuV e n (a + 6)))), some (.int (nI 0)), none]) at_X2_readPiece_30 rfl ?_
              refine E_aload_n at_X2_readPiece_31 rfl ?_
              refine E_iconst (x := nI 1) at_X2_readPiece_32 (by decide) ?_
              refine E_bipush (x := nI 50) at_X2_readPiece_33 (by decide) ?_
              refine E_callV (v := some (.int (nI 0))) (As := [.ref 34, .int (nI 1), .int (nI 50)]) (r0 := []) (cs2 := (ww im lf s d k ls (nI (a + 6)) (nI n) (nI (nuE e n (a + 6))) (nI (a + 6)) q lt m1 m2 m3 m4 bd fc hd sz el t g fm hm so si sh ce ca td wa kp la bf oo bo pw ow tr)) at_X2_readPiece_35 rfl rfl (Nat.le_of_ble_eq_true rfl) rfl (ab_rvOf w34 rfl) (w_nux (f := a + 6) (by omega)) (by decide) rfl ?_
              refine E_istore (L2 := [some (.ref 34), some (.int (nI a)), some (.int (nI (nuV e n (a + 6)))), some (.int (nI 0)), some (.int (nI 0))]) at_X2_readPiece_38 rfl ?_
              refine E_aload_n at_X2_readPiece_40 rfl ?_
              refine E_getfield (v := .int (nI (a + 6))) at_X2_readPiece_41 w34 rfl (by decide) rfl ?_
              refine E_iconst (x := (-1)) at_X2_readPiece_44 (by decide) ?_
              refine E_ic (t := 60) (b := true) at_X2_readPiece_45 rfl ((cn_ne (nI_toInt (by omega)) (by decide : (-1 : Int32).toInt = -1)).trans (decide_eq_true (by omega))) ?_
              exact E_vret at_X2_readPiece_60 rfl
            refine E_callV (v := none) (As := [.ref 34, .int (nI a)]) (r0 := []) (cs2 := (ww im lf s d k ls (nI (a + 6)) (nI n) (nI (nuE e n (a + 6))) (nI (a + 6)) q lt m1 m2 m3 m4 bd fc hd sz el t g fm hm so si sh ce ca td wa kp la bf oo bo pw ow tr)) at_X2_readItem_58 rfl rfl (Nat.le_of_ble_eq_true rfl) rfl (ab_rvOf w34 rfl) e2 (by decide) w_lens ?_
            refine E_goto (t := 110) at_X2_readItem_61 rfl ?_
            exact E_vret at_X2_readItem_110 rfl
    · have hz := mtc_n (e := e) (n := n) [112, 105, 101, 99, 101] a ha
      have hz_ : a + mj0 e n a ≤ n := hz
      have hI : itF e n q a = a + 1 := (it_0 (q := q) hw).1.trans (by rw [if_pos (by omega)])
      refine ⟨q, (nI a), (nI (a + 5)), rn, ?_, Or.inr ⟨a, by omega, rfl, by omega, rfl⟩⟩
      refine Ef.in (md := mX2_readItem) (L := [some (.ref 34), none, none]) rfl (Nat.le_of_ble_eq_true rfl) rfl ?_
      refine E_aload_n at_X2_readItem_0 rfl ?_
      refine E_getfield (v := .int (nI a)) at_X2_readItem_1 w34 rfl (by decide) rfl ?_
      refine E_istore_n (L2 := [some (.ref 34), some (.int (nI a)), none]) at_X2_readItem_4 rfl ?_
      refine E_aload_n at_X2_readItem_5 rfl ?_
      refine E_callV (v := some (.int (nI 0))) (As := [.ref 34]) (r0 := []) (cs2 := (ww im lf s d k ls (-1) (nI n) (nI (a + 5)) rn q lt m1 m2 m3 m4 bd fc hd sz el t g fm hm so si sh ce ca td wa kp la bf oo bo pw ow tr)) at_X2_readItem_6 rfl rfl (Nat.le_of_ble_eq_true rfl) rfl (ab_rvOf w34 rfl) (w_rw0 hn ha l_lt hlt hw) (by decide) w_lens ?_
      refine E_istore_n (L2 := [some (.ref 34), some (.int (nI a)), some (.int (nI 0))]) at_X2_readItem_9 rfl ?_
      refine E_aload_n at_X2_readItem_10 rfl ?_
      refine E_getfield (v := .int (-1)) at_X2_readItem_11 w34 rfl (by decide) rfl ?_
      refine E_iconst (x := (-1)) at_X2_readItem_14 (by decide) ?_
      refine E_ic (t := 19) (b := true) at_X2_readItem_15 rfl (by decide) ?_
      refine E_iload_n at_X2_readItem_19 rfl ?_
      refine E_tsIn (off := 36) (t := 56) at_X2_readItem_20 (by decide) rfl rfl ?_
      refine E_aload_n at_X2_readItem_56 rfl ?_
      refine E_iload_n at_X2_readItem_57 rfl ?_
      have e2 : Ev ab_Z0 4 16 [.ref 34, .int (nI a)] (ww im lf s d k ls (-1) (nI n) (nI (a + 5)) rn q lt m1 m2 m3 m4 bd fc hd sz el t g fm hm so si sh ce ca td wa kp la bf oo bo pw ow tr) (none, (ww im lf s d k ls (nI a) (nI n) (nI (a + 5)) rn q lt m1 m2 m3 m4 bd fc hd sz el t g fm hm so si sh ce ca td wa kp la bf oo bo pw ow tr)) := by
        refine Ef.in (md := mX2_readPiece) (L := [some (.ref 34), some (.int (nI a)), none, none, none]) rfl (Nat.le_of_ble_eq_true rfl) rfl ?_
        refine E_aload_n at_X2_readPiece_0 rfl ?_
        refine E_getfield (v := .ref 35) at_X2_readPiece_1 w34 rfl (by decide) rfl ?_
        have e1 : Ev ab_Z0 1 52 [.ref 35] (ww im lf s d k ls (-1) (nI n) (nI (a + 5)) rn q lt m1 m2 m3 m4 bd fc hd sz el t g fm hm so si sh ce ca td wa kp la bf oo bo pw ow tr) (some (.int (nI 0)), (ww im lf s d k ls (-1) (nI n) (nI (a + 5)) rn q lt m1 m2 m3 m4 bd fc hd sz el t g fm hm so si sh ce ca td wa kp la bf oo bo pw ow tr)) := by
          refine Ef.in (md := mX4_hasRoomForPiece) (L := [some (.ref 35)]) rfl (Nat.le_of_ble_eq_true rfl) rfl ?_
          refine E_aload_n at_X4_hasRoomForPiece_0 rfl ?_
          refine E_getfield (v := .int (nI (qN q))) at_X4_hasRoomForPiece_1 w35 rfl (by decide) rfl ?_
          refine E_bipush (x := nI 9) at_X4_hasRoomForPiece_4 (by decide) ?_
          refine E_ic (t := 13) (b := true) at_X4_hasRoomForPiece_6 rfl ((cn_ge (nI_toInt (by omega)) (nI_toInt (by omega))).trans (decide_eq_true (by omega))) ?_
          refine E_iconst (x := nI 0) rfl (by decide) ?_
          exact E_iret at_X4_hasRoomForPiece_14 rfl
        refine E_callV (v := some (.int (nI 0))) (As := [.ref 35]) (r0 := []) (cs2 := (ww im lf s d k ls (-1) (nI n) (nI (a + 5)) rn q lt m1 m2 m3 m4 bd fc hd sz el t g fm hm so si sh ce ca td wa kp la bf oo bo pw ow tr)) at_X2_readPiece_4 rfl rfl (Nat.le_of_ble_eq_true rfl) rfl (ab_rvOf w35 rfl) e1 (by decide) rfl ?_
        refine E_if (t := 15) (b := false) at_X2_readPiece_7 rfl (by decide) ?_
        refine E_aload_n rfl rfl ?_
        refine E_iload_n rfl rfl ?_
        refine E_putfield (cs2 := (ww im lf s d k ls (nI a) (nI n) (nI (a + 5)) rn q lt m1 m2 m3 m4 bd fc hd sz el t g fm hm so si sh ce ca td wa kp la bf oo bo pw ow tr)) rfl w34 rfl (by decide) (Nat.le_of_ble_eq_true rfl) rfl rfl rfl rfl ?_
        refine E_aload_n at_X2_readPiece_15 rfl ?_
        refine E_iconst (x := nI 0) at_X2_readPiece_16 (by decide) ?_
        refine E_bipush (x := nI 6) at_X2_readPiece_17 (by decide) ?_
        refine E_callV (v := some (.int (nI 0))) (As := [.ref 34, .int (nI 0), .int (nI 6)]) (r0 := []) (cs2 := (ww im lf s d k ls (nI a) (nI n) (nI (a + 5)) rn q lt m1 m2 m3 m4 bd fc hd sz el t g fm hm so si sh ce ca td wa kp la bf oo bo pw ow tr)) at_X2_readPiece_19 rfl rfl (Nat.le_of_ble_eq_true rfl) rfl (ab_rvOf w34 rfl) (w_nux (f := a) (by omega)) (by decide) rfl ?_
        refine E_istore_n (L2 := [some (.ref 34), some (.int (nI a)), some (.int (nI 0)), none, none]) at_X2_readPiece_22 rfl ?_
        refine E_aload_n at_X2_readPiece_23 rfl ?_
        refine E_iconst (x := nI 0) at_X2_readPiece_24 (by decide) ?_
        refine E_bipush (x := nI 9) at_X2_readPiece_25 (by decide) ?_
        refine E_callV (v := some (.int (nI 0))) (As := [.ref 34, .int (nI 0), .int (nI 9)]) (r0 := []) (cs2 := (ww im lf s d k ls (nI a) (nI n) (nI (a + 5)) rn q lt m1 m2 m3 m4 bd fc hd sz el t g fm hm so si sh ce ca td wa kp la bf oo bo pw ow tr)) at_X2_readPiece_27 rfl rfl (Nat.le_of_ble_eq_true rfl) rfl (ab_rvOf w34 rfl) (w_nux (f := a) (by omega)) (by decide) rfl ?_
        refine E_istore_n (L2 := [some (.ref 34), some (.int (nI a)), some (.int (nI 0)), some (.int (nI 0)), none]) at_X2_readPiece_30 rfl ?_
        refine E_aload_n at_X2_readPiece_31 rfl ?_
        refine E_iconst (x := nI 1) at_X2_readPiece_32 (by decide) ?_
        refine E_bipush (x := nI 50) at_X2_readPiece_33 (by decide) ?_
        refine E_callV (v := some (.int (nI 0))) (As := [.ref 34, .int (nI 1), .int (nI 50)]) (r0 := []) (cs2 := (ww im lf s d k ls (nI a) (nI n) (nI (a + 5)) rn q lt m1 m2 m3 m4 bd fc hd sz el t g fm hm so si sh ce ca td wa kp la bf oo bo pw ow tr)) at_X2_readPiece_35 rfl rfl (Nat.le_of_ble_eq_true rfl) rfl (ab_rvOf w34 rfl) (w_nux (f := a) (by omega)) (by decide) rfl ?_
        refine E_istore (L2 := [some (.ref 34), some (.int (nI a)), some (.int (nI 0)), some (.int (nI 0)), some (.int (nI 0))]) at_X2_readPiece_38 rfl ?_
        refine E_aload_n at_X2_readPiece_40 rfl ?_
        refine E_getfield (v := .int (nI a)) at_X2_readPiece_41 w34 rfl (by decide) rfl ?_
        refine E_iconst (x := (-1)) at_X2_readPiece_44 (by decide) ?_
        refine E_ic (t := 60) (b := true) at_X2_readPiece_45 rfl ((cn_ne (nI_toInt (by omega)) (by decide : (-1 : Int32).toInt = -1)).trans (decide_eq_true (by omega))) ?_
        exact E_vret at_X2_readPiece_60 rfl
      refine E_callV (v := none) (As := [.ref 34, .int (nI a)]) (r0 := []) (cs2 := (ww im lf s d k ls (nI a) (nI n) (nI (a + 5)) rn q lt m1 m2 m3 m4 bd fc hd sz el t g fm hm so si sh ce ca td wa kp la bf oo bo pw ow tr)) at_X2_readItem_58 rfl rfl (Nat.le_of_ble_eq_true rfl) rfl (ab_rvOf w34 rfl) e2 (by decide) w_lens ?_
      refine E_goto (t := 110) at_X2_readItem_61 rfl ?_
      exact E_vret at_X2_readItem_110 rfl
  · by_cases f1 : (qM q) < 6
    · rcases bo2 (chB e n (a + 6) 32) with hb0 | hb0
      · have hz := mtc_n (e := e) (n := n) [112, 101, 114, 115, 111, 110] a ha
        have hz_ : a + mj1 e n a ≤ n := hz
        have hF0 : nuF e n (a + 6) 0 100 = a + 6 + 1 := nuF_A hb0
        have hI : itF e n q a = a + 7 := (it_1 (q := q) hw).1.trans (by rw [if_neg (by omega)]; unfold s3F; rw [if_neg (by omega)]; exact hF0)
        refine ⟨q, (nI (a + 6)), (nI (a + 6)), rn, ?_, Or.inr ⟨a + 6, by omega, rfl, by omega, rfl⟩⟩
        refine Ef.in (md := mX2_readItem) (L := [some (.ref 34), none, none]) rfl (Nat.le_of_ble_eq_true rfl) rfl ?_
        refine E_aload_n at_X2_readItem_0 rfl ?_
        refine E_getfield (v := .int (nI a)) at_X2_readItem_1 w34 rfl (by decide) rfl ?_
        refine E_istore_n (L2 := [some (.ref 34), some (.int (nI a)), none]) at_X2_readItem_4 rfl ?_
        refine E_aload_n at_X2_readItem_5 rfl ?_
        refine E_callV (v := some (.int (nI 1))) (As := [.ref 34]) (r0 := []) (cs2 := (ww im lf s d k ls (-1) (nI n) (nI (a + 6)) rn q lt m1 m2 m3 m4 bd fc hd sz el t g fm hm so si sh ce ca td wa kp la bf oo bo pw ow tr)) at_X2_readItem_6 rfl rfl (Nat.le_of_ble_eq_true rfl) rfl (ab_rvOf w34 rfl) (w_rw1 hn ha l_lt hlt hw) (by decide) w_lens ?_
        refine E_istore_n (L2 := [some (.ref 34), some (.int (nI a)), some (.int (nI 1))]) at_X2_readItem_9 rfl ?_
        refine E_aload_n at_X2_readItem_10 rfl ?_
        refine E_getfield (v := .int (-1)) at_X2_readItem_11 w34 rfl (by decide) rfl ?_
        refine E_iconst (x := (-1)) at_X2_readItem_14 (by decide) ?_
        refine E_ic (t := 19) (b := true) at_X2_readItem_15 rfl (by decide) ?_
        refine E_iload_n at_X2_readItem_19 rfl ?_
        refine E_tsIn (off := 44) (t := 64) at_X2_readItem_20 (by decide) rfl rfl ?_
        refine E_aload_n at_X2_readItem_64 rfl ?_
        refine E_iload_n at_X2_readItem_65 rfl ?_
        have e2 : Ev ab_Z0 4 17 [.ref 34, .int (nI a)] (ww im lf s d k ls (-1) (nI n) (nI (a + 6)) rn q lt m1 m2 m3 m4 bd fc hd sz el t g fm hm so si sh ce ca td wa kp la bf oo bo pw ow tr) (none, (ww im lf s d k ls (nI (a + 6)) (nI n) (nI (a + 6)) rn q lt m1 m2 m3 m4 bd fc hd sz el t g fm hm so si sh ce ca td wa kp la bf oo bo pw ow tr)) := by
          refine Ef.in (md := mX2_readPerson) (L := [some (.ref 34), some (.int (nI a)), none, none, none]) rfl (Nat.le_of_ble_eq_true rfl) rfl ?_
          refine E_aload_n at_X2_readPerson_0 rfl ?_
          refine E_getfield (v := .ref 35) at_X2_readPerson_1 w34 rfl (by decide) rfl ?_
          have e1 : Ev ab_Z0 1 53 [.ref 35] (ww im lf s d k ls (-1) (nI n) (nI (a + 6)) rn q lt m1 m2 m3 m4 bd fc hd sz el t g fm hm so si sh ce ca td wa kp la bf oo bo pw ow tr) (some (.int (nI 1)), (ww im lf s d k ls (-1) (nI n) (nI (a + 6)) rn q lt m1 m2 m3 m4 bd fc hd sz el t g fm hm so si sh ce ca td wa kp la bf oo bo pw ow tr)) := by
            refine Ef.in (md := mX4_hasRoomForPerson) (L := [some (.ref 35)]) rfl (Nat.le_of_ble_eq_true rfl) rfl ?_
            refine E_aload_n at_X4_hasRoomForPerson_0 rfl ?_
            refine E_getfield (v := .int (nI (qM q))) at_X4_hasRoomForPerson_1 w35 rfl (by decide) rfl ?_
            refine E_bipush (x := nI 6) at_X4_hasRoomForPerson_4 (by decide) ?_
            refine E_ic (t := 13) (b := false) at_X4_hasRoomForPerson_6 rfl ((cn_ge (nI_toInt (by omega)) (nI_toInt (by omega))).trans (decide_eq_false (by omega))) ?_
            refine E_iconst (x := nI 1) at_X4_hasRoomForPerson_9 (by decide) ?_
            refine E_goto (t := 14) at_X4_hasRoomForPerson_10 rfl ?_
            exact E_iret at_X4_hasRoomForPerson_14 rfl
          refine E_callV (v := some (.int (nI 1))) (As := [.ref 35]) (r0 := []) (cs2 := (ww im lf s d k ls (-1) (nI n) (nI (a + 6)) rn q lt m1 m2 m3 m4 bd fc hd sz el t g fm hm so si sh ce ca td wa kp la bf oo bo pw ow tr)) at_X2_readPerson_4 rfl rfl (Nat.le_of_ble_eq_true rfl) rfl (ab_rvOf w35 rfl) e1 (by decide) rfl ?_
          refine E_if (t := 15) (b := true) at_X2_readPerson_7 rfl (by decide) ?_
          refine E_aload_n at_X2_readPerson_15 rfl ?_
          refine E_iconst (x := nI 0) at_X2_readPerson_16 (by decide) ?_
          refine E_bipush (x := nI 99) at_X2_readPerson_17 (by decide) ?_
          refine E_callV (v := some (.int (nI 0))) (As := [.ref 34, .int (nI 0), .int (nI 99)]) (r0 := []) (cs2 := (ww im lf s d k ls (nI (a + 6)) (nI n) (nI (a + 6)) rn q lt m1 m2 m3 m4 bd fc hd sz el t g fm hm so si sh ce ca td wa kp la bf oo bo pw ow tr)) at_X2_readPerson_19 rfl rfl (Nat.le_of_ble_eq_true rfl) rfl (ab_rvOf w34 rfl) (w_nuA (a := a + 6) (hi := nI 99) (by decide) hn (by omega) l_lt hlt hb0) (by decide) w_lens ?_
          refine E_istore_n (L2 := [some (.ref 34), some (.int (nI a)), some (.int (nI 0)), none, none]) at_X2_readPerson_22 rfl ?_
          refine E_aload_n at_X2_readPerson_23 rfl ?_
          refine E_iconst (x := nI 0) at_X2_readPerson_24 (by decide) ?_
          refine E_bipush (x := nI 9) at_X2_readPerson_25 (by decide) ?_
          refine E_callV (v := some (.int (nI 0))) (As := [.ref 34, .int (nI 0), .int (nI 9)]) (r0 := []) (cs2 := (ww im lf s d k ls (nI (a + 6)) (nI n) (nI (a + 6)) rn q lt m1 m2 m3 m4 bd fc hd sz el t g fm hm so si sh ce ca td wa kp la bf oo bo pw ow tr)) at_X2_readPerson_27 rfl rfl (Nat.le_of_ble_eq_true rfl) rfl (ab_rvOf w34 rfl) (w_nux (f := a + 6) (by omega)) (by decide) rfl ?_
          refine E_istore_n (L2 := [some (.ref 34), some (.int (nI a)), some (.int (nI 0)), some (.int (nI 0)), none]) at_X2_readPerson_30 rfl ?_
          refine E_aload_n at_X2_readPerson_31 rfl ?_
          refine E_iconst (x := nI 0) at_X2_readPerson_32 (by decide) ?_
          refine E_bipush (x := nI 7) at_X2_readPerson_33 (by decide) ?_
          refine E_callV (v := some (.int (nI 0))) (As := [.ref 34, .int (nI 0), .int (nI 7)]) (r0 := []) (cs2 := (ww im lf s d k ls (nI (a + 6)) (nI n) (nI (a + 6)) rn q lt m1 m2 m3 m4 bd fc hd sz el t g fm hm so si sh ce ca td wa kp la bf oo bo pw ow tr)) at_X2_readPerson_35 rfl rfl (Nat.le_of_ble_eq_true rfl) rfl (ab_rvOf w34 rfl) (w_nux (f := a + 6) (by omega)) (by decide) rfl ?_
          refine E_istore (L2 := [some (.ref 34), some (.int (nI a)), some (.int (nI 0)), some (.int (nI 0)), some (.int (nI 0))]) at_X2_readPerson_38 rfl ?_
          refine E_aload_n at_X2_readPerson_40 rfl ?_
          refine E_getfield (v := .int (nI (a + 6))) at_X2_readPerson_41 w34 rfl (by decide) rfl ?_
          refine E_iconst (x := (-1)) at_X2_readPerson_44 (by decide) ?_
          refine E_ic (t := 60) (b := true) at_X2_readPerson_45 rfl ((cn_ne (nI_toInt (by omega)) (by decide : (-1 : Int32).toInt = -1)).trans (decide_eq_true (by omega))) ?_
          exact E_vret at_X2_readPerson_60 rfl
        refine E_callV (v := none) (As := [.ref 34, .int (nI a)]) (r0 := []) (cs2 := (ww im lf s d k ls (nI (a + 6)) (nI n) (nI (a + 6)) rn q lt m1 m2 m3 m4 bd fc hd sz el t g fm hm so si sh ce ca td wa kp la bf oo bo pw ow tr)) at_X2_readItem_66 rfl rfl (Nat.le_of_ble_eq_true rfl) rfl (ab_rvOf w34 rfl) e2 (by decide) w_lens ?_
        refine E_goto (t := 110) at_X2_readItem_69 rfl ?_
        exact E_vret at_X2_readItem_110 rfl
      · rcases bo2 (dgB e n (a + 7)) with hd0 | hd0
        · have hz := mtc_n (e := e) (n := n) [112, 101, 114, 115, 111, 110] a ha
          have hz_ : a + mj1 e n a ≤ n := hz
          have hb0_ := (chB_t hb0).1
          have hF0 : nuF e n (a + 6) 0 100 = a + 6 + 2 := nuF_B hb0 hd0
          have hI : itF e n q a = a + 8 := (it_1 (q := q) hw).1.trans (by rw [if_neg (by omega)]; unfold s3F; rw [if_neg (by omega)]; exact hF0)
          refine ⟨q, (nI (a + 7)), (nI (a + 7)), rn, ?_, Or.inr ⟨a + 7, by omega, rfl, by omega, rfl⟩⟩
          refine Ef.in (md := mX2_readItem) (L := [some (.ref 34), none, none]) rfl (Nat.le_of_ble_eq_true rfl) rfl ?_
          refine E_aload_n at_X2_readItem_0 rfl ?_
          refine E_getfield (v := .int (nI a)) at_X2_readItem_1 w34 rfl (by decide) rfl ?_
          refine E_istore_n (L2 := [some (.ref 34), some (.int (nI a)), none]) at_X2_readItem_4 rfl ?_
          refine E_aload_n at_X2_readItem_5 rfl ?_
          refine E_callV (v := some (.int (nI 1))) (As := [.ref 34]) (r0 := []) (cs2 := (ww im lf s d k ls (-1) (nI n) (nI (a + 6)) rn q lt m1 m2 m3 m4 bd fc hd sz el t g fm hm so si sh ce ca td wa kp la bf oo bo pw ow tr)) at_X2_readItem_6 rfl rfl (Nat.le_of_ble_eq_true rfl) rfl (ab_rvOf w34 rfl) (w_rw1 hn ha l_lt hlt hw) (by decide) w_lens ?_
          refine E_istore_n (L2 := [some (.ref 34), some (.int (nI a)), some (.int (nI 1))]) at_X2_readItem_9 rfl ?_
          refine E_aload_n at_X2_readItem_10 rfl ?_
          refine E_getfield (v := .int (-1)) at_X2_readItem_11 w34 rfl (by decide) rfl ?_
          refine E_iconst (x := (-1)) at_X2_readItem_14 (by decide) ?_
          refine E_ic (t := 19) (b := true) at_X2_readItem_15 rfl (by decide) ?_
          refine E_iload_n at_X2_readItem_19 rfl ?_
          refine E_tsIn (off := 44) (t := 64) at_X2_readItem_20 (by decide) rfl rfl ?_
          refine E_aload_n at_X2_readItem_64 rfl ?_
          refine E_iload_n at_X2_readItem_65 rfl ?_
          have e2 : Ev ab_Z0 4 17 [.ref 34, .int (nI a)] (ww im lf s d k ls (-1) (nI n) (nI (a + 6)) rn q lt m1 m2 m3 m4 bd fc hd sz el t g fm hm so si sh ce ca td wa kp la bf oo bo pw ow tr) (none, (ww im lf s d k ls (nI (a + 7)) (nI n) (nI (a + 7)) rn q lt m1 m2 m3 m4 bd fc hd sz el t g fm hm so si sh ce ca td wa kp la bf oo bo pw ow tr)) := by
            refine Ef.in (md := mX2_readPerson) (L := [some (.ref 34), some (.int (nI a)), none, none, none]) rfl (Nat.le_of_ble_eq_true rfl) rfl ?_
            refine E_aload_n at_X2_readPerson_0 rfl ?_
            refine E_getfield (v := .ref 35) at_X2_readPerson_1 w34 rfl (by decide) rfl ?_
            have e1 : Ev ab_Z0 1 53 [.ref 35] (ww im lf s d k ls (-1) (nI n) (nI (a + 6)) rn q lt m1 m2 m3 m4 bd fc hd sz el t g fm hm so si sh ce ca td wa kp la bf oo bo pw ow tr) (some (.int (nI 1)), (ww im lf s d k ls (-1) (nI n) (nI (a + 6)) rn q lt m1 m2 m3 m4 bd fc hd sz el t g fm hm so si sh ce ca td wa kp la bf oo bo pw ow tr)) := by
              refine Ef.in (md := mX4_hasRoomForPerson) (L := [some (.ref 35)]) rfl (Nat.le_of_ble_eq_true rfl) rfl ?_
              refine E_aload_n at_X4_hasRoomForPerson_0 rfl ?_
              refine E_getfield (v := .int (nI (qM q))) at_X4_hasRoomForPerson_1 w35 rfl (by decide) rfl ?_
              refine E_bipush (x := nI 6) at_X4_hasRoomForPerson_4 (by decide) ?_
              refine E_ic (t := 13) (b := false) at_X4_hasRoomForPerson_6 rfl ((cn_ge (nI_toInt (by omega)) (nI_toInt (by omega))).trans (decide_eq_false (by omega))) ?_
              refine E_iconst (x := nI 1) at_X4_hasRoomForPerson_9 (by decide) ?_
              refine E_goto (t := 14) at_X4_hasRoomForPerson_10 rfl ?_
              exact E_iret at_X4_hasRoomForPerson_14 rfl
            refine E_callV (v := some (.int (nI 1))) (As := [.ref 35]) (r0 := []) (cs2 := (ww im lf s d k ls (-1) (nI n) (nI (a + 6)) rn q lt m1 m2 m3 m4 bd fc hd sz el t g fm hm so si sh ce ca td wa kp la bf oo bo pw ow tr)) at_X2_readPerson_4 rfl rfl (Nat.le_of_ble_eq_true rfl) rfl (ab_rvOf w35 rfl) e1 (by decide) rfl ?_
            refine E_if (t := 15) (b := true) at_X2_readPerson_7 rfl (by decide) ?_
            refine E_aload_n at_X2_readPerson_15 rfl ?_
            refine E_iconst (x := nI 0) at_X2_readPerson_16 (by decide) ?_
            refine E_bipush (x := nI 99) at_X2_readPerson_17 (by decide) ?_
            refine E_callV (v := some (.int (nI 0))) (As := [.ref 34, .int (nI 0), .int (nI 99)]) (r0 := []) (cs2 := (ww im lf s d k ls (nI (a + 7)) (nI n) (nI (a + 7)) rn q lt m1 m2 m3 m4 bd fc hd sz el t g fm hm so si sh ce ca td wa kp la bf oo bo pw ow tr)) at_X2_readPerson_19 rfl rfl (Nat.le_of_ble_eq_true rfl) rfl (ab_rvOf w34 rfl) (w_nuB (a := a + 6) (hi := nI 99) (by decide) hn (by omega) l_lt hlt hb0 hd0) (by decide) w_lens ?_
            refine E_istore_n (L2 := [some (.ref 34), some (.int (nI a)), some (.int (nI 0)), none, none]) at_X2_readPerson_22 rfl ?_
            refine E_aload_n at_X2_readPerson_23 rfl ?_
            refine E_iconst (x := nI 0) at_X2_readPerson_24 (by decide) ?_
            refine E_bipush (x := nI 9) at_X2_readPerson_25 (by decide) ?_
            refine E_callV (v := some (.int (nI 0))) (As := [.ref 34, .int (nI 0), .int (nI 9)]) (r0 := []) (cs2 := (ww im lf s d k ls (nI (a + 7)) (nI n) (nI (a + 7)) rn q lt m1 m2 m3 m4 bd fc hd sz el t g fm hm so si sh ce ca td wa kp la bf oo bo pw ow tr)) at_X2_readPerson_27 rfl rfl (Nat.le_of_ble_eq_true rfl) rfl (ab_rvOf w34 rfl) (w_nux (f := a + 7) (by omega)) (by decide) rfl ?_
            refine E_istore_n (L2 := [some (.ref 34), some (.int (nI a)), some (.int (nI 0)), some (.int (nI 0)), none]) at_X2_readPerson_30 rfl ?_
            refine E_aload_n at_X2_readPerson_31 rfl ?_
            refine E_iconst (x := nI 0) at_X2_readPerson_32 (by decide) ?_
            refine E_bipush (x := nI 7) at_X2_readPerson_33 (by decide) ?_
            refine E_callV (v := some (.int (nI 0))) (As := [.ref 34, .int (nI 0), .int (nI 7)]) (r0 := []) (cs2 := (ww im lf s d k ls (nI (a + 7)) (nI n) (nI (a + 7)) rn q lt m1 m2 m3 m4 bd fc hd sz el t g fm hm so si sh ce ca td wa kp la bf oo bo pw ow tr)) at_X2_readPerson_35 rfl rfl (Nat.le_of_ble_eq_true rfl) rfl (ab_rvOf w34 rfl) (w_nux (f := a + 7) (by omega)) (by decide) rfl ?_
            refine E_istore (L2 := [some (.ref 34), some (.int (nI a)), some (.int (nI 0)), some (.int (nI 0)), some (.int (nI 0))]) at_X2_readPerson_38 rfl ?_
            refine E_aload_n at_X2_readPerson_40 rfl ?_
            refine E_getfield (v := .int (nI (a + 7))) at_X2_readPerson_41 w34 rfl (by decide) rfl ?_
            refine E_iconst (x := (-1)) at_X2_readPerson_44 (by decide) ?_
            refine E_ic (t := 60) (b := true) at_X2_readPerson_45 rfl ((cn_ne (nI_toInt (by omega)) (by decide : (-1 : Int32).toInt = -1)).trans (decide_eq_true (by omega))) ?_
            exact E_vret at_X2_readPerson_60 rfl
          refine E_callV (v := none) (As := [.ref 34, .int (nI a)]) (r0 := []) (cs2 := (ww im lf s d k ls (nI (a + 7)) (nI n) (nI (a + 7)) rn q lt m1 m2 m3 m4 bd fc hd sz el t g fm hm so si sh ce ca td wa kp la bf oo bo pw ow tr)) at_X2_readItem_66 rfl rfl (Nat.le_of_ble_eq_true rfl) rfl (ab_rvOf w34 rfl) e2 (by decide) w_lens ?_
          refine E_goto (t := 110) at_X2_readItem_69 rfl ?_
          exact E_vret at_X2_readItem_110 rfl
        · rcases bo2 (chB e n (cnE e n (a + 6)) 32) with hb1 | hb1
          · have hz := mtc_n (e := e) (n := n) [112, 101, 114, 115, 111, 110] a ha
            have hz_ : a + mj1 e n a ≤ n := hz
            have hb0_ := (chB_t hb0).1
            have hd0_ := (dgB_t hd0).1
            have hV0 := nuV_99 hd0
            have hc0 := cnE_n hd0
            have hF0 : nuF e n (a + 6) 0 100 = 0 := nuF_C hb0 hd0 (show ¬ (nuV e n (a + 7) < 0 ∨ 100 ≤ nuV e n (a + 7)) from by omega)
            have hF1 : nuF e n (cnE e n (a + 6)) 0 10 = cnE e n (a + 6) + 1 := nuF_A hb1
            have hI : itF e n q a = cnE e n (a + 6) + 1 := (it_1 (q := q) hw).1.trans (by rw [if_neg (by omega)]; unfold s3F; rw [if_pos hF0]; unfold s2F; rw [if_neg (by omega)]; exact hF1)
            refine ⟨q, (nI (cnE e n (a + 6))), (nI (cnE e n (a + 6))), (nI (a + 7)), ?_, Or.inr ⟨cnE e n (a + 6), by omega, rfl, by omega, rfl⟩⟩
            refine Ef.in (md := mX2_readItem) (L := [some (.ref 34), none, none]) rfl (Nat.le_of_ble_eq_true rfl) rfl ?_
            refine E_aload_n at_X2_readItem_0 rfl ?_
            refine E_getfield (v := .int (nI a)) at_X2_readItem_1 w34 rfl (by decide) rfl ?_
            refine E_istore_n (L2 := [some (.ref 34), some (.int (nI a)), none]) at_X2_readItem_4 rfl ?_
            refine E_aload_n at_X2_readItem_5 rfl ?_
            refine E_callV (v := some (.int (nI 1))) (As := [.ref 34]) (r0 := []) (cs2 := (ww im lf s d k ls (-1) (nI n) (nI (a + 6)) rn q lt m1 m2 m3 m4 bd fc hd sz el t g fm hm so si sh ce ca td wa kp la bf oo bo pw ow tr)) at_X2_readItem_6 rfl rfl (Nat.le_of_ble_eq_true rfl) rfl (ab_rvOf w34 rfl) (w_rw1 hn ha l_lt hlt hw) (by decide) w_lens ?_
            refine E_istore_n (L2 := [some (.ref 34), some (.int (nI a)), some (.int (nI 1))]) at_X2_readItem_9 rfl ?_
            refine E_aload_n at_X2_readItem_10 rfl ?_
            refine E_getfield (v := .int (-1)) at_X2_readItem_11 w34 rfl (by decide) rfl ?_
            refine E_iconst (x := (-1)) at_X2_readItem_14 (by decide) ?_
            refine E_ic (t := 19) (b := true) at_X2_readItem_15 rfl (by decide) ?_
            refine E_iload_n at_X2_readItem_19 rfl ?_
            refine E_tsIn (off := 44) (t := 64) at_X2_readItem_20 (by decide) rfl rfl ?_
            refine E_aload_n at_X2_readItem_64 rfl ?_
            refine E_iload_n at_X2_readItem_65 rfl ?_
            have e2 : Ev ab_Z0 4 17 [.ref 34, .int (nI a)] (ww im lf s d k ls (-1) (nI n) (nI (a + 6)) rn q lt m1 m2 m3 m4 bd fc hd sz el t g fm hm so si sh ce ca td wa kp la bf oo bo pw ow tr) (none, (ww im lf s d k ls (nI (cnE e n (a + 6))) (nI n) (nI (cnE e n (a + 6))) (nI (a + 7)) q lt m1 m2 m3 m4 bd fc hd sz el t g fm hm so si sh ce ca td wa kp la bf oo bo pw ow tr)) := by
              refine Ef.in (md := mX2_readPerson) (L := [some (.ref 34), some (.int (nI a)), none, none, none]) rfl (Nat.le_of_ble_eq_true rfl) rfl ?_
              refine E_aload_n at_X2_readPerson_0 rfl ?_
              refine E_getfield (v := .ref 35) at_X2_readPerson_1 w34 rfl (by decide) rfl ?_
              have e1 : Ev ab_Z0 1 53 [.ref 35] (ww im lf s d k ls (-1) (nI n) (nI (a + 6)) rn q lt m1 m2 m3 m4 bd fc hd sz el t g fm hm so si sh ce ca td wa kp la bf oo bo pw ow tr) (some (.int (nI 1)), (ww im lf s d k ls (-1) (nI n) (nI (a + 6)) rn q lt m1 m2 m3 m4 bd fc hd sz el t g fm hm so si sh ce ca td wa kp la bf oo bo pw ow tr)) := by
                refine Ef.in (md := mX4_hasRoomForPerson) (L := [some (.ref 35)]) rfl (Nat.le_of_ble_eq_true rfl) rfl ?_
                refine E_aload_n at_X4_hasRoomForPerson_0 rfl ?_
                refine E_getfield (v := .int (nI (qM q))) at_X4_hasRoomForPerson_1 w35 rfl (by decide) rfl ?_
                refine E_bipush (x := nI 6) at_X4_hasRoomForPerson_4 (by decide) ?_
                refine E_ic (t := 13) (b := false) at_X4_hasRoomForPerson_6 rfl ((cn_ge (nI_toInt (by omega)) (nI_toInt (by omega))).trans (decide_eq_false (by omega))) ?_
                refine E_iconst (x := nI 1) at_X4_hasRoomForPerson_9 (by decide) ?_
                refine E_goto (t := 14) at_X4_hasRoomForPerson_10 rfl ?_
                exact E_iret at_X4_hasRoomForPerson_14 rfl
              refine E_callV (v := some (.int (nI 1))) (As := [.ref 35]) (r0 := []) (cs2 := (ww im lf s d k ls (-1) (nI n) (nI (a + 6)) rn q lt m1 m2 m3 m4 bd fc hd sz el t g fm hm so si sh ce ca td wa kp la bf oo bo pw ow tr)) at_X2_readPerson_4 rfl rfl (Nat.le_of_ble_eq_true rfl) rfl (ab_rvOf w35 rfl) e1 (by decide) rfl ?_
              refine E_if (t := 15) (b := true) at_X2_readPerson_7 rfl (by decide) ?_
              refine E_aload_n at_X2_readPerson_15 rfl ?_
              refine E_iconst (x := nI 0) at_X2_readPerson_16 (by decide) ?_
              refine E_bipush (x := nI 99) at_X2_readPerson_17 (by decide) ?_
              refine E_callV (v := some (.int (nI (nuV e n (a + 7))))) (As := [.ref 34, .int (nI 0), .int (nI 99)]) (r0 := []) (cs2 := (ww im lf s d k ls (-1) (nI n) (nI (cnE e n (a + 6))) (nI (a + 7)) q lt m1 m2 m3 m4 bd fc hd sz el t g fm hm so si sh ce ca td wa kp la bf oo bo pw ow tr)) at_X2_readPerson_19 rfl rfl (Nat.le_of_ble_eq_true rfl) rfl (ab_rvOf w34 rfl) (w_nuC (a := a + 6) (hi := nI 99) (by decide) hn (by omega) l_lt hlt hb0 hd0 (show 0 ≤ nuV e n (a + 7) from by omega) (show ((nuV e n (a + 7) : Nat) : Int) ≤ (nI 99).toInt from by rw [(nI_toInt (by omega) : (nI 99).toInt = ((99 : Nat) : Int))]; omega)) (by decide) w_lens ?_
              refine E_istore_n (L2 := [some (.ref 34), some (.int (nI a)), some (.int (nI (nuV e n (a + 7)))), none, none]) at_X2_readPerson_22 rfl ?_
              refine E_aload_n at_X2_readPerson_23 rfl ?_
              refine E_iconst (x := nI 0) at_X2_readPerson_24 (by decide) ?_
              refine E_bipush (x := nI 9) at_X2_readPerson_25 (by decide) ?_
              refine E_callV (v := some (.int (nI 0))) (As := [.ref 34, .int (nI 0), .int (nI 9)]) (r0 := []) (cs2 := (ww im lf s d k ls (nI (cnE e n (a + 6))) (nI n) (nI (cnE e n (a + 6))) (nI (a + 7)) q lt m1 m2 m3 m4 bd fc hd sz el t g fm hm so si sh ce ca td wa kp la bf oo bo pw ow tr)) at_X2_readPerson_27 rfl rfl (Nat.le_of_ble_eq_true rfl) rfl (ab_rvOf w34 rfl) (w_nuA (a := cnE e n (a + 6)) (hi := nI 9) (by decide) hn (by omega) l_lt hlt hb1) (by decide) w_lens ?_
              refine E_istore_n (L2 := [some (.ref 34), some (.int (nI a)), some (.int (nI (nuV e n (a + 7)))), some (.int (nI 0)), none]) at_X2_readPerson_30 rfl ?_
              refine E_aload_n at_X2_readPerson_31 rfl ?_
              refine E_iconst (x := nI 0) at_X2_readPerson_32 (by decide) ?_
              refine E_bipush (x := nI 7) at_X2_readPerson_33 (by decide) ?_
              refine E_callV (v := some (.int (nI 0))) (As := [.ref 34, .int (nI 0), .int (nI 7)]) (r0 := []) (cs2 := (ww im lf s d k ls (nI (cnE e n (a + 6))) (nI n) (nI (cnE e n (a + 6))) (nI (a + 7)) q lt m1 m2 m3 m4 bd fc hd sz el t g fm hm so si sh ce ca td wa kp la bf oo bo pw ow tr)) at_X2_readPerson_35 rfl rfl (Nat.le_of_ble_eq_true rfl) rfl (ab_rvOf w34 rfl) (w_nux (f := cnE e n (a + 6)) (by omega)) (by decide) rfl ?_
              refine E_istore (L2 := [some (.ref 34), some (.int (nI a)), some (.int (nI (nuV e n (a + 7)))), some (.int (nI 0)), some (.int (nI 0))]) at_X2_readPerson_38 rfl ?_
              refine E_aload_n at_X2_readPerson_40 rfl ?_
              refine E_getfield (v := .int (nI (cnE e n (a + 6)))) at_X2_readPerson_41 w34 rfl (by decide) rfl ?_
              refine E_iconst (x := (-1)) at_X2_readPerson_44 (by decide) ?_
              refine E_ic (t := 60) (b := true) at_X2_readPerson_45 rfl ((cn_ne (nI_toInt (by omega)) (by decide : (-1 : Int32).toInt = -1)).trans (decide_eq_true (by omega))) ?_
              exact E_vret at_X2_readPerson_60 rfl
            refine E_callV (v := none) (As := [.ref 34, .int (nI a)]) (r0 := []) (cs2 := (ww im lf s d k ls (nI (cnE e n (a + 6))) (nI n) (nI (cnE e n (a + 6))) (nI (a + 7)) q lt m1 m2 m3 m4 bd fc hd sz el t g fm hm so si sh ce ca td wa kp la bf oo bo pw ow tr)) at_X2_readItem_66 rfl rfl (Nat.le_of_ble_eq_true rfl) rfl (ab_rvOf w34 rfl) e2 (by decide) w_lens ?_
            refine E_goto (t := 110) at_X2_readItem_69 rfl ?_
            exact E_vret at_X2_readItem_110 rfl
          · rcases bo2 (dgB e n (cnE e n (a + 6) + 1)) with hd1 | hd1
            · have hz := mtc_n (e := e) (n := n) [112, 101, 114, 115, 111, 110] a ha
              have hz_ : a + mj1 e n a ≤ n := hz
              have hb0_ := (chB_t hb0).1
              have hd0_ := (dgB_t hd0).1
              have hV0 := nuV_99 hd0
              have hc0 := cnE_n hd0
              have hb1_ := (chB_t hb1).1
              have hF0 : nuF e n (a + 6) 0 100 = 0 := nuF_C hb0 hd0 (show ¬ (nuV e n (a + 7) < 0 ∨ 100 ≤ nuV e n (a + 7)) from by omega)
              have hF1 : nuF e n (cnE e n (a + 6)) 0 10 = cnE e n (a + 6) + 2 := nuF_B hb1 hd1
              have hI : itF e n q a = cnE e n (a + 6) + 2 := (it_1 (q := q) hw).1.trans (by rw [if_neg (by omega)]; unfold s3F; rw [if_pos hF0]; unfold s2F; rw [if_neg (by omega)]; exact hF1)
              refine ⟨q, (nI (cnE e n (a + 6) + 1)), (nI (cnE e n (a + 6) + 1)), (nI (a + 7)), ?_, Or.inr ⟨cnE e n (a + 6) + 1, by omega, rfl, by omega, rfl⟩⟩
              refine Ef.in (md := mX2_readItem) (L := [some (.ref 34), none, none]) rfl (Nat.le_of_ble_eq_true rfl) rfl ?_
              refine E_aload_n at_X2_readItem_0 rfl ?_
              refine E_getfield (v := .int (nI a)) at_X2_readItem_1 w34 rfl (by decide) rfl ?_
              refine E_istore_n (L2 := [some (.ref 34), some (.int (nI a)), none]) at_X2_readItem_4 rfl ?_
              refine E_aload_n at_X2_readItem_5 rfl ?_
              refine E_callV (v := some (.int (nI 1))) (As := [.ref 34]) (r0 := []) (cs2 := (ww im lf s d k ls (-1) (nI n) (nI (a + 6)) rn q lt m1 m2 m3 m4 bd fc hd sz el t g fm hm so si sh ce ca td wa kp la bf oo bo pw ow tr)) at_X2_readItem_6 rfl rfl (Nat.le_of_ble_eq_true rfl) rfl (ab_rvOf w34 rfl) (w_rw1 hn ha l_lt hlt hw) (by decide) w_lens ?_
              refine E_istore_n (L2 := [some (.ref 34), some (.int (nI a)), some (.int (nI 1))]) at_X2_readItem_9 rfl ?_
              refine E_aload_n at_X2_readItem_10 rfl ?_
              refine E_getfield (v := .int (-1)) at_X2_readItem_11 w34 rfl (by decide) rfl ?_
              refine E_iconst (x := (-1)) at_X2_readItem_14 (by decide) ?_
              refine E_ic (t := 19) (b := true) at_X2_readItem_15 rfl (by decide) ?_
              refine E_iload_n at_X2_readItem_19 rfl ?_
              refine E_tsIn (off := 44) (t := 64) at_X2_readItem_20 (by decide) rfl rfl ?_
              refine E_aload_n at_X2_readItem_64 rfl ?_
              refine E_iload_n at_X2_readItem_65 rfl ?_
              have e2 : Ev ab_Z0 4 17 [.ref 34, .int (nI a)] (ww im lf s d k ls (-1) (nI n) (nI (a + 6)) rn q lt m1 m2 m3 m4 bd fc hd sz el t g fm hm so si sh ce ca td wa kp la bf oo bo pw ow tr) (none, (ww im lf s d k ls (nI (cnE e n (a + 6) + 1)) (nI n) (nI (cnE e n (a + 6) + 1)) (nI (a + 7)) q lt m1 m2 m3 m4 bd fc hd sz el t g fm hm so si sh ce ca td wa kp la bf oo bo pw ow tr)) := by
                refine Ef.in (md := mX2_readPerson) (L := [some (.ref 34), some (.int (nI a)), none, none, none]) rfl (Nat.le_of_ble_eq_true rfl) rfl ?_
                refine E_aload_n at_X2_readPerson_0 rfl ?_
                refine E_getfield (v := .ref 35) at_X2_readPerson_1 w34 rfl (by decide) rfl ?_
                have e1 : Ev ab_Z0 1 53 [.ref 35] (ww im lf s d k ls (-1) (nI n) (nI (a + 6)) rn q lt m1 m2 m3 m4 bd fc hd sz el t g fm hm so si sh ce ca td wa kp la bf oo bo pw ow tr) (some (.int (nI 1)), (ww im lf s d k ls (-1) (nI n) (nI (a + 6)) rn q lt m1 m2 m3 m4 bd fc hd sz el t g fm hm so si sh ce ca td wa kp la bf oo bo pw ow tr)) := by
                  refine Ef.in (md := mX4_hasRoomForPerson) (L := [some (.ref 35)]) rfl (Nat.le_of_ble_eq_true rfl) rfl ?_
                  refine E_aload_n at_X4_hasRoomForPerson_0 rfl ?_
                  refine E_getfield (v := .int (nI (qM q))) at_X4_hasRoomForPerson_1 w35 rfl (by decide) rfl ?_
                  refine E_bipush (x := nI 6) at_X4_hasRoomForPerson_4 (by decide) ?_
                  refine E_ic (t := 13) (b := false) at_X4_hasRoomForPerson_6 rfl ((cn_ge (nI_toInt (by omega)) (nI_toInt (by omega))).trans (decide_eq_false (by omega))) ?_
                  refine E_iconst (x := nI 1) at_X4_hasRoomForPerson_9 (by decide) ?_
                  refine E_goto (t := 14) at_X4_hasRoomForPerson_10 rfl ?_
                  exact E_iret at_X4_hasRoomForPerson_14 rfl
                refine E_callV (v := some (.int (nI 1))) (As := [.ref 35]) (r0 := []) (cs2 := (ww im lf s d k ls (-1) (nI n) (nI (a + 6)) rn q lt m1 m2 m3 m4 bd fc hd sz el t g fm hm so si sh ce ca td wa kp la bf oo bo pw ow tr)) at_X2_readPerson_4 rfl rfl (Nat.le_of_ble_eq_true rfl) rfl (ab_rvOf w35 rfl) e1 (by decide) rfl ?_
                refine E_if (t := 15) (b := true) at_X2_readPerson_7 rfl (by decide) ?_
                refine E_aload_n at_X2_readPerson_15 rfl ?_
                refine E_iconst (x := nI 0) at_X2_readPerson_16 (by decide) ?_
                refine E_bipush (x := nI 99) at_X2_readPerson_17 (by decide) ?_
                refine E_callV (v := some (.int (nI (nuV e n (a + 7))))) (As := [.ref 34, .int (nI 0), .int (nI 99)]) (r0 := []) (cs2 := (ww im lf s d k ls (-1) (nI n) (nI (cnE e n (a + 6))) (nI (a + 7)) q lt m1 m2 m3 m4 bd fc hd sz el t g fm hm so si sh ce ca td wa kp la bf oo bo pw ow tr)) at_X2_readPerson_19 rfl rfl (Nat.le_of_ble_eq_true rfl) rfl (ab_rvOf w34 rfl) (w_nuC (a := a + 6) (hi := nI 99) (by decide) hn (by omega) l_lt hlt hb0 hd0 (show 0 ≤ nuV e n (a + 7) from by omega) (show ((nuV e n (a + 7) : Nat) : Int) ≤ (nI 99).toInt from by rw [(nI_toInt (by omega) : (nI 99).toInt = ((99 : Nat) : Int))]; omega)) (by decide) w_lens ?_
                refine E_istore_n (L2 := [some (.ref 34), some (.int (nI a)), some (.int (nI (nuV e n (a + 7)))), none, none]) at_X2_readPerson_22 rfl ?_
                refine E_aload_n at_X2_readPerson_23 rfl ?_
                refine E_iconst (x := nI 0) at_X2_readPerson_24 (by decide) ?_
                refine E_bipush (x := nI 9) at_X2_readPerson_25 (by decide) ?_
                refine E_callV (v := some (.int (nI 0))) (As := [.ref 34, .int (nI 0), .int (nI 9)]) (r0 := []) (cs2 := (ww im lf s d k ls (nI (cnE e n (a + 6) + 1)) (nI n) (nI (cnE e n (a + 6) + 1)) (nI (a + 7)) q lt m1 m2 m3 m4 bd fc hd sz el t g fm hm so si sh ce ca td wa kp la bf oo bo pw ow tr)) at_X2_readPerson_27 rfl rfl (Nat.le_of_ble_eq_true rfl) rfl (ab_rvOf w34 rfl) (w_nuB (a := cnE e n (a + 6)) (hi := nI 9) (by decide) hn (by omega) l_lt hlt hb1 hd1) (by decide) w_lens ?_
                refine E_istore_n (L2 := [some (.ref 34), some (.int (nI a)), some (.int (nI (nuV e n (a + 7)))), some (.int (nI 0)), none]) at_X2_readPerson_30 rfl ?_
                refine E_aload_n at_X2_readPerson_31 rfl ?_
                refine E_iconst (x := nI 0) at_X2_readPerson_32 (by decide) ?_
                refine E_bipush (x := nI 7) at_X2_readPerson_33 (by decide) ?_
                refine E_callV (v := some (.int (nI 0))) (As := [.ref 34, .int (nI 0), .int (nI 7)]) (r0 := []) (cs2 := (ww im lf s d k ls (nI (cnE e n (a + 6) + 1)) (nI n) (nI (cnE e n (a + 6) + 1)) (nI (a + 7)) q lt m1 m2 m3 m4 bd fc hd sz el t g fm hm so si sh ce ca td wa kp la bf oo bo pw ow tr)) at_X2_readPerson_35 rfl rfl (Nat.le_of_ble_eq_true rfl) rfl (ab_rvOf w34 rfl) (w_nux (f := cnE e n (a + 6) + 1) (by omega)) (by decide) rfl ?_
                refine E_istore (L2 := [some (.ref 34), some (.int (nI a)), some (.int (nI (nuV e n (a + 7)))), some (.int (nI 0)), some (.int (nI 0))]) at_X2_readPerson_38 rfl ?_
                refine E_aload_n at_X2_readPerson_40 rfl ?_
                refine E_getfield (v := .int (nI (cnE e n (a + 6) + 1))) at_X2_readPerson_41 w34 rfl (by decide) rfl ?_
                refine E_iconst (x := (-1)) at_X2_readPerson_44 (by decide) ?_
                refine E_ic (t := 60) (b := true) at_X2_readPerson_45 rfl ((cn_ne (nI_toInt (by omega)) (by decide : (-1 : Int32).toInt = -1)).trans (decide_eq_true (by omega))) ?_
                exact E_vret at_X2_readPerson_60 rfl
              refine E_callV (v := none) (As := [.ref 34, .int (nI a)]) (r0 := []) (cs2 := (ww im lf s d k ls (nI (cnE e n (a + 6) + 1)) (nI n) (nI (cnE e n (a + 6) + 1)) (nI (a + 7)) q lt m1 m2 m3 m4 bd fc hd sz el t g fm hm so si sh ce ca td wa kp la bf oo bo pw ow tr)) at_X2_readItem_66 rfl rfl (Nat.le_of_ble_eq_true rfl) rfl (ab_rvOf w34 rfl) e2 (by decide) w_lens ?_
              refine E_goto (t := 110) at_X2_readItem_69 rfl ?_
              exact E_vret at_X2_readItem_110 rfl
            · rcases Nat.lt_or_ge (nuV e n (cnE e n (a + 6) + 1)) (10) with hr1 | hr1
              · rcases bo2 (chB e n (cnE e n (cnE e n (a + 6))) 32) with hb2 | hb2
                · have hz := mtc_n (e := e) (n := n) [112, 101, 114, 115, 111, 110] a ha
                  have hz_ : a + mj1 e n a ≤ n := hz
                  have hb0_ := (chB_t hb0).1
                  have hd0_ := (dgB_t hd0).1
                  have hV0 := nuV_99 hd0
                  have hc0 := cnE_n hd0
                  have hb1_ := (chB_t hb1).1
                  have hd1_ := (dgB_t hd1).1
                  have hV1 := nuV_99 hd1
                  have hc1 := cnE_n hd1
                  have hF0 : nuF e n (a + 6) 0 100 = 0 := nuF_C hb0 hd0 (show ¬ (nuV e n (a + 7) < 0 ∨ 100 ≤ nuV e n (a + 7)) from by omega)
                  have hF1 : nuF e n (cnE e n (a + 6)) 0 10 = 0 := nuF_C hb1 hd1 (show ¬ (nuV e n (cnE e n (a + 6) + 1) < 0 ∨ 10 ≤ nuV e n (cnE e n (a + 6) + 1)) from by omega)
                  have hF2 : nuF e n (cnE e n (cnE e n (a + 6))) 0 8 = cnE e n (cnE e n (a + 6)) + 1 := nuF_A hb2
                  have hI : itF e n q a = cnE e n (cnE e n (a + 6)) + 1 := (it_1 (q := q) hw).1.trans (by rw [if_neg (by omega)]; unfold s3F; rw [if_pos hF0]; unfold s2F; rw [if_pos hF1]; exact hF2)
                  refine ⟨q, (nI (cnE e n (cnE e n (a + 6)))), (nI (cnE e n (cnE e n (a + 6)))), (nI (cnE e n (a + 6) + 1)), ?_, Or.inr ⟨cnE e n (cnE e n (a + 6)), by omega, rfl, by omega, rfl⟩⟩
                  refine Ef.in (md := mX2_readItem) (L := [some (.ref 34), none, none]) rfl (Nat.le_of_ble_eq_true rfl) rfl ?_
                  refine E_aload_n at_X2_readItem_0 rfl ?_
                  refine E_getfield (v := .int (nI a)) at_X2_readItem_1 w34 rfl (by decide) rfl ?_
                  refine E_istore_n (L2 := [some (.ref 34), some (.int (nI a)), none]) at_X2_readItem_4 rfl ?_
                  refine E_aload_n at_X2_readItem_5 rfl ?_
                  refine E_callV (v := some (.int (nI 1))) (As := [.ref 34]) (r0 := []) (cs2 := (ww im lf s d k ls (-1) (nI n) (nI (a + 6)) rn q lt m1 m2 m3 m4 bd fc hd sz el t g fm hm so si sh ce ca td wa kp la bf oo bo pw ow tr)) at_X2_readItem_6 rfl rfl (Nat.le_of_ble_eq_true rfl) rfl (ab_rvOf w34 rfl) (w_rw1 hn ha l_lt hlt hw) (by decide) w_lens ?_
                  refine E_istore_n (L2 := [some (.ref 34), some (.int (nI a)), some (.int (nI 1))]) at_X2_readItem_9 rfl ?_
                  refine E_aload_n at_X2_readItem_10 rfl ?_
                  refine E_getfield (v := .int (-1)) at_X2_readItem_11 w34 rfl (by decide) rfl ?_
                  refine E_iconst (x := (-1)) at_X2_readItem_14 (by decide) ?_
                  refine E_ic (t := 19) (b := true) at_X2_readItem_15 rfl (by decide) ?_
                  refine E_iload_n at_X2_readItem_19 rfl ?_
                  refine E_tsIn (off := 44) (t := 64) at_X2_readItem_20 (by decide) rfl rfl ?_
                  refine E_aload_n at_X2_readItem_64 rfl ?_
                  refine E_iload_n at_X2_readItem_65 rfl ?_
                  have e2 : Ev ab_Z0 4 17 [.ref 34, .int (nI a)] (ww im lf s d k ls (-1) (nI n) (nI (a + 6)) rn q lt m1 m2 m3 m4 bd fc hd sz el t g fm hm so si sh ce ca td wa kp la bf oo bo pw ow tr) (none, (ww im lf s d k ls (nI (cnE e n (cnE e n (a + 6)))) (nI n) (nI (cnE e n (cnE e n (a + 6)))) (nI (cnE e n (a + 6) + 1)) q lt m1 m2 m3 m4 bd fc hd sz el t g fm hm so si sh ce ca td wa kp la bf oo bo pw ow tr)) := by
                    refine Ef.in (md := mX2_readPerson) (L := [some (.ref 34), some (.int (nI a)), none, none, none]) rfl (Nat.le_of_ble_eq_true rfl) rfl ?_
                    refine E_aload_n at_X2_readPerson_0 rfl ?_
                    refine E_getfield (v := .ref 35) at_X2_readPerson_1 w34 rfl (by decide) rfl ?_
                    have e1 : Ev ab_Z0 1 53 [.ref 35] (ww im lf s d k ls (-1) (nI n) (nI (a + 6)) rn q lt m1 m2 m3 m4 bd fc hd sz el t g fm hm so si sh ce ca td wa kp la bf oo bo pw ow tr) (some (.int (nI 1)), (ww im lf s d k ls (-1) (nI n) (nI (a + 6)) rn q lt m1 m2 m3 m4 bd fc hd sz el t g fm hm so si sh ce ca td wa kp la bf oo bo pw ow tr)) := by
                      refine Ef.in (md := mX4_hasRoomForPerson) (L := [some (.ref 35)]) rfl (Nat.le_of_ble_eq_true rfl) rfl ?_
                      refine E_aload_n at_X4_hasRoomForPerson_0 rfl ?_
                      refine E_getfield (v := .int (nI (qM q))) at_X4_hasRoomForPerson_1 w35 rfl (by decide) rfl ?_
                      refine E_bipush (x := nI 6) at_X4_hasRoomForPerson_4 (by decide) ?_
                      refine E_ic (t := 13) (b := false) at_X4_hasRoomForPerson_6 rfl ((cn_ge (nI_toInt (by omega)) (nI_toInt (by omega))).trans (decide_eq_false (by omega))) ?_
                      refine E_iconst (x := nI 1) at_X4_hasRoomForPerson_9 (by decide) ?_
                      refine E_goto (t := 14) at_X4_hasRoomForPerson_10 rfl ?_
                      exact E_iret at_X4_hasRoomForPerson_14 rfl
                    refine E_callV (v := some (.int (nI 1))) (As := [.ref 35]) (r0 := []) (cs2 := (ww im lf s d k ls (-1) (nI n) (nI (a + 6)) rn q lt m1 m2 m3 m4 bd fc hd sz el t g fm hm so si sh ce ca td wa kp la bf oo bo pw ow tr)) at_X2_readPerson_4 rfl rfl (Nat.le_of_ble_eq_true rfl) rfl (ab_rvOf w35 rfl) e1 (by decide) rfl ?_
                    refine E_if (t := 15) (b := true) at_X2_readPerson_7 rfl (by decide) ?_
                    refine E_aload_n at_X2_readPerson_15 rfl ?_
                    refine E_iconst (x := nI 0) at_X2_readPerson_16 (by decide) ?_
                    refine E_bipush (x := nI 99) at_X2_readPerson_17 (by decide) ?_
                    refine E_callV (v := some (.int (nI (nuV e n (a + 7))))) (As := [.ref 34, .int (nI 0), .int (nI 99)]) (r0 := []) (cs2 := (ww im lf s d k ls (-1) (nI n) (nI (cnE e n (a + 6))) (nI (a + 7)) q lt m1 m2 m3 m4 bd fc hd sz el t g fm hm so si sh ce ca td wa kp la bf oo bo pw ow tr)) at_X2_readPerson_19 rfl rfl (Nat.le_of_ble_eq_true rfl) rfl (ab_rvOf w34 rfl) (w_nuC (a := a + 6) (hi := nI 99) (by decide) hn (by omega) l_lt hlt hb0 hd0 (show 0 ≤ nuV e n (a + 7) from by omega) (show ((nuV e n (a + 7) : Nat) : Int) ≤ (nI 99).toInt from by rw [(nI_toInt (by omega) : (nI 99).toInt = ((99 : Nat) : Int))]; omega)) (by decide) w_lens ?_
                    refine E_istore_n (L2 := [some (.ref 34), some (.int (nI a)), some (.int (nI (nuV e n (a + 7)))), none, none]) at_X2_readPerson_22 rfl ?_
                    refine E_aload_n at_X2_readPerson_23 rfl ?_
                    refine E_iconst (x := nI 0) at_X2_readPerson_24 (by decide) ?_
                    refine E_bipush (x := nI 9) at_X2_readPerson_25 (by decide) ?_
                    refine E_callV (v := some (.int (nI (nuV e n (cnE e n (a + 6) + 1))))) (As := [.ref 34, .int (nI 0), .int (nI 9)]) (r0 := []) (cs2 := (ww im lf s d k ls (-1) (nI n) (nI (cnE e n (cnE e n (a + 6)))) (nI (cnE e n (a + 6) + 1)) q lt m1 m2 m3 m4 bd fc hd sz el t g fm hm so si sh ce ca td wa kp la bf oo bo pw ow tr)) at_X2_readPerson_27 rfl rfl (Nat.le_of_ble_eq_true rfl) rfl (ab_rvOf w34 rfl) (w_nuC (a := cnE e n (a + 6)) (hi := nI 9) (by decide) hn (by omega) l_lt hlt hb1 hd1 (show 0 ≤ nuV e n (cnE e n (a + 6) + 1) from by omega) (show ((nuV e n (cnE e n (a + 6) + 1) : Nat) : Int) ≤ (nI 9).toInt from by rw [(nI_toInt (by omega) : (nI 9).toInt = ((9 : Nat) : Int))]; omega)) (by decide) w_lens ?_
                    refine E_istore_n (L2 := [some (.ref 34), some (.int (nI a)), some (.int (nI (nuV e n (a + 7)))), some (.int (nI (nuV e n (cnE e n (a + 6) + 1)))), none]) at_X2_readPerson_30 rfl ?_
                    refine E_aload_n at_X2_readPerson_31 rfl ?_
                    refine E_iconst (x := nI 0) at_X2_readPerson_32 (by decide) ?_
                    refine E_bipush (x := nI 7) at_X2_readPerson_33 (by decide) ?_
                    refine E_callV (v := some (.int (nI 0))) (As := [.ref 34, .int (nI 0), .int (nI 7)]) (r0 := []) (cs2 := (ww im lf s d k ls (nI (cnE e n (cnE e n (a + 6)))) (nI n) (nI (cnE e n (cnE e n (a + 6)))) (nI (cnE e n (a + 6) + 1)) q lt m1 m2 m3 m4 bd fc hd sz el t g fm hm so si sh ce ca td wa kp la bf oo bo pw ow tr)) at_X2_readPerson_35 rfl rfl (Nat.le_of_ble_eq_true rfl) rfl (ab_rvOf w34 rfl) (w_nuA (a := cnE e n (cnE e n (a + 6))) (hi := nI 7) (by decide) hn (by omega) l_lt hlt hb2) (by decide) w_lens ?_
                    refine E_istore (L2 := [some (.ref 34), some (.int (nI a)), some (.int (nI (nuV e n (a + 7)))), some (.int (nI (nuV e n (cnE e n (a + 6) + 1)))), some (.int (nI 0))]) at_X2_readPerson_38 rfl ?_
                    refine E_aload_n at_X2_readPerson_40 rfl ?_
                    refine E_getfield (v := .int (nI (cnE e n (cnE e n (a + 6))))) at_X2_readPerson_41 w34 rfl (by decide) rfl ?_
                    refine E_iconst (x := (-1)) at_X2_readPerson_44 (by decide) ?_
                    refine E_ic (t := 60) (b := true) at_X2_readPerson_45 rfl ((cn_ne (nI_toInt (by omega)) (by decide : (-1 : Int32).toInt = -1)).trans (decide_eq_true (by omega))) ?_
                    exact E_vret at_X2_readPerson_60 rfl
                  refine E_callV (v := none) (As := [.ref 34, .int (nI a)]) (r0 := []) (cs2 := (ww im lf s d k ls (nI (cnE e n (cnE e n (a + 6)))) (nI n) (nI (cnE e n (cnE e n (a + 6)))) (nI (cnE e n (a + 6) + 1)) q lt m1 m2 m3 m4 bd fc hd sz el t g fm hm so si sh ce ca td wa kp la bf oo bo pw ow tr)) at_X2_readItem_66 rfl rfl (Nat.le_of_ble_eq_true rfl) rfl (ab_rvOf w34 rfl) e2 (by decide) w_lens ?_
                  refine E_goto (t := 110) at_X2_readItem_69 rfl ?_
                  exact E_vret at_X2_readItem_110 rfl
                · rcases bo2 (dgB e n (cnE e n (cnE e n (a + 6)) + 1)) with hd2 | hd2
                  · have hz := mtc_n (e := e) (n := n) [112, 101, 114, 115, 111, 110] a ha
                    have hz_ : a + mj1 e n a ≤ n := hz
                    have hb0_ := (chB_t hb0).1
                    have hd0_ := (dgB_t hd0).1
                    have hV0 := nuV_99 hd0
                    have hc0 := cnE_n hd0
                    have hb1_ := (chB_t hb1).1
                    have hd1_ := (dgB_t hd1).1
                    have hV1 := nuV_99 hd1
                    have hc1 := cnE_n hd1
                    have hb2_ := (chB_t hb2).1
                    have hF0 : nuF e n (a + 6) 0 100 = 0 := nuF_C hb0 hd0 (show ¬ (nuV e n (a + 7) < 0 ∨ 100 ≤ nuV e n (a + 7)) from by omega)
                    have hF1 : nuF e n (cnE e n (a + 6)) 0 10 = 0 := nuF_C hb1 hd1 (show ¬ (nuV e n (cnE e n (a + 6) + 1) < 0 ∨ 10 ≤ nuV e n (cnE e n (a + 6) + 1)) from by omega)
                    have hF2 : nuF e n (cnE e n (cnE e n (a + 6))) 0 8 = cnE e n (cnE e n (a + 6)) + 2 := nuF_B hb2 hd2
                    have hI : itF e n q a = cnE e n (cnE e n (a + 6)) + 2 := (it_1 (q := q) hw).1.trans (by rw [if_neg (by omega)]; unfold s3F; rw [if_pos hF0]; unfold s2F; rw [if_pos hF1]; exact hF2)
                    refine ⟨q, (nI (cnE e n (cnE e n (a + 6)) + 1)), (nI (cnE e n (cnE e n (a + 6)) + 1)), (nI (cnE e n (a + 6) + 1)), ?_, Or.inr ⟨cnE e n (cnE e n (a + 6)) + 1, by omega, rfl, by omega, rfl⟩⟩
                    refine Ef.in (md := mX2_readItem) (L := [some (.ref 34), none, none]) rfl (Nat.le_of_ble_eq_true rfl) rfl ?_
                    refine E_aload_n at_X2_readItem_0 rfl ?_
                    refine E_getfield (v := .int (nI a)) at_X2_readItem_1 w34 rfl (by decide) rfl ?_
                    refine E_istore_n (L2 := [some (.ref 34), some (.int (nI a)), none]) at_X2_readItem_4 rfl ?_
                    refine E_aload_n at_X2_readItem_5 rfl ?_
                    refine E_callV (v := some (.int (nI 1))) (As := [.ref 34]) (r0 := []) (cs2 := (ww im lf s d k ls (-1) (nI n) (nI (a + 6)) rn q lt m1 m2 m3 m4 bd fc hd sz el t g fm hm so si sh ce ca td wa kp la bf oo bo pw ow tr)) at_X2_readItem_6 rfl rfl (Nat.le_of_ble_eq_true rfl) rfl (ab_rvOf w34 rfl) (w_rw1 hn ha l_lt hlt hw) (by decide) w_lens ?_
                    refine E_istore_n (L2 := [some (.ref 34), some (.int (nI a)), some (.int (nI 1))]) at_X2_readItem_9 rfl ?_
                    refine E_aload_n at_X2_readItem_10 rfl ?_
                    refine E_getfield (v := .int (-1)) at_X2_readItem_11 w34 rfl (by decide) rfl ?_
                    refine E_iconst (x := (-1)) at_X2_readItem_14 (by decide) ?_
                    refine E_ic (t := 19) (b := true) at_X2_readItem_15 rfl (by decide) ?_
                    refine E_iload_n at_X2_readItem_19 rfl ?_
                    refine E_tsIn (off := 44) (t := 64) at_X2_readItem_20 (by decide) rfl rfl ?_
                    refine E_aload_n at_X2_readItem_64 rfl ?_
                    refine E_iload_n at_X2_readItem_65 rfl ?_
                    have e2 : Ev ab_Z0 4 17 [.ref 34, .int (nI a)] (ww im lf s d k ls (-1) (nI n) (nI (a + 6)) rn q lt m1 m2 m3 m4 bd fc hd sz el t g fm hm so si sh ce ca td wa kp la bf oo bo pw ow tr) (none, (ww im lf s d k ls (nI (cnE e n (cnE e n (a + 6)) + 1)) (nI n) (nI (cnE e n (cnE e n (a + 6)) + 1)) (nI (cnE e n (a + 6) + 1)) q lt m1 m2 m3 m4 bd fc hd sz el t g fm hm so si sh ce ca td wa kp la bf oo bo pw ow tr)) := by
                      refine Ef.in (md := mX2_readPerson) (L := [some (.ref 34), some (.int (nI a)), none, none, none]) rfl (Nat.le_of_ble_eq_true rfl) rfl ?_
                      refine E_aload_n at_X2_readPerson_0 rfl ?_
                      refine E_getfield (v := .ref 35) at_X2_readPerson_1 w34 rfl (by decide) rfl ?_
                      have e1 : Ev ab_Z0 1 53 [.ref 35] (ww im lf s d k ls (-1) (nI n) (nI (a + 6)) rn q lt m1 m2 m3 m4 bd fc hd sz el t g fm hm so si sh ce ca td wa kp la bf oo bo pw ow tr) (some (.int (nI 1)), (ww im lf s d k ls (-1) (nI n) (nI (a + 6)) rn q lt m1 m2 m3 m4 bd fc hd sz el t g fm hm so si sh ce ca td wa kp la bf oo bo pw ow tr)) := by
                        refine Ef.in (md := mX4_hasRoomForPerson) (L := [some (.ref 35)]) rfl (Nat.le_of_ble_eq_true rfl) rfl ?_
                        refine E_aload_n at_X4_hasRoomForPerson_0 rfl ?_
                        refine E_getfield (v := .int (nI (qM q))) at_X4_hasRoomForPerson_1 w35 rfl (by decide) rfl ?_
                        refine E_bipush (x := nI 6) at_X4_hasRoomForPerson_4 (by decide) ?_
                        refine E_ic (t := 13) (b := false) at_X4_hasRoomForPerson_6 rfl ((cn_ge (nI_toInt (by omega)) (nI_toInt (by omega))).trans (decide_eq_false (by omega))) ?_
                        refine E_iconst (x := nI 1) at_X4_hasRoomForPerson_9 (by decide) ?_
                        refine E_goto (t := 14) at_X4_hasRoomForPerson_10 rfl ?_
                        exact E_iret at_X4_hasRoomForPerson_14 rfl
                      refine E_callV (v := some (.int (nI 1))) (As := [.ref 35]) (r0 := []) (cs2 := (ww im lf s d k ls (-1) (nI n) (nI (a + 6)) rn q lt m1 m2 m3 m4 bd fc hd sz el t g fm hm so si sh ce ca td wa kp la bf oo bo pw ow tr)) at_X2_readPerson_4 rfl rfl (Nat.le_of_ble_eq_true rfl) rfl (ab_rvOf w35 rfl) e1 (by decide) rfl ?_
                      refine E_if (t := 15) (b := true) at_X2_readPerson_7 rfl (by decide) ?_
                      refine E_aload_n at_X2_readPerson_15 rfl ?_
                      refine E_iconst (x := nI 0) at_X2_readPerson_16 (by decide) ?_
                      refine E_bipush (x := nI 99) at_X2_readPerson_17 (by decide) ?_
                      refine E_callV (v := some (.int (nI (nuV e n (a + 7))))) (As := [.ref 34, .int (nI 0), .int (nI 99)]) (r0 := []) (cs2 := (ww im lf s d k ls (-1) (nI n) (nI (cnE e n (a + 6))) (nI (a + 7)) q lt m1 m2 m3 m4 bd fc hd sz el t g fm hm so si sh ce ca td wa kp la bf oo bo pw ow tr)) at_X2_readPerson_19 rfl rfl (Nat.le_of_ble_eq_true rfl) rfl (ab_rvOf w34 rfl) (w_nuC (a := a + 6) (hi := nI 99) (by decide) hn (by omega) l_lt hlt hb0 hd0 (show 0 ≤ nuV e n (a + 7) from by omega) (show ((nuV e n (a + 7) : Nat) : Int) ≤ (nI 99).toInt from by rw [(nI_toInt (by omega) : (nI 99).toInt = ((99 : Nat) : Int))]; omega)) (by decide) w_lens ?_
                      refine E_istore_n (L2 := [some (.ref 34), some (.int (nI a)), some (.int (nI (nuV e n (a + 7)))), none, none]) at_X2_readPerson_22 rfl ?_
                      refine E_aload_n at_X2_readPerson_23 rfl ?_
                      refine E_iconst (x := nI 0) at_X2_readPerson_24 (by decide) ?_
                      refine E_bipush (x := nI 9) at_X2_readPerson_25 (by decide) ?_
                      refine E_callV (v := some (.int (nI (nuV e n (cnE e n (a + 6) + 1))))) (As := [.ref 34, .int (nI 0), .int (nI 9)]) (r0 := []) (cs2 := (ww im lf s d k ls (-1) (nI n) (nI (cnE e n (cnE e n (a + 6)))) (nI (cnE e n (a + 6) + 1)) q lt m1 m2 m3 m4 bd fc hd sz el t g fm hm so si sh ce ca td wa kp la bf oo bo pw ow tr)) at_X2_readPerson_27 rfl rfl (Nat.le_of_ble_eq_true rfl) rfl (ab_rvOf w34 rfl) (w_nuC (a := cnE e n (a + 6)) (hi := nI 9) (by decide) hn (by omega) l_lt hlt hb1 hd1 (show 0 ≤ nuV e n (cnE e n (a + 6) + 1) from by omega) (show ((nuV e n (cnE e n (a + 6) + 1) : Nat) : Int) ≤ (nI 9).toInt from by rw [(nI_toInt (by omega) : (nI 9).toInt = ((9 : Nat) : Int))]; omega)) (by decide) w_lens ?_
                      refine E_istore_n (L2 := [some (.ref 34), some (.int (nI a)), some (.int (nI (nuV e n (a + 7)))), some (.int (nI (nuV e n (cnE e n (a + 6) + 1)))), none]) at_X2_readPerson_30 rfl ?_
                      refine E_aload_n at_X2_readPerson_31 rfl ?_
                      refine E_iconst (x := nI 0) at_X2_readPerson_32 (by decide) ?_
                      refine E_bipush (x := nI 7) at_X2_readPerson_33 (by decide) ?_
                      refine E_callV (v := some (.int (nI 0))) (As := [.ref 34, .int (nI 0), .int (nI 7)]) (r0 := []) (cs2 := (ww im lf s d k ls (nI (cnE e n (cnE e n (a + 6)) + 1)) (nI n) (nI (cnE e n (cnE e n (a + 6)) + 1)) (nI (cnE e n (a + 6) + 1)) q lt m1 m2 m3 m4 bd fc hd sz el t g fm hm so si sh ce ca td wa kp la bf oo bo pw ow tr)) at_X2_readPerson_35 rfl rfl (Nat.le_of_ble_eq_true rfl) rfl (ab_rvOf w34 rfl) (w_nuB (a := cnE e n (cnE e n (a + 6))) (hi := nI 7) (by decide) hn (by omega) l_lt hlt hb2 hd2) (by decide) w_lens ?_
                      refine E_istore (L2 := [some (.ref 34), some (.int (nI a)), some (.int (nI (nuV e n (a + 7)))), some (.int (nI (nuV e n (cnE e n (a + 6) + 1)))), some (.int (nI 0))]) at_X2_readPerson_38 rfl ?_
                      refine E_aload_n at_X2_readPerson_40 rfl ?_
                      refine E_getfield (v := .int (nI (cnE e n (cnE e n (a + 6)) + 1))) at_X2_readPerson_41 w34 rfl (by decide) rfl ?_
                      refine E_iconst (x := (-1)) at_X2_readPerson_44 (by decide) ?_
                      refine E_ic (t := 60) (b := true) at_X2_readPerson_45 rfl ((cn_ne (nI_toInt (by omega)) (by decide : (-1 : Int32).toInt = -1)).trans (decide_eq_true (by omega))) ?_
                      exact E_vret at_X2_readPerson_60 rfl
                    refine E_callV (v := none) (As := [.ref 34, .int (nI a)]) (r0 := []) (cs2 := (ww im lf s d k ls (nI (cnE e n (cnE e n (a + 6)) + 1)) (nI n) (nI (cnE e n (cnE e n (a + 6)) + 1)) (nI (cnE e n (a + 6) + 1)) q lt m1 m2 m3 m4 bd fc hd sz el t g fm hm so si sh ce ca td wa kp la bf oo bo pw ow tr)) at_X2_readItem_66 rfl rfl (Nat.le_of_ble_eq_true rfl) rfl (ab_rvOf w34 rfl) e2 (by decide) w_lens ?_
                    refine E_goto (t := 110) at_X2_readItem_69 rfl ?_
                    exact E_vret at_X2_readItem_110 rfl
                  · rcases Nat.lt_or_ge (nuV e n (cnE e n (cnE e n (a + 6)) + 1)) (8) with hr2 | hr2
                    · have hz := mtc_n (e := e) (n := n) [112, 101, 114, 115, 111, 110] a ha
                      have hz_ : a + mj1 e n a ≤ n := hz
                      have hb0_ := (chB_t hb0).1
                      have hd0_ := (dgB_t hd0).1
                      have hV0 := nuV_99 hd0
                      have hc0 := cnE_n hd0
                      have hb1_ := (chB_t hb1).1
                      have hd1_ := (dgB_t hd1).1
                      have hV1 := nuV_99 hd1
                      have hc1 := cnE_n hd1
                      have hb2_ := (chB_t hb2).1
                      have hd2_ := (dgB_t hd2).1
                      have hV2 := nuV_99 hd2
                      have hc2 := cnE_n hd2
                      have : (qU q).length = 6 := by first | omega | (simp only [List.length_set]; omega)
                      have : (qL q).length = 6 := by first | omega | (simp only [List.length_set]; omega)
                      have : (qW q).length = 6 := by first | omega | (simp only [List.length_set]; omega)
                      have : (qG q).length = 6 := by first | omega | (simp only [List.length_set]; omega)
                      have hF0 : nuF e n (a + 6) 0 100 = 0 := nuF_C hb0 hd0 (show ¬ (nuV e n (a + 7) < 0 ∨ 100 ≤ nuV e n (a + 7)) from by omega)
                      have hF1 : nuF e n (cnE e n (a + 6)) 0 10 = 0 := nuF_C hb1 hd1 (show ¬ (nuV e n (cnE e n (a + 6) + 1) < 0 ∨ 10 ≤ nuV e n (cnE e n (a + 6) + 1)) from by omega)
                      have hF2 : nuF e n (cnE e n (cnE e n (a + 6))) 0 8 = 0 := nuF_C hb2 hd2 (show ¬ (nuV e n (cnE e n (cnE e n (a + 6)) + 1) < 0 ∨ 8 ≤ nuV e n (cnE e n (cnE e n (a + 6)) + 1)) from by omega)
                      have hI : itF e n q a = 0 := (it_1 (q := q) hw).1.trans (by rw [if_neg (by omega)]; unfold s3F; rw [if_pos hF0]; unfold s2F; rw [if_pos hF1]; exact hF2)
                      have hE : itA e n a = cnE e n (cnE e n (cnE e n (a + 6))) := (it_1 (q := q) hw).2.2
                      refine ⟨(qs_M (qs_G (qs_W (qs_L (qs_U q ((qU q).set (qM q) (nuV e n (a + 7)))) ((qL q).set (qM q) (nuV e n (cnE e n (a + 6) + 1)))) ((qW q).set (qM q) (nuV e n (cnE e n (cnE e n (a + 6)) + 1)))) ((qG q).set (qM q) (nI 0))) ((qM q) + 1)), (-1), (nI (cnE e n (cnE e n (cnE e n (a + 6))))), (nI (cnE e n (cnE e n (a + 6)) + 1)), ?_, Or.inl ⟨hI, (it_1 (q := q) hw).2.1.symm, by rw [hE], rfl, by omega, by omega, (qI_addM Iq (by omega) (by omega) (by omega) (by omega)), Nat.le_refl _⟩⟩
                      refine Ef.in (md := mX2_readItem) (L := [some (.ref 34), none, none]) rfl (Nat.le_of_ble_eq_true rfl) rfl ?_
                      refine E_aload_n at_X2_readItem_0 rfl ?_
                      refine E_getfield (v := .int (nI a)) at_X2_readItem_1 w34 rfl (by decide) rfl ?_
                      refine E_istore_n (L2 := [some (.ref 34), some (.int (nI a)), none]) at_X2_readItem_4 rfl ?_
                      refine E_aload_n at_X2_readItem_5 rfl ?_
                      refine E_callV (v := some (.int (nI 1))) (As := [.ref 34]) (r0 := []) (cs2 := (ww im lf s d k ls (-1) (nI n) (nI (a + 6)) rn q lt m1 m2 m3 m4 bd fc hd sz el t g fm hm so si sh ce ca td wa kp la bf oo bo pw ow tr)) at_X2_readItem_6 rfl rfl (Nat.le_of_ble_eq_true rfl) rfl (ab_rvOf w34 rfl) (w_rw1 hn ha l_lt hlt hw) (by decide) w_lens ?_
                      refine E_istore_n (L2 := [some (.ref 34), some (.int (nI a)), some (.int (nI 1))]) at_X2_readItem_9 rfl ?_
                      refine E_aload_n at_X2_readItem_10 rfl ?_
                      refine E_getfield (v := .int (-1)) at_X2_readItem_11 w34 rfl (by decide) rfl ?_
                      refine E_iconst (x := (-1)) at_X2_readItem_14 (by decide) ?_
                      refine E_ic (t := 19) (b := true) at_X2_readItem_15 rfl (by decide) ?_
                      refine E_iload_n at_X2_readItem_19 rfl ?_
                      refine E_tsIn (off := 44) (t := 64) at_X2_readItem_20 (by decide) rfl rfl ?_
                      refine E_aload_n at_X2_readItem_64 rfl ?_
                      refine E_iload_n at_X2_readItem_65 rfl ?_
                      have e4 : Ev ab_Z0 4 17 [.ref 34, .int (nI a)] (ww im lf s d k ls (-1) (nI n) (nI (a + 6)) rn q lt m1 m2 m3 m4 bd fc hd sz el t g fm hm so si sh ce ca td wa kp la bf oo bo pw ow tr) (none, (ww im lf s d k ls (-1) (nI n) (nI (cnE e n (cnE e n (cnE e n (a + 6))))) (nI (cnE e n (cnE e n (a + 6)) + 1)) (qs_M (qs_G (qs_W (qs_L (qs_U q ((qU q).set (qM q) (nuV e n (a + 7)))) ((qL q).set (qM q) (nuV e n (cnE e n (a + 6) + 1)))) ((qW q).set (qM q) (nuV e n (cnE e n (cnE e n (a + 6)) + 1)))) ((qG q).set (qM q) (nI 0))) ((qM q) + 1)) lt m1 m2 m3 m4 bd fc hd sz el t g fm hm so si sh ce ca td wa kp la bf oo bo pw ow tr)) := by
                        refine Ef.in (md := mX2_readPerson) (L := [some (.ref 34), some (.int (nI a)), none, none, none]) rfl (Nat.le_of_ble_eq_true rfl) rfl ?_
                        refine E_aload_n at_X2_readPerson_0 rfl ?_
                        refine E_getfield (v := .ref 35) at_X2_readPerson_1 w34 rfl (by decide) rfl ?_
                        have e1 : Ev ab_Z0 1 53 [.ref 35] (ww im lf s d k ls (-1) (nI n) (nI (a + 6)) rn q lt m1 m2 m3 m4 bd fc hd sz el t g fm hm so si sh ce ca td wa kp la bf oo bo pw ow tr) (some (.int (nI 1)), (ww im lf s d k ls (-1) (nI n) (nI (a + 6)) rn q lt m1 m2 m3 m4 bd fc hd sz el t g fm hm so si sh ce ca td wa kp la bf oo bo pw ow tr)) := by
                          refine Ef.in (md := mX4_hasRoomForPerson) (L := [some (.ref 35)]) rfl (Nat.le_of_ble_eq_true rfl) rfl ?_
                          refine E_aload_n at_X4_hasRoomForPerson_0 rfl ?_
                          refine E_getfield (v := .int (nI (qM q))) at_X4_hasRoomForPerson_1 w35 rfl (by decide) rfl ?_
                          refine E_bipush (x := nI 6) at_X4_hasRoomForPerson_4 (by decide) ?_
                          refine E_ic (t := 13) (b := false) at_X4_hasRoomForPerson_6 rfl ((cn_ge (nI_toInt (by omega)) (nI_toInt (by omega))).trans (decide_eq_false (by omega))) ?_
                          refine E_iconst (x := nI 1) at_X4_hasRoomForPerson_9 (by decide) ?_
                          refine E_goto (t := 14) at_X4_hasRoomForPerson_10 rfl ?_
                          exact E_iret at_X4_hasRoomForPerson_14 rfl
                        refine E_callV (v := some (.int (nI 1))) (As := [.ref 35]) (r0 := []) (cs2 := (ww im lf s d k ls (-1) (nI n) (nI (a + 6)) rn q lt m1 m2 m3 m4 bd fc hd sz el t g fm hm so si sh ce ca td wa kp la bf oo bo pw ow tr)) at_X2_readPerson_4 rfl rfl (Nat.le_of_ble_eq_true rfl) rfl (ab_rvOf w35 rfl) e1 (by decide) rfl ?_
                        refine E_if (t := 15) (b := true) at_X2_readPerson_7 rfl (by decide) ?_
                        refine E_aload_n at_X2_readPerson_15 rfl ?_
                        refine E_iconst (x := nI 0) at_X2_readPerson_16 (by decide) ?_
                        refine E_bipush (x := nI 99) at_X2_readPerson_17 (by decide) ?_
                        refine E_callV (v := some (.int (nI (nuV e n (a + 7))))) (As := [.ref 34, .int (nI 0), .int (nI 99)]) (r0 := []) (cs2 := (ww im lf s d k ls (-1) (nI n) (nI (cnE e n (a + 6))) (nI (a + 7)) q lt m1 m2 m3 m4 bd fc hd sz el t g fm hm so si sh ce ca td wa kp la bf oo bo pw ow tr)) at_X2_readPerson_19 rfl rfl (Nat.le_of_ble_eq_true rfl) rfl (ab_rvOf w34 rfl) (w_nuC (a := a + 6) (hi := nI 99) (by decide) hn (by omega) l_lt hlt hb0 hd0 (show 0 ≤ nuV e n (a + 7) from by omega) (show ((nuV e n (a + 7) : Nat) : Int) ≤ (nI 99).toInt from by rw [(nI_toInt (by omega) : (nI 99).toInt = ((99 : Nat) : Int))]; omega)) (by decide) w_lens ?_
                        refine E_istore_n (L2 := [some (.ref 34), some (.int (nI a)), some (.int (nI (nuV e n (a + 7)))), none, none]) at_X2_readPerson_22 rfl ?_
                        refine E_aload_n at_X2_readPerson_23 rfl ?_
                        refine E_iconst (x := nI 0) at_X2_readPerson_24 (by decide) ?_
                        refine E_bipush (x := nI 9) at_X2_readPerson_25 (by decide) ?_
                        refine E_callV (v := some (.int (nI (nuV e n (cnE e n (a + 6) + 1))))) (As := [.ref 34, .int (nI 0), .int (nI 9)]) (r0 := []) (cs2 := (ww im lf s d k ls (-1) (nI n) (nI (cnE e n (cnE e n (a + 6)))) (nI (cnE e n (a + 6) + 1)) q lt m1 m2 m3 m4 bd fc hd sz el t g fm hm so si sh ce ca td wa kp la bf oo bo pw ow tr)) at_X2_readPerson_27 rfl rfl (Nat.le_of_ble_eq_true rfl) rfl (ab_rvOf w34 rfl) (w_nuC (a := cnE e n (a + 6)) (hi := nI 9) (by decide) hn (by omega) l_lt hlt hb1 hd1 (show 0 ≤ nuV e n (cnE e n (a + 6) + 1) from by omega) (show ((nuV e n (cnE e n (a + 6) + 1) : Nat) : Int) ≤ (nI 9).toInt from by rw [(nI_toInt (by omega) : (nI 9).toInt = ((9 : Nat) : Int))]; omega)) (by decide) w_lens ?_
                        refine E_istore_n (L2 := [some (.ref 34), some (.int (nI a)), some (.int (nI (nuV e n (a + 7)))), some (.int (nI (nuV e n (cnE e n (a + 6) + 1)))), none]) at_X2_readPerson_30 rfl ?_
                        refine E_aload_n at_X2_readPerson_31 rfl ?_
                        refine E_iconst (x := nI 0) at_X2_readPerson_32 (by decide) ?_
                        refine E_bipush (x := nI 7) at_X2_readPerson_33 (by decide) ?_
                        refine E_callV (v := some (.int (nI (nuV e n (cnE e n (cnE e n (a + 6)) + 1))))) (As := [.ref 34, .int (nI 0), .int (nI 7)]) (r0 := []) (cs2 := (ww im lf s d k ls (-1) (nI n) (nI (cnE e n (cnE e n (cnE e n (a + 6))))) (nI (cnE e n (cnE e n (a + 6)) + 1)) q lt m1 m2 m3 m4 bd fc hd sz el t g fm hm so si sh ce ca td wa kp la bf oo bo pw ow tr)) at_X2_readPerson_35 rfl rfl (Nat.le_of_ble_eq_true rfl) rfl (ab_rvOf w34 rfl) (w_nuC (a := cnE e n (cnE e n (a + 6))) (hi := nI 7) (by decide) hn (by omega) l_lt hlt hb2 hd2 (show 0 ≤ nuV e n (cnE e n (cnE e n (a + 6)) + 1) from by omega) (show ((nuV e n (cnE e n (cnE e n (a + 6)) + 1) : Nat) : Int) ≤ (nI 7).toInt from by rw [(nI_toInt (by omega) : (nI 7).toInt = ((7 : Nat) : Int))]; omega)) (by decide) w_lens ?_
                        refine E_istore (L2 := [some (.ref 34), some (.int (nI a)), some (.int (nI (nuV e n (a + 7)))), some (.int (nI (nuV e n (cnE e n (a + 6) + 1)))), some (.int (nI (nuV e n (cnE e n (cnE e n (a + 6)) + 1))))]) at_X2_readPerson_38 rfl ?_
                        refine E_aload_n at_X2_readPerson_40 rfl ?_
                        refine E_getfield (v := .int (-1)) at_X2_readPerson_41 w34 rfl (by decide) rfl ?_
                        refine E_iconst (x := (-1)) at_X2_readPerson_44 (by decide) ?_
                        refine E_ic (t := 60) (b := false) at_X2_readPerson_45 rfl (by decide) ?_
                        refine E_aload_n rfl rfl ?_
                        refine E_getfield (v := .ref 35) rfl w34 rfl (by decide) rfl ?_
                        refine E_iload_n rfl rfl ?_
                        refine E_iload_n rfl rfl ?_
                        refine E_iload rfl rfl ?_
                        have e3 : Ev ab_Z0 2 57 [.ref 35, .int (nI (nuV e n (a + 7))), .int (nI (nuV e n (cnE e n (a + 6) + 1))), .int (nI (nuV e n (cnE e n (cnE e n (a + 6)) + 1)))] (ww im lf s d k ls (-1) (nI n) (nI (cnE e n (cnE e n (cnE e n (a + 6))))) (nI (cnE e n (cnE e n (a + 6)) + 1)) q lt m1 m2 m3 m4 bd fc hd sz el t g fm hm so si sh ce ca td wa kp la bf oo bo pw ow tr) (some (.int (nI (qM q))), (ww im lf s d k ls (-1) (nI n) (nI (cnE e n (cnE e n (cnE e n (a + 6))))) (nI (cnE e n (cnE e n (a + 6)) + 1)) (qs_M (qs_G (qs_W (qs_L (qs_U q ((qU q).set (qM q) (nuV e n (a + 7)))) ((qL q).set (qM q) (nuV e n (cnE e n (a + 6) + 1)))) ((qW q).set (qM q) (nuV e n (cnE e n (cnE e n (a + 6)) + 1)))) ((qG q).set (qM q) (nI 0))) ((qM q) + 1)) lt m1 m2 m3 m4 bd fc hd sz el t g fm hm so si sh ce ca td wa kp la bf oo bo pw ow tr)) := by
                          refine Ef.in (md := mX4_addPerson) (L := [some (.ref 35), some (.int (nI (nuV e n (a + 7)))), some (.int (nI (nuV e n (cnE e n (a + 6) + 1)))), some (.int (nI (nuV e n (cnE e n (cnE e n (a + 6)) + 1)))), none]) rfl (Nat.le_of_ble_eq_true rfl) rfl ?_
                          refine E_aload_n rfl rfl ?_
                          have e2 : Ev ab_Z0 1 53 [.ref 35] (ww im lf s d k ls (-1) (nI n) (nI (cnE e n (cnE e n (cnE e n (a + 6))))) (nI (cnE e n (cnE e n (a + 6)) + 1)) q lt m1 m2 m3 m4 bd fc hd sz el t g fm hm so si sh ce ca td wa kp la bf oo bo pw ow tr) (some (.int (nI 1)), (ww im lf s d k ls (-1) (nI n) (nI (cnE e n (cnE e n (cnE e n (a + 6))))) (nI (cnE e n (cnE e n (a + 6)) + 1)) q lt m1 m2 m3 m4 bd fc hd sz el t g fm hm so si sh ce ca td wa kp la bf oo bo pw ow tr)) := by
                            refine Ef.in (md := mX4_hasRoomForPerson) (L := [some (.ref 35)]) rfl (Nat.le_of_ble_eq_true rfl) rfl ?_
                            refine E_aload_n at_X4_hasRoomForPerson_0 rfl ?_
                            refine E_getfield (v := .int (nI (qM q))) at_X4_hasRoomForPerson_1 w35 rfl (by decide) rfl ?_
                            refine E_bipush (x := nI 6) at_X4_hasRoomForPerson_4 (by decide) ?_
                            refine E_ic (t := 13) (b := false) at_X4_hasRoomForPerson_6 rfl ((cn_ge (nI_toInt (by omega)) (nI_toInt (by omega))).trans (decide_eq_false (by omega))) ?_
                            refine E_iconst (x := nI 1) at_X4_hasRoomForPerson_9 (by decide) ?_
                            refine E_goto (t := 14) at_X4_hasRoomForPerson_10 rfl ?_
                            exact E_iret at_X4_hasRoomForPerson_14 rfl
                          refine E_callV (v := some (.int (nI 1))) (As := [.ref 35]) (r0 := []) (cs2 := (ww im lf s d k ls (-1) (nI n) (nI (cnE e n (cnE e n (cnE e n (a + 6))))) (nI (cnE e n (cnE e n (a + 6)) + 1)) q lt m1 m2 m3 m4 bd fc hd sz el t g fm hm so si sh ce ca td wa kp la bf oo bo pw ow tr)) rfl rfl rfl (Nat.le_of_ble_eq_true rfl) rfl (ab_rvOf w35 rfl) e2 (by decide) rfl ?_
                          refine E_if (t := 9) (b := true) rfl rfl (by decide) ?_
                          refine E_aload_n rfl rfl ?_
                          refine E_getfield (v := .int (nI (qM q))) rfl w35 rfl (by decide) rfl ?_
                          refine E_istore (L2 := [some (.ref 35), some (.int (nI (nuV e n (a + 7)))), some (.int (nI (nuV e n (cnE e n (a + 6) + 1)))), some (.int (nI (nuV e n (cnE e n (cnE e n (a + 6)) + 1)))), some (.int (nI (qM q)))]) rfl rfl ?_
                          refine E_aload_n rfl rfl ?_
                          refine E_getfield (v := .ref 40) rfl w35 rfl (by decide) rfl ?_
                          refine E_iload rfl rfl ?_
                          refine E_iload_n rfl rfl ?_
                          refine E_iasN (l := qU q) (cs2 := (ww im lf s d k ls (-1) (nI n) (nI (cnE e n (cnE e n (cnE e n (a + 6))))) (nI (cnE e n (cnE e n (a + 6)) + 1)) (qs_U q ((qU q).set (qM q) (nuV e n (a + 7)))) lt m1 m2 m3 m4 bd fc hd sz el t g fm hm so si sh ce ca td wa kp la bf oo bo pw ow tr)) rfl w40 (by omega) (by omega) w_pt35_U ?_
                          refine E_aload_n rfl rfl ?_
                          refine E_getfield (v := .ref 41) rfl w35 rfl (by decide) rfl ?_
                          refine E_iload rfl rfl ?_
                          refine E_iload_n rfl rfl ?_
                          refine E_iasN (l := qL q) (cs2 := (ww im lf s d k ls (-1) (nI n) (nI (cnE e n (cnE e n (cnE e n (a + 6))))) (nI (cnE e n (cnE e n (a + 6)) + 1)) (qs_L (qs_U q ((qU q).set (qM q) (nuV e n (a + 7)))) ((qL q).set (qM q) (nuV e n (cnE e n (a + 6) + 1)))) lt m1 m2 m3 m4 bd fc hd sz el t g fm hm so si sh ce ca td wa kp la bf oo bo pw ow tr)) rfl (w41v qg_LU) (by omega) (by omega) w_pt35_L ?_
                          refine E_aload_n rfl rfl ?_
                          refine E_getfield (v := .ref 42) rfl w35 rfl (by decide) rfl ?_
                          refine E_iload rfl rfl ?_
                          refine E_iload_n rfl rfl ?_
                          refine E_iasN (l := qW q) (cs2 := (ww im lf s d k ls (-1) (nI n) (nI (cnE e n (cnE e n (cnE e n (a + 6))))) (nI (cnE e n (cnE e n (a + 6)) + 1)) (qs_W (qs_L (qs_U q ((qU q).set (qM q) (nuV e n (a + 7)))) ((qL q).set (qM q) (nuV e n (cnE e n (a + 6) + 1)))) ((qW q).set (qM q) (nuV e n (cnE e n (cnE e n (a + 6)) + 1)))) lt m1 m2 m3 m4 bd fc hd sz el t g fm hm so si sh ce ca td wa kp la bf oo bo pw ow tr)) rfl (w42v (qg_WL.trans qg_WU)) (by omega) (by omega) w_pt35_W ?_
                          refine E_aload_n rfl rfl ?_
                          refine E_getfield (v := .ref 43) rfl w35 rfl (by decide) rfl ?_
                          refine E_iload rfl rfl ?_
                          refine E_iconst (x := nI 0) rfl (by decide) ?_
                          refine E_iasI (l := qG q) (cs2 := (ww im lf s d k ls (-1) (nI n) (nI (cnE e n (cnE e n (cnE e n (a + 6))))) (nI (cnE e n (cnE e n (a + 6)) + 1)) (qs_G (qs_W (qs_L (qs_U q ((qU q).set (qM q) (nuV e n (a + 7)))) ((qL q).set (qM q) (nuV e n (cnE e n (a + 6) + 1)))) ((qW q).set (qM q) (nuV e n (cnE e n (cnE e n (a + 6)) + 1)))) ((qG q).set (qM q) (nI 0))) lt m1 m2 m3 m4 bd fc hd sz el t g fm hm so si sh ce ca td wa kp la bf oo bo pw ow tr)) rfl (w43v (qg_GW.trans (qg_GL.trans qg_GU))) (by omega) (by omega) w_pt35_G ?_
                          refine E_aload_n rfl rfl ?_
                          refine E_dup rfl rfl ?_
                          refine E_getfield (v := .int (nI (qM q))) rfl w35 rfl (by decide) (congrArg (fun z => some (Value.int (nI z))) (qg_MG.trans (qg_MW.trans (qg_ML.trans qg_MU)))) ?_
                          refine E_iconst (x := nI 1) rfl (by decide) ?_
                          refine E_iadd (z := nI ((qM q) + 1)) rfl (nI_add _ _) ?_
                          refine E_putfield (cs2 := (ww im lf s d k ls (-1) (nI n) (nI (cnE e n (cnE e n (cnE e n (a + 6))))) (nI (cnE e n (cnE e n (a + 6)) + 1)) (qs_M (qs_G (qs_W (qs_L (qs_U q ((qU q).set (qM q) (nuV e n (a + 7)))) ((qL q).set (qM q) (nuV e n (cnE e n (a + 6) + 1)))) ((qW q).set (qM q) (nuV e n (cnE e n (cnE e n (a + 6)) + 1)))) ((qG q).set (qM q) (nI 0))) ((qM q) + 1)) lt m1 m2 m3 m4 bd fc hd sz el t g fm hm so si sh ce ca td wa kp la bf oo bo pw ow tr)) rfl w35 rfl (by decide) (Nat.le_of_ble_eq_true rfl) rfl rfl rfl w_pt35_M ?_
                          refine E_iload rfl rfl ?_
                          exact E_iret rfl rfl
                        refine E_callV (v := some (.int (nI (qM q)))) (As := [.ref 35, .int (nI (nuV e n (a + 7))), .int (nI (nuV e n (cnE e n (a + 6) + 1))), .int (nI (nuV e n (cnE e n (cnE e n (a + 6)) + 1)))]) (r0 := []) (cs2 := (ww im lf s d k ls (-1) (nI n) (nI (cnE e n (cnE e n (cnE e n (a + 6))))) (nI (cnE e n (cnE e n (a + 6)) + 1)) (qs_M (qs_G (qs_W (qs_L (qs_U q ((qU q).set (qM q) (nuV e n (a + 7)))) ((qL q).set (qM q) (nuV e n (cnE e n (a + 6) + 1)))) ((qW q).set (qM q) (nuV e n (cnE e n (cnE e n (a + 6)) + 1)))) ((qG q).set (qM q) (nI 0))) ((qM q) + 1)) lt m1 m2 m3 m4 bd fc hd sz el t g fm hm so si sh ce ca td wa kp la bf oo bo pw ow tr)) rfl rfl rfl (Nat.le_of_ble_eq_true rfl) rfl (ab_rvOf w35 rfl) e3 (by decide) w_lens ?_
                        refine E_pop rfl rfl ?_
                        exact E_vret at_X2_readPerson_60 rfl
                      refine E_callV (v := none) (As := [.ref 34, .int (nI a)]) (r0 := []) (cs2 := (ww im lf s d k ls (-1) (nI n) (nI (cnE e n (cnE e n (cnE e n (a + 6))))) (nI (cnE e n (cnE e n (a + 6)) + 1)) (qs_M (qs_G (qs_W (qs_L (qs_U q ((qU q).set (qM q) (nuV e n (a + 7)))) ((qL q).set (qM q) (nuV e n (cnE e n (a + 6) + 1)))) ((qW q).set (qM q) (nuV e n (cnE e n (cnE e n (a + 6)) + 1)))) ((qG q).set (qM q) (nI 0))) ((qM q) + 1)) lt m1 m2 m3 m4 bd fc hd sz el t g fm hm so si sh ce ca td wa kp la bf oo bo pw ow tr)) at_X2_readItem_66 rfl rfl (Nat.le_of_ble_eq_true rfl) rfl (ab_rvOf w34 rfl) e4 (by decide) w_lens ?_
                      refine E_goto (t := 110) at_X2_readItem_69 rfl ?_
                      exact E_vret at_X2_readItem_110 rfl
                    · have hz := mtc_n (e := e) (n := n) [112, 101, 114, 115, 111, 110] a ha
                      have hz_ : a + mj1 e n a ≤ n := hz
                      have hb0_ := (chB_t hb0).1
                      have hd0_ := (dgB_t hd0).1
                      have hV0 := nuV_99 hd0
                      have hc0 := cnE_n hd0
                      have hb1_ := (chB_t hb1).1
                      have hd1_ := (dgB_t hd1).1
                      have hV1 := nuV_99 hd1
                      have hc1 := cnE_n hd1
                      have hb2_ := (chB_t hb2).1
                      have hd2_ := (dgB_t hd2).1
                      have hV2 := nuV_99 hd2
                      have hF0 : nuF e n (a + 6) 0 100 = 0 := nuF_C hb0 hd0 (show ¬ (nuV e n (a + 7) < 0 ∨ 100 ≤ nuV e n (a + 7)) from by omega)
                      have hF1 : nuF e n (cnE e n (a + 6)) 0 10 = 0 := nuF_C hb1 hd1 (show ¬ (nuV e n (cnE e n (a + 6) + 1) < 0 ∨ 10 ≤ nuV e n (cnE e n (a + 6) + 1)) from by omega)
                      have hF2 : nuF e n (cnE e n (cnE e n (a + 6))) 0 8 = cnE e n (cnE e n (a + 6)) + 2 := nuF_D hb2 hd2 (show nuV e n (cnE e n (cnE e n (a + 6)) + 1) < 0 ∨ 8 ≤ nuV e n (cnE e n (cnE e n (a + 6)) + 1) from by omega)
                      have hI : itF e n q a = cnE e n (cnE e n (a + 6)) + 2 := (it_1 (q := q) hw).1.trans (by rw [if_neg (by omega)]; unfold s3F; rw [if_pos hF0]; unfold s2F; rw [if_pos hF1]; exact hF2)
                      refine ⟨q, (nI (cnE e n (cnE e n (a + 6)) + 1)), (nI (nuE e n (cnE e n (cnE e n (a + 6)) + 1))), (nI (cnE e n (cnE e n (a + 6)) + 1)), ?_, Or.inr ⟨cnE e n (cnE e n (a + 6)) + 1, by omega, rfl, by omega, rfl⟩⟩
                      refine Ef.in (md := mX2_readItem) (L := [some (.ref 34), none, none]) rfl (Nat.le_of_ble_eq_true rfl) rfl ?_
                      refine E_aload_n at_X2_readItem_0 rfl ?_
                      refine E_getfield (v := .int (nI a)) at_X2_readItem_1 w34 rfl (by decide) rfl ?_
                      refine E_istore_n (L2 := [some (.ref 34), some (.int (nI a)), none]) at_X2_readItem_4 rfl ?_
                      refine E_aload_n at_X2_readItem_5 rfl ?_
                      refine E_callV (v := some (.int (nI 1))) (As := [.ref 34]) (r0 := []) (cs2 := (ww im lf s d k ls (-1) (nI n) (nI (a + 6)) rn q lt m1 m2 m3 m4 bd fc hd sz el t g fm hm so si sh ce ca td wa kp la bf oo bo pw ow tr)) at_X2_readItem_6 rfl rfl (Nat.le_of_ble_eq_true rfl) rfl (ab_rvOf w34 rfl) (w_rw1 hn ha l_lt hlt hw) (by decide) w_lens ?_
                      refine E_istore_n (L2 := [some (.ref 34), some (.int (nI a)), some (.int (nI 1))]) at_X2_readItem_9 rfl ?_
                      refine E_aload_n at_X2_readItem_10 rfl ?_
                      refine E_getfield (v := .int (-1)) at_X2_readItem_11 w34 rfl (by decide) rfl ?_
                      refine E_iconst (x := (-1)) at_X2_readItem_14 (by decide) ?_
                      refine E_ic (t := 19) (b := true) at_X2_readItem_15 rfl (by decide) ?_
                      refine E_iload_n at_X2_readItem_19 rfl ?_
                      refine E_tsIn (off := 44) (t := 64) at_X2_readItem_20 (by decide) rfl rfl ?_
                      refine E_aload_n at_X2_readItem_64 rfl ?_
                      refine E_iload_n at_X2_readItem_65 rfl ?_
                      have e2 : Ev ab_Z0 4 17 [.ref 34, .int (nI a)] (ww im lf s d k ls (-1) (nI n) (nI (a + 6)) rn q lt m1 m2 m3 m4 bd fc hd sz el t g fm hm so si sh ce ca td wa kp la bf oo bo pw ow tr) (none, (ww im lf s d k ls (nI (cnE e n (cnE e n (a + 6)) + 1)) (nI n) (nI (nuE e n (cnE e n (cnE e n (a + 6)) + 1))) (nI (cnE e n (cnE e n (a + 6)) + 1)) q lt m1 m2 m3 m4 bd fc hd sz el t g fm hm so si sh ce ca td wa kp la bf oo bo pw ow tr)) := by
                        refine Ef.in (md := mX2_readPerson) (L := [some (.ref 34), some (.int (nI a)), none, none, none]) rfl (Nat.le_of_ble_eq_true rfl) rfl ?_
                        refine E_aload_n at_X2_readPerson_0 rfl ?_
                        refine E_getfield (v := .ref 35) at_X2_readPerson_1 w34 rfl (by decide) rfl ?_
                        have e1 : Ev ab_Z0 1 53 [.ref 35] (ww im lf s d k ls (-1) (nI n) (nI (a + 6)) rn q lt m1 m2 m3 m4 bd fc hd sz el t g fm hm so si sh ce ca td wa kp la bf oo bo pw ow tr) (some (.int (nI 1)), (ww im lf s d k ls (-1) (nI n) (nI (a + 6)) rn q lt m1 m2 m3 m4 bd fc hd sz el t g fm hm so si sh ce ca td wa kp la bf oo bo pw ow tr)) := by
                          refine Ef.in (md := mX4_hasRoomForPerson) (L := [some (.ref 35)]) rfl (Nat.le_of_ble_eq_true rfl) rfl ?_
                          refine E_aload_n at_X4_hasRoomForPerson_0 rfl ?_
                          refine E_getfield (v := .int (nI (qM q))) at_X4_hasRoomForPerson_1 w35 rfl (by decide) rfl ?_
                          refine E_bipush (x := nI 6) at_X4_hasRoomForPerson_4 (by decide) ?_
                          refine E_ic (t := 13) (b := false) at_X4_hasRoomForPerson_6 rfl ((cn_ge (nI_toInt (by omega)) (nI_toInt (by omega))).trans (decide_eq_false (by omega))) ?_
                          refine E_iconst (x := nI 1) at_X4_hasRoomForPerson_9 (by decide) ?_
                          refine E_goto (t := 14) at_X4_hasRoomForPerson_10 rfl ?_
                          exact E_iret at_X4_hasRoomForPerson_14 rfl
                        refine E_callV (v := some (.int (nI 1))) (As := [.ref 35]) (r0 := []) (cs2 := (ww im lf s d k ls (-1) (nI n) (nI (a + 6)) rn q lt m1 m2 m3 m4 bd fc hd sz el t g fm hm so si sh ce ca td wa kp la bf oo bo pw ow tr)) at_X2_readPerson_4 rfl rfl (Nat.le_of_ble_eq_true rfl) rfl (ab_rvOf w35 rfl) e1 (by decide) rfl ?_
                        refine E_if (t := 15) (b := true) at_X2_readPerson_7 rfl (by decide) ?_
                        refine E_aload_n at_X2_readPerson_15 rfl ?_
                        refine E_iconst (x := nI 0) at_X2_readPerson_16 (by decide) ?_
                        refine E_bipush (x := nI 99) at_X2_readPerson_17 (by decide) ?_
                        refine E_callV (v := some (.int (nI (nuV e n (a + 7))))) (As := [.ref 34, .int (nI 0), .int (nI 99)]) (r0 := []) (cs2 := (ww im lf s d k ls (-1) (nI n) (nI (cnE e n (a + 6))) (nI (a + 7)) q lt m1 m2 m3 m4 bd fc hd sz el t g fm hm so si sh ce ca td wa kp la bf oo bo pw ow tr)) at_X2_readPerson_19 rfl rfl (Nat.le_of_ble_eq_true rfl) rfl (ab_rvOf w34 rfl) (w_nuC (a := a + 6) (hi := nI 99) (by decide) hn (by omega) l_lt hlt hb0 hd0 (show 0 ≤ nuV e n (a + 7) from by omega) (show ((nuV e n (a + 7) : Nat) : Int) ≤ (nI 99).toInt from by rw [(nI_toInt (by omega) : (nI 99).toInt = ((99 : Nat) : Int))]; omega)) (by decide) w_lens ?_
                        refine E_istore_n (L2 := [some (.ref 34), some (.int (nI a)), some (.int (nI (nuV e n (a + 7)))), none, none]) at_X2_readPerson_22 rfl ?_
                        refine E_aload_n at_X2_readPerson_23 rfl ?_
                        refine E_iconst (x := nI 0) at_X2_readPerson_24 (by decide) ?_
                        refine E_bipush (x := nI 9) at_X2_readPerson_25 (by decide) ?_
                        refine E_callV (v := some (.int (nI (nuV e n (cnE e n (a + 6) + 1))))) (As := [.ref 34, .int (nI 0), .int (nI 9)]) (r0 := []) (cs2 := (ww im lf s d k ls (-1) (nI n) (nI (cnE e n (cnE e n (a + 6)))) (nI (cnE e n (a + 6) + 1)) q lt m1 m2 m3 m4 bd fc hd sz el t g fm hm so si sh ce ca td wa kp la bf oo bo pw ow tr)) at_X2_readPerson_27 rfl rfl (Nat.le_of_ble_eq_true rfl) rfl (ab_rvOf w34 rfl) (w_nuC (a := cnE e n (a + 6)) (hi := nI 9) (by decide) hn (by omega) l_lt hlt hb1 hd1 (show 0 ≤ nuV e n (cnE e n (a + 6) + 1) from by omega) (show ((nuV e n (cnE e n (a + 6) + 1) : Nat) : Int) ≤ (nI 9).toInt from by rw [(nI_toInt (by omega) : (nI 9).toInt = ((9 : Nat) : Int))]; omega)) (by decide) w_lens ?_
                        refine E_istore_n (L2 := [some (.ref 34), some (.int (nI a)), some (.int (nI (nuV e n (a + 7)))), some (.int (nI (nuV e n (cnE e n (a + 6) + 1)))), none]) at_X2_readPerson_30 rfl ?_
                        refine E_aload_n at_X2_readPerson_31 rfl ?_
                        refine E_iconst (x := nI 0) at_X2_readPerson_32 (by decide) ?_
                        refine E_bipush (x := nI 7) at_X2_readPerson_33 (by decide) ?_
                        refine E_callV (v := some (.int (nI (nuV e n (cnE e n (cnE e n (a + 6)) + 1))))) (As := [.ref 34, .int (nI 0), .int (nI 7)]) (r0 := []) (cs2 := (ww im lf s d k ls (nI (cnE e n (cnE e n (a + 6)) + 1)) (nI n) (nI (nuE e n (cnE e n (cnE e n (a + 6)) + 1))) (nI (cnE e n (cnE e n (a + 6)) + 1)) q lt m1 m2 m3 m4 bd fc hd sz el t g fm hm so si sh ce ca td wa kp la bf oo bo pw ow tr)) at_X2_readPerson_35 rfl rfl (Nat.le_of_ble_eq_true rfl) rfl (ab_rvOf w34 rfl) (w_nuD (a := cnE e n (cnE e n (a + 6))) (hi := nI 7) (by decide) hn (by omega) l_lt hlt hb2 hd2 (show nuV e n (cnE e n (cnE e n (a + 6)) + 1) < 0 ∨ (nI 7).toInt < ((nuV e n (cnE e n (cnE e n (a + 6)) + 1) : Nat) : Int) from by rw [(nI_toInt (by omega) : (nI 7).toInt = ((7 : Nat) : Int))]; omega)) (by decide) w_lens ?_
                        refine E_istore (L2 := [some (.ref 34), some (.int (nI a)), some (.int (nI (nuV e n (a + 7)))), some (.int (nI (nuV e n (cnE e n (a + 6) + 1)))), some (.int (nI (nuV e n (cnE e n (cnE e n (a + 6)) + 1))))]) at_X2_readPerson_38 rfl ?_
                        refine E_aload_n at_X2_readPerson_40 rfl ?_
                        refine E_getfield (v := .int (nI (cnE e n (cnE e n (a + 6)) + 1))) at_X2_readPerson_41 w34 rfl (by decide) rfl ?_
                        refine E_iconst (x := (-1)) at_X2_readPerson_44 (by decide) ?_
                        refine E_ic (t := 60) (b := true) at_X2_readPerson_45 rfl ((cn_ne (nI_toInt (by omega)) (by decide : (-1 : Int32).toInt = -1)).trans (decide_eq_true (by omega))) ?_
                        exact E_vret at_X2_readPerson_60 rfl
                      refine E_callV (v := none) (As := [.ref 34, .int (nI a)]) (r0 := []) (cs2 := (ww im lf s d k ls (nI (cnE e n (cnE e n (a + 6)) + 1)) (nI n) (nI (nuE e n (cnE e n (cnE e n (a + 6)) + 1))) (nI (cnE e n (cnE e n (a + 6)) + 1)) q lt m1 m2 m3 m4 bd fc hd sz el t g fm hm so si sh ce ca td wa kp la bf oo bo pw ow tr)) at_X2_readItem_66 rfl rfl (Nat.le_of_ble_eq_true rfl) rfl (ab_rvOf w34 rfl) e2 (by decide) w_lens ?_
                      refine E_goto (t := 110) at_X2_readItem_69 rfl ?_
                      exact E_vret at_X2_readItem_110 rfl
              · have hz := mtc_n (e := e) (n := n) [112, 101, 114, 115, 111, 110] a ha
                have hz_ : a + mj1 e n a ≤ n := hz
                have hb0_ := (chB_t hb0).1
                have hd0_ := (dgB_t hd0).1
                have hV0 := nuV_99 hd0
                have hc0 := cnE_n hd0
                have hb1_ := (chB_t hb1).1
                have hd1_ := (dgB_t hd1).1
                have hV1 := nuV_99 hd1
                have hF0 : nuF e n (a + 6) 0 100 = 0 := nuF_C hb0 hd0 (show ¬ (nuV e n (a + 7) < 0 ∨ 100 ≤ nuV e n (a + 7)) from by omega)
                have hF1 : nuF e n (cnE e n (a + 6)) 0 10 = cnE e n (a + 6) + 2 := nuF_D hb1 hd1 (show nuV e n (cnE e n (a + 6) + 1) < 0 ∨ 10 ≤ nuV e n (cnE e n (a + 6) + 1) from by omega)
                have hI : itF e n q a = cnE e n (a + 6) + 2 := (it_1 (q := q) hw).1.trans (by rw [if_neg (by omega)]; unfold s3F; rw [if_pos hF0]; unfold s2F; rw [if_neg (by omega)]; exact hF1)
                refine ⟨q, (nI (cnE e n (a + 6) + 1)), (nI (nuE e n (cnE e n (a + 6) + 1))), (nI (cnE e n (a + 6) + 1)), ?_, Or.inr ⟨cnE e n (a + 6) + 1, by omega, rfl, by omega, rfl⟩⟩
                refine Ef.in (md := mX2_readItem) (L := [some (.ref 34), none, none]) rfl (Nat.le_of_ble_eq_true rfl) rfl ?_
                refine E_aload_n at_X2_readItem_0 rfl ?_
                refine E_getfield (v := .int (nI a)) at_X2_readItem_1 w34 rfl (by decide) rfl ?_
                refine E_istore_n (L2 := [some (.ref 34), some (.int (nI a)), none]) at_X2_readItem_4 rfl ?_
                refine E_aload_n at_X2_readItem_5 rfl ?_
                refine E_callV (v := some (.int (nI 1))) (As := [.ref 34]) (r0 := []) (cs2 := (ww im lf s d k ls (-1) (nI n) (nI (a + 6)) rn q lt m1 m2 m3 m4 bd fc hd sz el t g fm hm so si sh ce ca td wa kp la bf oo bo pw ow tr)) at_X2_readItem_6 rfl rfl (Nat.le_of_ble_eq_true rfl) rfl (ab_rvOf w34 rfl) (w_rw1 hn ha l_lt hlt hw) (by decide) w_lens ?_
                refine E_istore_n (L2 := [some (.ref 34), some (.int (nI a)), some (.int (nI 1))]) at_X2_readItem_9 rfl ?_
                refine E_aload_n at_X2_readItem_10 rfl ?_
                refine E_getfield (v := .int (-1)) at_X2_readItem_11 w34 rfl (by decide) rfl ?_
                refine E_iconst (x := (-1)) at_X2_readItem_14 (by decide) ?_
                refine E_ic (t := 19) (b := true) at_X2_readItem_15 rfl (by decide) ?_
                refine E_iload_n at_X2_readItem_19 rfl ?_
                refine E_tsIn (off := 44) (t := 64) at_X2_readItem_20 (by decide) rfl rfl ?_
                refine E_aload_n at_X2_readItem_64 rfl ?_
                refine E_iload_n at_X2_readItem_65 rfl ?_
                have e2 : Ev ab_Z0 4 17 [.ref 34, .int (nI a)] (ww im lf s d k ls (-1) (nI n) (nI (a + 6)) rn q lt m1 m2 m3 m4 bd fc hd sz el t g fm hm so si sh ce ca td wa kp la bf oo bo pw ow tr) (none, (ww im lf s d k ls (nI (cnE e n (a + 6) + 1)) (nI n) (nI (nuE e n (cnE e n (a + 6) + 1))) (nI (cnE e n (a + 6) + 1)) q lt m1 m2 m3 m4 bd fc hd sz el t g fm hm so si sh ce ca td wa kp la bf oo bo pw ow tr)) := by
                  refine Ef.in (md := mX2_readPerson) (L := [some (.ref 34), some (.int (nI a)), none, none, none]) rfl (Nat.le_of_ble_eq_true rfl) rfl ?_
                  refine E_aload_n at_X2_readPerson_0 rfl ?_
                  refine E_getfield (v := .ref 35) at_X2_readPerson_1 w34 rfl (by decide) rfl ?_
                  have e1 : Ev ab_Z0 1 53 [.ref 35] (ww im lf s d k ls (-1) (nI n) (nI (a + 6)) rn q lt m1 m2 m3 m4 bd fc hd sz el t g fm hm so si sh ce ca td wa kp la bf oo bo pw ow tr) (some (.int (nI 1)), (ww im lf s d k ls (-1) (nI n) (nI (a + 6)) rn q lt m1 m2 m3 m4 bd fc hd sz el t g fm hm so si sh ce ca td wa kp la bf oo bo pw ow tr)) := by
                    refine Ef.in (md := mX4_hasRoomForPerson) (L := [some (.ref 35)]) rfl (Nat.le_of_ble_eq_true rfl) rfl ?_
                    refine E_aload_n at_X4_hasRoomForPerson_0 rfl ?_
                    refine E_getfield (v := .int (nI (qM q))) at_X4_hasRoomForPerson_1 w35 rfl (by decide) rfl ?_
                    refine E_bipush (x := nI 6) at_X4_hasRoomForPerson_4 (by decide) ?_
                    refine E_ic (t := 13) (b := false) at_X4_hasRoomForPerson_6 rfl ((cn_ge (nI_toInt (by omega)) (nI_toInt (by omega))).trans (decide_eq_false (by omega))) ?_
                    refine E_iconst (x := nI 1) at_X4_hasRoomForPerson_9 (by decide) ?_
                    refine E_goto (t := 14) at_X4_hasRoomForPerson_10 rfl ?_
                    exact E_iret at_X4_hasRoomForPerson_14 rfl
                  refine E_callV (v := some (.int (nI 1))) (As := [.ref 35]) (r0 := []) (cs2 := (ww im lf s d k ls (-1) (nI n) (nI (a + 6)) rn q lt m1 m2 m3 m4 bd fc hd sz el t g fm hm so si sh ce ca td wa kp la bf oo bo pw ow tr)) at_X2_readPerson_4 rfl rfl (Nat.le_of_ble_eq_true rfl) rfl (ab_rvOf w35 rfl) e1 (by decide) rfl ?_
                  refine E_if (t := 15) (b := true) at_X2_readPerson_7 rfl (by decide) ?_
                  refine E_aload_n at_X2_readPerson_15 rfl ?_
                  refine E_iconst (x := nI 0) at_X2_readPerson_16 (by decide) ?_
                  refine E_bipush (x := nI 99) at_X2_readPerson_17 (by decide) ?_
                  refine E_callV (v := some (.int (nI (nuV e n (a + 7))))) (As := [.ref 34, .int (nI 0), .int (nI 99)]) (r0 := []) (cs2 := (ww im lf s d k ls (-1) (nI n) (nI (cnE e n (a + 6))) (nI (a + 7)) q lt m1 m2 m3 m4 bd fc hd sz el t g fm hm so si sh ce ca td wa kp la bf oo bo pw ow tr)) at_X2_readPerson_19 rfl rfl (Nat.le_of_ble_eq_true rfl) rfl (ab_rvOf w34 rfl) (w_nuC (a := a + 6) (hi := nI 99) (by decide) hn (by omega) l_lt hlt hb0 hd0 (show 0 ≤ nuV e n (a + 7) from by omega) (show ((nuV e n (a + 7) : Nat) : Int) ≤ (nI 99).toInt from by rw [(nI_toInt (by omega) : (nI 99).toInt = ((99 : Nat) : Int))]; omega)) (by decide) w_lens ?_
                  refine E_istore_n (L2 := [some (.ref 34), some (.int (nI a)), some (.int (nI (nuV e n (a + 7)))), none, none]) at_X2_readPerson_22 rfl ?_
                  refine E_aload_n at_X2_readPerson_23 rfl ?_
                  refine E_iconst (x := nI 0) at_X2_readPerson_24 (by decide) ?_
                  refine E_bipush (x := nI 9) at_X2_readPerson_25 (by decide) ?_
                  refine E_callV (v := some (.int (nI (nuV e n (cnE e n (a + 6) + 1))))) (As := [.ref 34, .int (nI 0), .int (nI 9)]) (r0 := []) (cs2 := (ww im lf s d k ls (nI (cnE e n (a + 6) + 1)) (nI n) (nI (nuE e n (cnE e n (a + 6) + 1))) (nI (cnE e n (a + 6) + 1)) q lt m1 m2 m3 m4 bd fc hd sz el t g fm hm so si sh ce ca td wa kp la bf oo bo pw ow tr)) at_X2_readPerson_27 rfl rfl (Nat.le_of_ble_eq_true rfl) rfl (ab_rvOf w34 rfl) (w_nuD (a := cnE e n (a + 6)) (hi := nI 9) (by decide) hn (by omega) l_lt hlt hb1 hd1 (show nuV e n (cnE e n (a + 6) + 1) < 0 ∨ (nI 9).toInt < ((nuV e n (cnE e n (a + 6) + 1) : Nat) : Int) from by rw [(nI_toInt (by omega) : (nI 9).toInt = ((9 : Nat) : Int))]; omega)) (by decide) w_lens ?_
                  refine E_istore_n (L2 := [some (.ref 34), some (.int (nI a)), some (.int (nI (nuV e n (a + 7)))), some (.int (nI (nuV e n (cnE e n (a + 6) + 1)))), none]) at_X2_readPerson_30 rfl ?_
                  refine E_aload_n at_X2_readPerson_31 rfl ?_
                  refine E_iconst (x := nI 0) at_X2_readPerson_32 (by decide) ?_
                  refine E_bipush (x := nI 7) at_X2_readPerson_33 (by decide) ?_
                  refine E_callV (v := some (.int (nI 0))) (As := [.ref 34, .int (nI 0), .int (nI 7)]) (r0 := []) (cs2 := (ww im lf s d k ls (nI (cnE e n (a + 6) + 1)) (nI n) (nI (nuE e n (cnE e n (a + 6) + 1))) (nI (cnE e n (a + 6) + 1)) q lt m1 m2 m3 m4 bd fc hd sz el t g fm hm so si sh ce ca td wa kp la bf oo bo pw ow tr)) at_X2_readPerson_35 rfl rfl (Nat.le_of_ble_eq_true rfl) rfl (ab_rvOf w34 rfl) (w_nux (f := cnE e n (a + 6) + 1) (by omega)) (by decide) rfl ?_
                  refine E_istore (L2 := [some (.ref 34), some (.int (nI a)), some (.int (nI (nuV e n (a + 7)))), some (.int (nI (nuV e n (cnE e n (a + 6) + 1)))), some (.int (nI 0))]) at_X2_readPerson_38 rfl ?_
                  refine E_aload_n at_X2_readPerson_40 rfl ?_
                  refine E_getfield (v := .int (nI (cnE e n (a + 6) + 1))) at_X2_readPerson_41 w34 rfl (by decide) rfl ?_
                  refine E_iconst (x := (-1)) at_X2_readPerson_44 (by decide) ?_
                  refine E_ic (t := 60) (b := true) at_X2_readPerson_45 rfl ((cn_ne (nI_toInt (by omega)) (by decide : (-1 : Int32).toInt = -1)).trans (decide_eq_true (by omega))) ?_
                  exact E_vret at_X2_readPerson_60 rfl
                refine E_callV (v := none) (As := [.ref 34, .int (nI a)]) (r0 := []) (cs2 := (ww im lf s d k ls (nI (cnE e n (a + 6) + 1)) (nI n) (nI (nuE e n (cnE e n (a + 6) + 1))) (nI (cnE e n (a + 6) + 1)) q lt m1 m2 m3 m4 bd fc hd sz el t g fm hm so si sh ce ca td wa kp la bf oo bo pw ow tr)) at_X2_readItem_66 rfl rfl (Nat.le_of_ble_eq_true rfl) rfl (ab_rvOf w34 rfl) e2 (by decide) w_lens ?_
                refine E_goto (t := 110) at_X2_readItem_69 rfl ?_
                exact E_vret at_X2_readItem_110 rfl
    · have hz := mtc_n (e := e) (n := n) [112, 101, 114, 115, 111, 110] a ha
      have hz_ : a + mj1 e n a ≤ n := hz
      have hI : itF e n q a = a + 1 := (it_1 (q := q) hw).1.trans (by rw [if_pos (by omega)])
      refine ⟨q, (nI a), (nI (a + 6)), rn, ?_, Or.inr ⟨a, by omega, rfl, by omega, rfl⟩⟩
      refine Ef.in (md := mX2_readItem) (L := [some (.ref 34), none, none]) rfl (Nat.le_of_ble_eq_true rfl) rfl ?_
      refine E_aload_n at_X2_readItem_0 rfl ?_
      refine E_getfield (v := .int (nI a)) at_X2_readItem_1 w34 rfl (by decide) rfl ?_
      refine E_istore_n (L2 := [some (.ref 34), some (.int (nI a)), none]) at_X2_readItem_4 rfl ?_
      refine E_aload_n at_X2_readItem_5 rfl ?_
      refine E_callV (v := some (.int (nI 1))) (As := [.ref 34]) (r0 := []) (cs2 := (ww im lf s d k ls (-1) (nI n) (nI (a + 6)) rn q lt m1 m2 m3 m4 bd fc hd sz el t g fm hm so si sh ce ca td wa kp la bf oo bo pw ow tr)) at_X2_readItem_6 rfl rfl (Nat.le_of_ble_eq_true rfl) rfl (ab_rvOf w34 rfl) (w_rw1 hn ha l_lt hlt hw) (by decide) w_lens ?_
      refine E_istore_n (L2 := [some (.ref 34), some (.int (nI a)), some (.int (nI 1))]) at_X2_readItem_9 rfl ?_
      refine E_aload_n at_X2_readItem_10 rfl ?_
      refine E_getfield (v := .int (-1)) at_X2_readItem_11 w34 rfl (by decide) rfl ?_
      refine E_iconst (x := (-1)) at_X2_readItem_14 (by decide) ?_
      refine E_ic (t := 19) (b := true) at_X2_readItem_15 rfl (by decide) ?_
      refine E_iload_n at_X2_readItem_19 rfl ?_
      refine E_tsIn (off := 44) (t := 64) at_X2_readItem_20 (by decide) rfl rfl ?_
      refine E_aload_n at_X2_readItem_64 rfl ?_
      refine E_iload_n at_X2_readItem_65 rfl ?_
      have e2 : Ev ab_Z0 4 17 [.ref 34, .int (nI a)] (ww im lf s d k ls (-1) (nI n) (nI (a + 6)) rn q lt m1 m2 m3 m4 bd fc hd sz el t g fm hm so si sh ce ca td wa kp la bf oo bo pw ow tr) (none, (ww im lf s d k ls (nI a) (nI n) (nI (a + 6)) rn q lt m1 m2 m3 m4 bd fc hd sz el t g fm hm so si sh ce ca td wa kp la bf oo bo pw ow tr)) := by
        refine Ef.in (md := mX2_readPerson) (L := [some (.ref 34), some (.int (nI a)), none, none, none]) rfl (Nat.le_of_ble_eq_true rfl) rfl ?_
        refine E_aload_n at_X2_readPerson_0 rfl ?_
        refine E_getfield (v := .ref 35) at_X2_readPerson_1 w34 rfl (by decide) rfl ?_
        have e1 : Ev ab_Z0 1 53 [.ref 35] (ww im lf s d k ls (-1) (nI n) (nI (a + 6)) rn q lt m1 m2 m3 m4 bd fc hd sz el t g fm hm so si sh ce ca td wa kp la bf oo bo pw ow tr) (some (.int (nI 0)), (ww im lf s d k ls (-1) (nI n) (nI (a + 6)) rn q lt m1 m2 m3 m4 bd fc hd sz el t g fm hm so si sh ce ca td wa kp la bf oo bo pw ow tr)) := by
          refine Ef.in (md := mX4_hasRoomForPerson) (L := [some (.ref 35)]) rfl (Nat.le_of_ble_eq_true rfl) rfl ?_
          refine E_aload_n at_X4_hasRoomForPerson_0 rfl ?_
          refine E_getfield (v := .int (nI (qM q))) at_X4_hasRoomForPerson_1 w35 rfl (by decide) rfl ?_
          refine E_bipush (x := nI 6) at_X4_hasRoomForPerson_4 (by decide) ?_
          refine E_ic (t := 13) (b := true) at_X4_hasRoomForPerson_6 rfl ((cn_ge (nI_toInt (by omega)) (nI_toInt (by omega))).trans (decide_eq_true (by omega))) ?_
          refine E_iconst (x := nI 0) rfl (by decide) ?_
          exact E_iret at_X4_hasRoomForPerson_14 rfl
        refine E_callV (v := some (.int (nI 0))) (As := [.ref 35]) (r0 := []) (cs2 := (ww im lf s d k ls (-1) (nI n) (nI (a + 6)) rn q lt m1 m2 m3 m4 bd fc hd sz el t g fm hm so si sh ce ca td wa kp la bf oo bo pw ow tr)) at_X2_readPerson_4 rfl rfl (Nat.le_of_ble_eq_true rfl) rfl (ab_rvOf w35 rfl) e1 (by decide) rfl ?_
        refine E_if (t := 15) (b := false) at_X2_readPerson_7 rfl (by decide) ?_
        refine E_aload_n rfl rfl ?_
        refine E_iload_n rfl rfl ?_
        refine E_putfield (cs2 := (ww im lf s d k ls (nI a) (nI n) (nI (a + 6)) rn q lt m1 m2 m3 m4 bd fc hd sz el t g fm hm so si sh ce ca td wa kp la bf oo bo pw ow tr)) rfl w34 rfl (by decide) (Nat.le_of_ble_eq_true rfl) rfl rfl rfl rfl ?_
        refine E_aload_n at_X2_readPerson_15 rfl ?_
        refine E_iconst (x := nI 0) at_X2_readPerson_16 (by decide) ?_
        refine E_bipush (x := nI 99) at_X2_readPerson_17 (by decide) ?_
        refine E_callV (v := some (.int (nI 0))) (As := [.ref 34, .int (nI 0), .int (nI 99)]) (r0 := []) (cs2 := (ww im lf s d k ls (nI a) (nI n) (nI (a + 6)) rn q lt m1 m2 m3 m4 bd fc hd sz el t g fm hm so si sh ce ca td wa kp la bf oo bo pw ow tr)) at_X2_readPerson_19 rfl rfl (Nat.le_of_ble_eq_true rfl) rfl (ab_rvOf w34 rfl) (w_nux (f := a) (by omega)) (by decide) rfl ?_
        refine E_istore_n (L2 := [some (.ref 34), some (.int (nI a)), some (.int (nI 0)), none, none]) at_X2_readPerson_22 rfl ?_
        refine E_aload_n at_X2_readPerson_23 rfl ?_
        refine E_iconst (x := nI 0) at_X2_readPerson_24 (by decide) ?_
        refine E_bipush (x := nI 9) at_X2_readPerson_25 (by decide) ?_
        refine E_callV (v := some (.int (nI 0))) (As := [.ref 34, .int (nI 0), .int (nI 9)]) (r0 := []) (cs2 := (ww im lf s d k ls (nI a) (nI n) (nI (a + 6)) rn q lt m1 m2 m3 m4 bd fc hd sz el t g fm hm so si sh ce ca td wa kp la bf oo bo pw ow tr)) at_X2_readPerson_27 rfl rfl (Nat.le_of_ble_eq_true rfl) rfl (ab_rvOf w34 rfl) (w_nux (f := a) (by omega)) (by decide) rfl ?_
        refine E_istore_n (L2 := [some (.ref 34), some (.int (nI a)), some (.int (nI 0)), some (.int (nI 0)), none]) at_X2_readPerson_30 rfl ?_
        refine E_aload_n at_X2_readPerson_31 rfl ?_
        refine E_iconst (x := nI 0) at_X2_readPerson_32 (by decide) ?_
        refine E_bipush (x := nI 7) at_X2_readPerson_33 (by decide) ?_
        refine E_callV (v := some (.int (nI 0))) (As := [.ref 34, .int (nI 0), .int (nI 7)]) (r0 := []) (cs2 := (ww im lf s d k ls (nI a) (nI n) (nI (a + 6)) rn q lt m1 m2 m3 m4 bd fc hd sz el t g fm hm so si sh ce ca td wa kp la bf oo bo pw ow tr)) at_X2_readPerson_35 rfl rfl (Nat.le_of_ble_eq_true rfl) rfl (ab_rvOf w34 rfl) (w_nux (f := a) (by omega)) (by decide) rfl ?_
        refine E_istore (L2 := [some (.ref 34), some (.int (nI a)), some (.int (nI 0)), some (.int (nI 0)), some (.int (nI 0))]) at_X2_readPerson_38 rfl ?_
        refine E_aload_n at_X2_readPerson_40 rfl ?_
        refine E_getfield (v := .int (nI a)) at_X2_readPerson_41 w34 rfl (by decide) rfl ?_
        refine E_iconst (x := (-1)) at_X2_readPerson_44 (by decide) ?_
        refine E_ic (t := 60) (b := true) at_X2_readPerson_45 rfl ((cn_ne (nI_toInt (by omega)) (by decide : (-1 : Int32).toInt = -1)).trans (decide_eq_true (by omega))) ?_
        exact E_vret at_X2_readPerson_60 rfl
      refine E_callV (v := none) (As := [.ref 34, .int (nI a)]) (r0 := []) (cs2 := (ww im lf s d k ls (nI a) (nI n) (nI (a + 6)) rn q lt m1 m2 m3 m4 bd fc hd sz el t g fm hm so si sh ce ca td wa kp la bf oo bo pw ow tr)) at_X2_readItem_66 rfl rfl (Nat.le_of_ble_eq_true rfl) rfl (ab_rvOf w34 rfl) e2 (by decide) w_lens ?_
      refine E_goto (t := 110) at_X2_readItem_69 rfl ?_
      exact E_vret at_X2_readItem_110 rfl
  · rcases bo2 (chB e n (a + 4) 32) with hb0 | hb0
    · have hz := mtc_n (e := e) (n := n) [99, 111, 115, 116] a ha
      have hz_ : a + mj2 e n a ≤ n := hz
      have hF0 : nuF e n (a + 4) 0 8 = a + 4 + 1 := nuF_A hb0
      have hI : itF e n q a = a + 5 := (it_2 (q := q) hw).1.trans (by unfold s2F; rw [if_neg (by omega)]; exact hF0)
      refine ⟨q, (nI (a + 4)), (nI (a + 4)), rn, ?_, Or.inr ⟨a + 4, by omega, rfl, by omega, rfl⟩⟩
      refine Ef.in (md := mX2_readItem) (L := [some (.ref 34), none, none]) rfl (Nat.le_of_ble_eq_true rfl) rfl ?_
      refine E_aload_n at_X2_readItem_0 rfl ?_
      refine E_getfield (v := .int (nI a)) at_X2_readItem_1 w34 rfl (by decide) rfl ?_
      refine E_istore_n (L2 := [some (.ref 34), some (.int (nI a)), none]) at_X2_readItem_4 rfl ?_
      refine E_aload_n at_X2_readItem_5 rfl ?_
      refine E_callV (v := some (.int (nI 2))) (As := [.ref 34]) (r0 := []) (cs2 := (ww im lf s d k ls (-1) (nI n) (nI (a + 4)) rn q lt m1 m2 m3 m4 bd fc hd sz el t g fm hm so si sh ce ca td wa kp la bf oo bo pw ow tr)) at_X2_readItem_6 rfl rfl (Nat.le_of_ble_eq_true rfl) rfl (ab_rvOf w34 rfl) (w_rw2 hn ha l_lt hlt hw) (by decide) w_lens ?_
      refine E_istore_n (L2 := [some (.ref 34), some (.int (nI a)), some (.int (nI 2))]) at_X2_readItem_9 rfl ?_
      refine E_aload_n at_X2_readItem_10 rfl ?_
      refine E_getfield (v := .int (-1)) at_X2_readItem_11 w34 rfl (by decide) rfl ?_
      refine E_iconst (x := (-1)) at_X2_readItem_14 (by decide) ?_
      refine E_ic (t := 19) (b := true) at_X2_readItem_15 rfl (by decide) ?_
      refine E_iload_n at_X2_readItem_19 rfl ?_
      refine E_tsIn (off := 52) (t := 72) at_X2_readItem_20 (by decide) rfl rfl ?_
      refine E_aload_n at_X2_readItem_72 rfl ?_
      have e1 : Ev ab_Z0 4 18 [.ref 34] (ww im lf s d k ls (-1) (nI n) (nI (a + 4)) rn q lt m1 m2 m3 m4 bd fc hd sz el t g fm hm so si sh ce ca td wa kp la bf oo bo pw ow tr) (none, (ww im lf s d k ls (nI (a + 4)) (nI n) (nI (a + 4)) rn q lt m1 m2 m3 m4 bd fc hd sz el t g fm hm so si sh ce ca td wa kp la bf oo bo pw ow tr)) := by
        refine Ef.in (md := mX2_readCost) (L := [some (.ref 34), none, none]) rfl (Nat.le_of_ble_eq_true rfl) rfl ?_
        refine E_aload_n at_X2_readCost_0 rfl ?_
        refine E_iconst (x := nI 0) at_X2_readCost_1 (by decide) ?_
        refine E_bipush (x := nI 7) at_X2_readCost_2 (by decide) ?_
        refine E_callV (v := some (.int (nI 0))) (As := [.ref 34, .int (nI 0), .int (nI 7)]) (r0 := []) (cs2 := (ww im lf s d k ls (nI (a + 4)) (nI n) (nI (a + 4)) rn q lt m1 m2 m3 m4 bd fc hd sz el t g fm hm so si sh ce ca td wa kp la bf oo bo pw ow tr)) at_X2_readCost_4 rfl rfl (Nat.le_of_ble_eq_true rfl) rfl (ab_rvOf w34 rfl) (w_nuA (a := a + 4) (hi := nI 7) (by decide) hn (by omega) l_lt hlt hb0) (by decide) w_lens ?_
        refine E_istore_n (L2 := [some (.ref 34), some (.int (nI 0)), none]) at_X2_readCost_7 rfl ?_
        refine E_aload_n at_X2_readCost_8 rfl ?_
        refine E_iconst (x := nI 1) at_X2_readCost_9 (by decide) ?_
        refine E_bipush (x := nI 60) at_X2_readCost_10 (by decide) ?_
        refine E_callV (v := some (.int (nI 0))) (As := [.ref 34, .int (nI 1), .int (nI 60)]) (r0 := []) (cs2 := (ww im lf s d k ls (nI (a + 4)) (nI n) (nI (a + 4)) rn q lt m1 m2 m3 m4 bd fc hd sz el t g fm hm so si sh ce ca td wa kp la bf oo bo pw ow tr)) at_X2_readCost_12 rfl rfl (Nat.le_of_ble_eq_true rfl) rfl (ab_rvOf w34 rfl) (w_nux (f := a + 4) (by omega)) (by decide) rfl ?_
        refine E_istore_n (L2 := [some (.ref 34), some (.int (nI 0)), some (.int (nI 0))]) at_X2_readCost_15 rfl ?_
        refine E_aload_n at_X2_readCost_16 rfl ?_
        refine E_getfield (v := .int (nI (a + 4))) at_X2_readCost_17 w34 rfl (by decide) rfl ?_
        refine E_iconst (x := (-1)) at_X2_readCost_20 (by decide) ?_
        refine E_ic (t := 34) (b := true) at_X2_readCost_21 rfl ((cn_ne (nI_toInt (by omega)) (by decide : (-1 : Int32).toInt = -1)).trans (decide_eq_true (by omega))) ?_
        exact E_vret at_X2_readCost_34 rfl
      refine E_callV (v := none) (As := [.ref 34]) (r0 := []) (cs2 := (ww im lf s d k ls (nI (a + 4)) (nI n) (nI (a + 4)) rn q lt m1 m2 m3 m4 bd fc hd sz el t g fm hm so si sh ce ca td wa kp la bf oo bo pw ow tr)) at_X2_readItem_73 rfl rfl (Nat.le_of_ble_eq_true rfl) rfl (ab_rvOf w34 rfl) e1 (by decide) w_lens ?_
      refine E_goto (t := 110) at_X2_readItem_76 rfl ?_
      exact E_vret at_X2_readItem_110 rfl
    · rcases bo2 (dgB e n (a + 5)) with hd0 | hd0
      · have hz := mtc_n (e := e) (n := n) [99, 111, 115, 116] a ha
        have hz_ : a + mj2 e n a ≤ n := hz
        have hb0_ := (chB_t hb0).1
        have hF0 : nuF e n (a + 4) 0 8 = a + 4 + 2 := nuF_B hb0 hd0
        have hI : itF e n q a = a + 6 := (it_2 (q := q) hw).1.trans (by unfold s2F; rw [if_neg (by omega)]; exact hF0)
        refine ⟨q, (nI (a + 5)), (nI (a + 5)), rn, ?_, Or.inr ⟨a + 5, by omega, rfl, by omega, rfl⟩⟩
        refine Ef.in (md := mX2_readItem) (L := [some (.ref 34), none, none]) rfl (Nat.le_of_ble_eq_true rfl) rfl ?_
        refine E_aload_n at_X2_readItem_0 rfl ?_
        refine E_getfield (v := .int (nI a)) at_X2_readItem_1 w34 rfl (by decide) rfl ?_
        refine E_istore_n (L2 := [some (.ref 34), some (.int (nI a)), none]) at_X2_readItem_4 rfl ?_
        refine E_aload_n at_X2_readItem_5 rfl ?_
        refine E_callV (v := some (.int (nI 2))) (As := [.ref 34]) (r0 := []) (cs2 := (ww im lf s d k ls (-1) (nI n) (nI (a + 4)) rn q lt m1 m2 m3 m4 bd fc hd sz el t g fm hm so si sh ce ca td wa kp la bf oo bo pw ow tr)) at_X2_readItem_6 rfl rfl (Nat.le_of_ble_eq_true rfl) rfl (ab_rvOf w34 rfl) (w_rw2 hn ha l_lt hlt hw) (by decide) w_lens ?_
        refine E_istore_n (L2 := [some (.ref 34), some (.int (nI a)), some (.int (nI 2))]) at_X2_readItem_9 rfl ?_
        refine E_aload_n at_X2_readItem_10 rfl ?_
        refine E_getfield (v := .int (-1)) at_X2_readItem_11 w34 rfl (by decide) rfl ?_
        refine E_iconst (x := (-1)) at_X2_readItem_14 (by decide) ?_
        refine E_ic (t := 19) (b := true) at_X2_readItem_15 rfl (by decide) ?_
        refine E_iload_n at_X2_readItem_19 rfl ?_
        refine E_tsIn (off := 52) (t := 72) at_X2_readItem_20 (by decide) rfl rfl ?_
        refine E_aload_n at_X2_readItem_72 rfl ?_
        have e1 : Ev ab_Z0 4 18 [.ref 34] (ww im lf s d k ls (-1) (nI n) (nI (a + 4)) rn q lt m1 m2 m3 m4 bd fc hd sz el t g fm hm so si sh ce ca td wa kp la bf oo bo pw ow tr) (none, (ww im lf s d k ls (nI (a + 5)) (nI n) (nI (a + 5)) rn q lt m1 m2 m3 m4 bd fc hd sz el t g fm hm so si sh ce ca td wa kp la bf oo bo pw ow tr)) := by
          refine Ef.in (md := mX2_readCost) (L := [some (.ref 34), none, none]) rfl (Nat.le_of_ble_eq_true rfl) rfl ?_
          refine E_aload_n at_X2_readCost_0 rfl ?_
          refine E_iconst (x := nI 0) at_X2_readCost_1 (by decide) ?_
          refine E_bipush (x := nI 7) at_X2_readCost_2 (by decide) ?_
          refine E_callV (v := some (.int (nI 0))) (As := [.ref 34, .int (nI 0), .int (nI 7)]) (r0 := []) (cs2 := (ww im lf s d k ls (nI (a + 5)) (nI n) (nI (a + 5)) rn q lt m1 m2 m3 m4 bd fc hd sz el t g fm hm so si sh ce ca td wa kp la bf oo bo pw ow tr)) at_X2_readCost_4 rfl rfl (Nat.le_of_ble_eq_true rfl) rfl (ab_rvOf w34 rfl) (w_nuB (a := a + 4) (hi := nI 7) (by decide) hn (by omega) l_lt hlt hb0 hd0) (by decide) w_lens ?_
          refine E_istore_n (L2 := [some (.ref 34), some (.int (nI 0)), none]) at_X2_readCost_7 rfl ?_
          refine E_aload_n at_X2_readCost_8 rfl ?_
          refine E_iconst (x := nI 1) at_X2_readCost_9 (by decide) ?_
          refine E_bipush (x := nI 60) at_X2_readCost_10 (by decide) ?_
          refine E_callV (v := some (.int (nI 0))) (As := [.ref 34, .int (nI 1), .int (nI 60)]) (r0 := []) (cs2 := (ww im lf s d k ls (nI (a + 5)) (nI n) (nI (a + 5)) rn q lt m1 m2 m3 m4 bd fc hd sz el t g fm hm so si sh ce ca td wa kp la bf oo bo pw ow tr)) at_X2_readCost_12 rfl rfl (Nat.le_of_ble_eq_true rfl) rfl (ab_rvOf w34 rfl) (w_nux (f := a + 5) (by omega)) (by decide) rfl ?_
          refine E_istore_n (L2 := [some (.ref 34), some (.int (nI 0)), some (.int (nI 0))]) at_X2_readCost_15 rfl ?_
          refine E_aload_n at_X2_readCost_16 rfl ?_
          refine E_getfield (v := .int (nI (a + 5))) at_X2_readCost_17 w34 rfl (by decide) rfl ?_
          refine E_iconst (x := (-1)) at_X2_readCost_20 (by decide) ?_
          refine E_ic (t := 34) (b := true) at_X2_readCost_21 rfl ((cn_ne (nI_toInt (by omega)) (by decide : (-1 : Int32).toInt = -1)).trans (decide_eq_true (by omega))) ?_
          exact E_vret at_X2_readCost_34 rfl
        refine E_callV (v := none) (As := [.ref 34]) (r0 := []) (cs2 := (ww im lf s d k ls (nI (a + 5)) (nI n) (nI (a + 5)) rn q lt m1 m2 m3 m4 bd fc hd sz el t g fm hm so si sh ce ca td wa kp la bf oo bo pw ow tr)) at_X2_readItem_73 rfl rfl (Nat.le_of_ble_eq_true rfl) rfl (ab_rvOf w34 rfl) e1 (by decide) w_lens ?_
        refine E_goto (t := 110) at_X2_readItem_76 rfl ?_
        exact E_vret at_X2_readItem_110 rfl
      · rcases Nat.lt_or_ge (nuV e n (a + 5)) (8) with hr0 | hr0
        · rcases bo2 (chB e n (cnE e n (a + 4)) 32) with hb1 | hb1
          · have hz := mtc_n (e := e) (n := n) [99, 111, 115, 116] a ha
            have hz_ : a + mj2 e n a ≤ n := hz
            have hb0_ := (chB_t hb0).1
            have hd0_ := (dgB_t hd0).1
            have hV0 := nuV_99 hd0
            have hc0 := cnE_n hd0
            have hF0 : nuF e n (a + 4) 0 8 = 0 := nuF_C hb0 hd0 (show ¬ (nuV e n (a + 5) < 0 ∨ 8 ≤ nuV e n (a + 5)) from by omega)
            have hF1 : nuF e n (cnE e n (a + 4)) 1 61 = cnE e n (a + 4) + 1 := nuF_A hb1
            have hI : itF e n q a = cnE e n (a + 4) + 1 := (it_2 (q := q) hw).1.trans (by unfold s2F; rw [if_pos hF0]; exact hF1)
            refine ⟨q, (nI (cnE e n (a + 4))), (nI (cnE e n (a + 4))), (nI (a + 5)), ?_, Or.inr ⟨cnE e n (a + 4), by omega, rfl, by omega, rfl⟩⟩
            refine Ef.in (md := mX2_readItem) (L := [some (.ref 34), none, none]) rfl (Nat.le_of_ble_eq_true rfl) rfl ?_
            refine E_aload_n at_X2_readItem_0 rfl ?_
            refine E_getfield (v := .int (nI a)) at_X2_readItem_1 w34 rfl (by decide) rfl ?_
            refine E_istore_n (L2 := [some (.ref 34), some (.int (nI a)), none]) at_X2_readItem_4 rfl ?_
            refine E_aload_n at_X2_readItem_5 rfl ?_
            refine E_callV (v := some (.int (nI 2))) (As := [.ref 34]) (r0 := []) (cs2 := (ww im lf s d k ls (-1) (nI n) (nI (a + 4)) rn q lt m1 m2 m3 m4 bd fc hd sz el t g fm hm so si sh ce ca td wa kp la bf oo bo pw ow tr)) at_X2_readItem_6 rfl rfl (Nat.le_of_ble_eq_true rfl) rfl (ab_rvOf w34 rfl) (w_rw2 hn ha l_lt hlt hw) (by decide) w_lens ?_
            refine E_istore_n (L2 := [some (.ref 34), some (.int (nI a)), some (.int (nI 2))]) at_X2_readItem_9 rfl ?_
            refine E_aload_n at_X2_readItem_10 rfl ?_
            refine E_getfield (v := .int (-1)) at_X2_readItem_11 w34 rfl (by decide) rfl ?_
            refine E_iconst (x := (-1)) at_X2_readItem_14 (by decide) ?_
            refine E_ic (t := 19) (b := true) at_X2_readItem_15 rfl (by decide) ?_
            refine E_iload_n at_X2_readItem_19 rfl ?_
            refine E_tsIn (off := 52) (t := 72) at_X2_readItem_20 (by decide) rfl rfl ?_
            refine E_aload_n at_X2_readItem_72 rfl ?_
            have e1 : Ev ab_Z0 4 18 [.ref 34] (ww im lf s d k ls (-1) (nI n) (nI (a + 4)) rn q lt m1 m2 m3 m4 bd fc hd sz el t g fm hm so si sh ce ca td wa kp la bf oo bo pw ow tr) (none, (ww im lf s d k ls (nI (cnE e n (a + 4))) (nI n) (nI (cnE e n (a + 4))) (nI (a + 5)) q lt m1 m2 m3 m4 bd fc hd sz el t g fm hm so si sh ce ca td wa kp la bf oo bo pw ow tr)) := by
              refine Ef.in (md := mX2_readCost) (L := [some (.ref 34), none, none]) rfl (Nat.le_of_ble_eq_true rfl) rfl ?_
              refine E_aload_n at_X2_readCost_0 rfl ?_
              refine E_iconst (x := nI 0) at_X2_readCost_1 (by decide) ?_
              refine E_bipush (x := nI 7) at_X2_readCost_2 (by decide) ?_
              refine E_callV (v := some (.int (nI (nuV e n (a + 5))))) (As := [.ref 34, .int (nI 0), .int (nI 7)]) (r0 := []) (cs2 := (ww im lf s d k ls (-1) (nI n) (nI (cnE e n (a + 4))) (nI (a + 5)) q lt m1 m2 m3 m4 bd fc hd sz el t g fm hm so si sh ce ca td wa kp la bf oo bo pw ow tr)) at_X2_readCost_4 rfl rfl (Nat.le_of_ble_eq_true rfl) rfl (ab_rvOf w34 rfl) (w_nuC (a := a + 4) (hi := nI 7) (by decide) hn (by omega) l_lt hlt hb0 hd0 (show 0 ≤ nuV e n (a + 5) from by omega) (show ((nuV e n (a + 5) : Nat) : Int) ≤ (nI 7).toInt from by rw [(nI_toInt (by omega) : (nI 7).toInt = ((7 : Nat) : Int))]; omega)) (by decide) w_lens ?_
              refine E_istore_n (L2 := [some (.ref 34), some (.int (nI (nuV e n (a + 5)))), none]) at_X2_readCost_7 rfl ?_
              refine E_aload_n at_X2_readCost_8 rfl ?_
              refine E_iconst (x := nI 1) at_X2_readCost_9 (by decide) ?_
              refine E_bipush (x := nI 60) at_X2_readCost_10 (by decide) ?_
              refine E_callV (v := some (.int (nI 0))) (As := [.ref 34, .int (nI 1), .int (nI 60)]) (r0 := []) (cs2 := (ww im lf s d k ls (nI (cnE e n (a + 4))) (nI n) (nI (cnE e n (a + 4))) (nI (a + 5)) q lt m1 m2 m3 m4 bd fc hd sz el t g fm hm so si sh ce ca td wa kp la bf oo bo pw ow tr)) at_X2_readCost_12 rfl rfl (Nat.le_of_ble_eq_true rfl) rfl (ab_rvOf w34 rfl) (w_nuA (a := cnE e n (a + 4)) (hi := nI 60) (by decide) hn (by omega) l_lt hlt hb1) (by decide) w_lens ?_
              refine E_istore_n (L2 := [some (.ref 34), some (.int (nI (nuV e n (a + 5)))), some (.int (nI 0))]) at_X2_readCost_15 rfl ?_
              refine E_aload_n at_X2_readCost_16 rfl ?_
              refine E_getfield (v := .int (nI (cnE e n (a + 4)))) at_X2_readCost_17 w34 rfl (by decide) rfl ?_
              refine E_iconst (x := (-1)) at_X2_readCost_20 (by decide) ?_
              refine E_ic (t := 34) (b := true) at_X2_readCost_21 rfl ((cn_ne (nI_toInt (by omega)) (by decide : (-1 : Int32).toInt = -1)).trans (decide_eq_true (by omega))) ?_
              exact E_vret at_X2_readCost_34 rfl
            refine E_callV (v := none) (As := [.ref 34]) (r0 := []) (cs2 := (ww im lf s d k ls (nI (cnE e n (a + 4))) (nI n) (nI (cnE e n (a + 4))) (nI (a + 5)) q lt m1 m2 m3 m4 bd fc hd sz el t g fm hm so si sh ce ca td wa kp la bf oo bo pw ow tr)) at_X2_readItem_73 rfl rfl (Nat.le_of_ble_eq_true rfl) rfl (ab_rvOf w34 rfl) e1 (by decide) w_lens ?_
            refine E_goto (t := 110) at_X2_readItem_76 rfl ?_
            exact E_vret at_X2_readItem_110 rfl
          · rcases bo2 (dgB e n (cnE e n (a + 4) + 1)) with hd1 | hd1
            · have hz := mtc_n (e := e) (n := n) [99, 111, 115, 116] a ha
              have hz_ : a + mj2 e n a ≤ n := hz
              have hb0_ := (chB_t hb0).1
              have hd0_ := (dgB_t hd0).1
              have hV0 := nuV_99 hd0
              have hc0 := cnE_n hd0
              have hb1_ := (chB_t hb1).1
              have hF0 : nuF e n (a + 4) 0 8 = 0 := nuF_C hb0 hd0 (show ¬ (nuV e n (a + 5) < 0 ∨ 8 ≤ nuV e n (a + 5)) from by omega)
              have hF1 : nuF e n (cnE e n (a + 4)) 1 61 = cnE e n (a + 4) + 2 := nuF_B hb1 hd1
              have hI : itF e n q a = cnE e n (a + 4) + 2 := (it_2 (q := q) hw).1.trans (by unfold s2F; rw [if_pos hF0]; exact hF1)
              refine ⟨q, (nI (cnE e n (a + 4) + 1)), (nI (cnE e n (a + 4) + 1)), (nI (a + 5)), ?_, Or.inr ⟨cnE e n (a + 4) + 1, by omega, rfl, by omega, rfl⟩⟩
              refine Ef.in (md := mX2_readItem) (L := [some (.ref 34), none, none]) rfl (Nat.le_of_ble_eq_true rfl) rfl ?_
              refine E_aload_n at_X2_readItem_0 rfl ?_
              refine E_getfield (v := .int (nI a)) at_X2_readItem_1 w34 rfl (by decide) rfl ?_
              refine E_istore_n (L2 := [some (.ref 34), some (.int (nI a)), none]) at_X2_readItem_4 rfl ?_
              refine E_aload_n at_X2_readItem_5 rfl ?_
              refine E_callV (v := some (.int (nI 2))) (As := [.ref 34]) (r0 := []) (cs2 := (ww im lf s d k ls (-1) (nI n) (nI (a + 4)) rn q lt m1 m2 m3 m4 bd fc hd sz el t g fm hm so si sh ce ca td wa kp la bf oo bo pw ow tr)) at_X2_readItem_6 rfl rfl (Nat.le_of_ble_eq_true rfl) rfl (ab_rvOf w34 rfl) (w_rw2 hn ha l_lt hlt hw) (by decide) w_lens ?_
              refine E_istore_n (L2 := [some (.ref 34), some (.int (nI a)), some (.int (nI 2))]) at_X2_readItem_9 rfl ?_
              refine E_aload_n at_X2_readItem_10 rfl ?_
              refine E_getfield (v := .int (-1)) at_X2_readItem_11 w34 rfl (by decide) rfl ?_
              refine E_iconst (x := (-1)) at_X2_readItem_14 (by decide) ?_
              refine E_ic (t := 19) (b := true) at_X2_readItem_15 rfl (by decide) ?_
              refine E_iload_n at_X2_readItem_19 rfl ?_
              refine E_tsIn (off := 52) (t := 72) at_X2_readItem_20 (by decide) rfl rfl ?_
              refine E_aload_n at_X2_readItem_72 rfl ?_
              have e1 : Ev ab_Z0 4 18 [.ref 34] (ww im lf s d k ls (-1) (nI n) (nI (a + 4)) rn q lt m1 m2 m3 m4 bd fc hd sz el t g fm hm so si sh ce ca td wa kp la bf oo bo pw ow tr) (none, (ww im lf s d k ls (nI (cnE e n (a + 4) + 1)) (nI n) (nI (cnE e n (a + 4) + 1)) (nI (a + 5)) q lt m1 m2 m3 m4 bd fc hd sz el t g fm hm so si sh ce ca td wa kp la bf oo bo pw ow tr)) := by
                refine Ef.in (md := mX2_readCost) (L := [some (.ref 34), none, none]) rfl (Nat.le_of_ble_eq_true rfl) rfl ?_
                refine E_aload_n at_X2_readCost_0 rfl ?_
                refine E_iconst (x := nI 0) at_X2_readCost_1 (by decide) ?_
                refine E_bipush (x := nI 7) at_X2_readCost_2 (by decide) ?_
                refine E_callV (v := some (.int (nI (nuV e n (a + 5))))) (As := [.ref 34, .int (nI 0), .int (nI 7)]) (r0 := []) (cs2 := (ww im lf s d k ls (-1) (nI n) (nI (cnE e n (a + 4))) (nI (a + 5)) q lt m1 m2 m3 m4 bd fc hd sz el t g fm hm so si sh ce ca td wa kp la bf oo bo pw ow tr)) at_X2_readCost_4 rfl rfl (Nat.le_of_ble_eq_true rfl) rfl (ab_rvOf w34 rfl) (w_nuC (a := a + 4) (hi := nI 7) (by decide) hn (by omega) l_lt hlt hb0 hd0 (show 0 ≤ nuV e n (a + 5) from by omega) (show ((nuV e n (a + 5) : Nat) : Int) ≤ (nI 7).toInt from by rw [(nI_toInt (by omega) : (nI 7).toInt = ((7 : Nat) : Int))]; omega)) (by decide) w_lens ?_
                refine E_istore_n (L2 := [some (.ref 34), some (.int (nI (nuV e n (a + 5)))), none]) at_X2_readCost_7 rfl ?_
                refine E_aload_n at_X2_readCost_8 rfl ?_
                refine E_iconst (x := nI 1) at_X2_readCost_9 (by decide) ?_
                refine E_bipush (x := nI 60) at_X2_readCost_10 (by decide) ?_
                refine E_callV (v := some (.int (nI 0))) (As := [.ref 34, .int (nI 1), .int (nI 60)]) (r0 := []) (cs2 := (ww im lf s d k ls (nI (cnE e n (a + 4) + 1)) (nI n) (nI (cnE e n (a + 4) + 1)) (nI (a + 5)) q lt m1 m2 m3 m4 bd fc hd sz el t g fm hm so si sh ce ca td wa kp la bf oo bo pw ow tr)) at_X2_readCost_12 rfl rfl (Nat.le_of_ble_eq_true rfl) rfl (ab_rvOf w34 rfl) (w_nuB (a := cnE e n (a + 4)) (hi := nI 60) (by decide) hn (by omega) l_lt hlt hb1 hd1) (by decide) w_lens ?_
                refine E_istore_n (L2 := [some (.ref 34), some (.int (nI (nuV e n (a + 5)))), some (.int (nI 0))]) at_X2_readCost_15 rfl ?_
                refine E_aload_n at_X2_readCost_16 rfl ?_
                refine E_getfield (v := .int (nI (cnE e n (a + 4) + 1))) at_X2_readCost_17 w34 rfl (by decide) rfl ?_
                refine E_iconst (x := (-1)) at_X2_readCost_20 (by decide) ?_
                refine E_ic (t := 34) (b := true) at_X2_readCost_21 rfl ((cn_ne (nI_toInt (by omega)) (by decide : (-1 : Int32).toInt = -1)).trans (decide_eq_true (by omega))) ?_
                exact E_vret at_X2_readCost_34 rfl
              refine E_callV (v := none) (As := [.ref 34]) (r0 := []) (cs2 := (ww im lf s d k ls (nI (cnE e n (a + 4) + 1)) (nI n) (nI (cnE e n (a + 4) + 1)) (nI (a + 5)) q lt m1 m2 m3 m4 bd fc hd sz el t g fm hm so si sh ce ca td wa kp la bf oo bo pw ow tr)) at_X2_readItem_73 rfl rfl (Nat.le_of_ble_eq_true rfl) rfl (ab_rvOf w34 rfl) e1 (by decide) w_lens ?_
              refine E_goto (t := 110) at_X2_readItem_76 rfl ?_
              exact E_vret at_X2_readItem_110 rfl
            · rcases Nat.lt_or_ge (nuV e n (cnE e n (a + 4) + 1)) 1 with hr1 | hr1
              · have hz := mtc_n (e := e) (n := n) [99, 111, 115, 116] a ha
                have hz_ : a + mj2 e n a ≤ n := hz
                have hb0_ := (chB_t hb0).1
                have hd0_ := (dgB_t hd0).1
                have hV0 := nuV_99 hd0
                have hc0 := cnE_n hd0
                have hb1_ := (chB_t hb1).1
                have hd1_ := (dgB_t hd1).1
                have hV1 := nuV_99 hd1
                have hF0 : nuF e n (a + 4) 0 8 = 0 := nuF_C hb0 hd0 (show ¬ (nuV e n (a + 5) < 0 ∨ 8 ≤ nuV e n (a + 5)) from by omega)
                have hF1 : nuF e n (cnE e n (a + 4)) 1 61 = cnE e n (a + 4) + 2 := nuF_D hb1 hd1 (show nuV e n (cnE e n (a + 4) + 1) < 1 ∨ 61 ≤ nuV e n (cnE e n (a + 4) + 1) from by omega)
                have hI : itF e n q a = cnE e n (a + 4) + 2 := (it_2 (q := q) hw).1.trans (by unfold s2F; rw [if_pos hF0]; exact hF1)
                refine ⟨q, (nI (cnE e n (a + 4) + 1)), (nI (nuE e n (cnE e n (a + 4) + 1))), (nI (cnE e n (a + 4) + 1)), ?_, Or.inr ⟨cnE e n (a + 4) + 1, by omega, rfl, by omega, rfl⟩⟩
                refine Ef.in (md := mX2_readItem) (L := [some (.ref 34), none, none]) rfl (Nat.le_of_ble_eq_true rfl) rfl ?_
                refine E_aload_n at_X2_readItem_0 rfl ?_
                refine E_getfield (v := .int (nI a)) at_X2_readItem_1 w34 rfl (by decide) rfl ?_
                refine E_istore_n (L2 := [some (.ref 34), some (.int (nI a)), none]) at_X2_readItem_4 rfl ?_
                refine E_aload_n at_X2_readItem_5 rfl ?_
                refine E_callV (v := some (.int (nI 2))) (As := [.ref 34]) (r0 := []) (cs2 := (ww im lf s d k ls (-1) (nI n) (nI (a + 4)) rn q lt m1 m2 m3 m4 bd fc hd sz el t g fm hm so si sh ce ca td wa kp la bf oo bo pw ow tr)) at_X2_readItem_6 rfl rfl (Nat.le_of_ble_eq_true rfl) rfl (ab_rvOf w34 rfl) (w_rw2 hn ha l_lt hlt hw) (by decide) w_lens ?_
                refine E_istore_n (L2 := [some (.ref 34), some (.int (nI a)), some (.int (nI 2))]) at_X2_readItem_9 rfl ?_
                refine E_aload_n at_X2_readItem_10 rfl ?_
                refine E_getfield (v := .int (-1)) at_X2_readItem_11 w34 rfl (by decide) rfl ?_
                refine E_iconst (x := (-1)) at_X2_readItem_14 (by decide) ?_
                refine E_ic (t := 19) (b := true) at_X2_readItem_15 rfl (by decide) ?_
                refine E_iload_n at_X2_readItem_19 rfl ?_
                refine E_tsIn (off := 52) (t := 72) at_X2_readItem_20 (by decide) rfl rfl ?_
                refine E_aload_n at_X2_readItem_72 rfl ?_
                have e1 : Ev ab_Z0 4 18 [.ref 34] (ww im lf s d k ls (-1) (nI n) (nI (a + 4)) rn q lt m1 m2 m3 m4 bd fc hd sz el t g fm hm so si sh ce ca td wa kp la bf oo bo pw ow tr) (none, (ww im lf s d k ls (nI (cnE e n (a + 4) + 1)) (nI n) (nI (nuE e n (cnE e n (a + 4) + 1))) (nI (cnE e n (a + 4) + 1)) q lt m1 m2 m3 m4 bd fc hd sz el t g fm hm so si sh ce ca td wa kp la bf oo bo pw ow tr)) := by
                  refine Ef.in (md := mX2_readCost) (L := [some (.ref 34), none, none]) rfl (Nat.le_of_ble_eq_true rfl) rfl ?_
                  refine E_aload_n at_X2_readCost_0 rfl ?_
                  refine E_iconst (x := nI 0) at_X2_readCost_1 (by decide) ?_
                  refine E_bipush (x := nI 7) at_X2_readCost_2 (by decide) ?_
                  refine E_callV (v := some (.int (nI (nuV e n (a + 5))))) (As := [.ref 34, .int (nI 0), .int (nI 7)]) (r0 := []) (cs2 := (ww im lf s d k ls (-1) (nI n) (nI (cnE e n (a + 4))) (nI (a + 5)) q lt m1 m2 m3 m4 bd fc hd sz el t g fm hm so si sh ce ca td wa kp la bf oo bo pw ow tr)) at_X2_readCost_4 rfl rfl (Nat.le_of_ble_eq_true rfl) rfl (ab_rvOf w34 rfl) (w_nuC (a := a + 4) (hi := nI 7) (by decide) hn (by omega) l_lt hlt hb0 hd0 (show 0 ≤ nuV e n (a + 5) from by omega) (show ((nuV e n (a + 5) : Nat) : Int) ≤ (nI 7).toInt from by rw [(nI_toInt (by omega) : (nI 7).toInt = ((7 : Nat) : Int))]; omega)) (by decide) w_lens ?_
                  refine E_istore_n (L2 := [some (.ref 34), some (.int (nI (nuV e n (a + 5)))), none]) at_X2_readCost_7 rfl ?_
                  refine E_aload_n at_X2_readCost_8 rfl ?_
                  refine E_iconst (x := nI 1) at_X2_readCost_9 (by decide) ?_
                  refine E_bipush (x := nI 60) at_X2_readCost_10 (by decide) ?_
                  refine E_callV (v := some (.int (nI (nuV e n (cnE e n (a + 4) + 1))))) (As := [.ref 34, .int (nI 1), .int (nI 60)]) (r0 := []) (cs2 := (ww im lf s d k ls (nI (cnE e n (a + 4) + 1)) (nI n) (nI (nuE e n (cnE e n (a + 4) + 1))) (nI (cnE e n (a + 4) + 1)) q lt m1 m2 m3 m4 bd fc hd sz el t g fm hm so si sh ce ca td wa kp la bf oo bo pw ow tr)) at_X2_readCost_12 rfl rfl (Nat.le_of_ble_eq_true rfl) rfl (ab_rvOf w34 rfl) (w_nuD (a := cnE e n (a + 4)) (hi := nI 60) (by decide) hn (by omega) l_lt hlt hb1 hd1 (show nuV e n (cnE e n (a + 4) + 1) < 1 ∨ (nI 60).toInt < ((nuV e n (cnE e n (a + 4) + 1) : Nat) : Int) from by rw [(nI_toInt (by omega) : (nI 60).toInt = ((60 : Nat) : Int))]; omega)) (by decide) w_lens ?_
                  refine E_istore_n (L2 := [some (.ref 34), some (.int (nI (nuV e n (a + 5)))), some (.int (nI (nuV e n (cnE e n (a + 4) + 1))))]) at_X2_readCost_15 rfl ?_
                  refine E_aload_n at_X2_readCost_16 rfl ?_
                  refine E_getfield (v := .int (nI (cnE e n (a + 4) + 1))) at_X2_readCost_17 w34 rfl (by decide) rfl ?_
                  refine E_iconst (x := (-1)) at_X2_readCost_20 (by decide) ?_
                  refine E_ic (t := 34) (b := true) at_X2_readCost_21 rfl ((cn_ne (nI_toInt (by omega)) (by decide : (-1 : Int32).toInt = -1)).trans (decide_eq_true (by omega))) ?_
                  exact E_vret at_X2_readCost_34 rfl
                refine E_callV (v := none) (As := [.ref 34]) (r0 := []) (cs2 := (ww im lf s d k ls (nI (cnE e n (a + 4) + 1)) (nI n) (nI (nuE e n (cnE e n (a + 4) + 1))) (nI (cnE e n (a + 4) + 1)) q lt m1 m2 m3 m4 bd fc hd sz el t g fm hm so si sh ce ca td wa kp la bf oo bo pw ow tr)) at_X2_readItem_73 rfl rfl (Nat.le_of_ble_eq_true rfl) rfl (ab_rvOf w34 rfl) e1 (by decide) w_lens ?_
                refine E_goto (t := 110) at_X2_readItem_76 rfl ?_
                exact E_vret at_X2_readItem_110 rfl
              · rcases Nat.lt_or_ge (nuV e n (cnE e n (a + 4) + 1)) (61) with hs1 | hs1
                · have hz := mtc_n (e := e) (n := n) [99, 111, 115, 116] a ha
                  have hz_ : a + mj2 e n a ≤ n := hz
                  have hb0_ := (chB_t hb0).1
                  have hd0_ := (dgB_t hd0).1
                  have hV0 := nuV_99 hd0
                  have hc0 := cnE_n hd0
                  have hb1_ := (chB_t hb1).1
                  have hd1_ := (dgB_t hd1).1
                  have hV1 := nuV_99 hd1
                  have hc1 := cnE_n hd1
                  have : (qC q).length = 8 := by first | omega | (simp only [List.length_set]; omega)
                  have hF0 : nuF e n (a + 4) 0 8 = 0 := nuF_C hb0 hd0 (show ¬ (nuV e n (a + 5) < 0 ∨ 8 ≤ nuV e n (a + 5)) from by omega)
                  have hF1 : nuF e n (cnE e n (a + 4)) 1 61 = 0 := nuF_C hb1 hd1 (show ¬ (nuV e n (cnE e n (a + 4) + 1) < 1 ∨ 61 ≤ nuV e n (cnE e n (a + 4) + 1)) from by omega)
                  have hI : itF e n q a = 0 := (it_2 (q := q) hw).1.trans (by unfold s2F; rw [if_pos hF0]; exact hF1)
                  have hE : itA e n a = cnE e n (cnE e n (a + 4)) := (it_2 (q := q) hw).2.2
                  refine ⟨(qs_C q ((qC q).set (nuV e n (a + 5)) (nuV e n (cnE e n (a + 4) + 1)))), (-1), (nI (cnE e n (cnE e n (a + 4)))), (nI (cnE e n (a + 4) + 1)), ?_, Or.inl ⟨hI, (it_2 (q := q) hw).2.1.symm, by rw [hE], rfl, by omega, by omega, (kC Iq (by omega) (by omega)), Nat.le_refl _⟩⟩
                  refine Ef.in (md := mX2_readItem) (L := [some (.ref 34), none, none]) rfl (Nat.le_of_ble_eq_true rfl) rfl ?_
                  refine E_aload_n at_X2_readItem_0 rfl ?_
                  refine E_getfield (v := .int (nI a)) at_X2_readItem_1 w34 rfl (by decide) rfl ?_
                  refine E_istore_n (L2 := [some (.ref 34), some (.int (nI a)), none]) at_X2_readItem_4 rfl ?_
                  refine E_aload_n at_X2_readItem_5 rfl ?_
                  refine E_callV (v := some (.int (nI 2))) (As := [.ref 34]) (r0 := []) (cs2 := (ww im lf s d k ls (-1) (nI n) (nI (a + 4)) rn q lt m1 m2 m3 m4 bd fc hd sz el t g fm hm so si sh ce ca td wa kp la bf oo bo pw ow tr)) at_X2_readItem_6 rfl rfl (Nat.le_of_ble_eq_true rfl) rfl (ab_rvOf w34 rfl) (w_rw2 hn ha l_lt hlt hw) (by decide) w_lens ?_
                  refine E_istore_n (L2 := [some (.ref 34), some (.int (nI a)), some (.int (nI 2))]) at_X2_readItem_9 rfl ?_
                  refine E_aload_n at_X2_readItem_10 rfl ?_
                  refine E_getfield (v := .int (-1)) at_X2_readItem_11 w34 rfl (by decide) rfl ?_
                  refine E_iconst (x := (-1)) at_X2_readItem_14 (by decide) ?_
                  refine E_ic (t := 19) (b := true) at_X2_readItem_15 rfl (by decide) ?_
                  refine E_iload_n at_X2_readItem_19 rfl ?_
                  refine E_tsIn (off := 52) (t := 72) at_X2_readItem_20 (by decide) rfl rfl ?_
                  refine E_aload_n at_X2_readItem_72 rfl ?_
                  have e1 : Ev ab_Z0 4 18 [.ref 34] (ww im lf s d k ls (-1) (nI n) (nI (a + 4)) rn q lt m1 m2 m3 m4 bd fc hd sz el t g fm hm so si sh ce ca td wa kp la bf oo bo pw ow tr) (none, (ww im lf s d k ls (-1) (nI n) (nI (cnE e n (cnE e n (a + 4)))) (nI (cnE e n (a + 4) + 1)) (qs_C q ((qC q).set (nuV e n (a + 5)) (nuV e n (cnE e n (a + 4) + 1)))) lt m1 m2 m3 m4 bd fc hd sz el t g fm hm so si sh ce ca td wa kp la bf oo bo pw ow tr)) := by
                    refine Ef.in (md := mX2_readCost) (L := [some (.ref 34), none, none]) rfl (Nat.le_of_ble_eq_true rfl) rfl ?_
                    refine E_aload_n at_X2_readCost_0 rfl ?_
                    refine E_iconst (x := nI 0) at_X2_readCost_1 (by decide) ?_
                    refine E_bipush (x := nI 7) at_X2_readCost_2 (by decide) ?_
                    refine E_callV (v := some (.int (nI (nuV e n (a + 5))))) (As := [.ref 34, .int (nI 0), .int (nI 7)]) (r0 := []) (cs2 := (ww im lf s d k ls (-1) (nI n) (nI (cnE e n (a + 4))) (nI (a + 5)) q lt m1 m2 m3 m4 bd fc hd sz el t g fm hm so si sh ce ca td wa kp la bf oo bo pw ow tr)) at_X2_readCost_4 rfl rfl (Nat.le_of_ble_eq_true rfl) rfl (ab_rvOf w34 rfl) (w_nuC (a := a + 4) (hi := nI 7) (by decide) hn (by omega) l_lt hlt hb0 hd0 (show 0 ≤ nuV e n (a + 5) from by omega) (show ((nuV e n (a + 5) : Nat) : Int) ≤ (nI 7).toInt from by rw [(nI_toInt (by omega) : (nI 7).toInt = ((7 : Nat) : Int))]; omega)) (by decide) w_lens ?_
                    refine E_istore_n (L2 := [some (.ref 34), some (.int (nI (nuV e n (a + 5)))), none]) at_X2_readCost_7 rfl ?_
                    refine E_aload_n at_X2_readCost_8 rfl ?_
                    refine E_iconst (x := nI 1) at_X2_readCost_9 (by decide) ?_
                    refine E_bipush (x := nI 60) at_X2_readCost_10 (by decide) ?_
                    refine E_callV (v := some (.int (nI (nuV e n (cnE e n (a + 4) + 1))))) (As := [.ref 34, .int (nI 1), .int (nI 60)]) (r0 := []) (cs2 := (ww im lf s d k ls (-1) (nI n) (nI (cnE e n (cnE e n (a + 4)))) (nI (cnE e n (a + 4) + 1)) q lt m1 m2 m3 m4 bd fc hd sz el t g fm hm so si sh ce ca td wa kp la bf oo bo pw ow tr)) at_X2_readCost_12 rfl rfl (Nat.le_of_ble_eq_true rfl) rfl (ab_rvOf w34 rfl) (w_nuC (a := cnE e n (a + 4)) (hi := nI 60) (by decide) hn (by omega) l_lt hlt hb1 hd1 (show 1 ≤ nuV e n (cnE e n (a + 4) + 1) from by omega) (show ((nuV e n (cnE e n (a + 4) + 1) : Nat) : Int) ≤ (nI 60).toInt from by rw [(nI_toInt (by omega) : (nI 60).toInt = ((60 : Nat) : Int))]; omega)) (by decide) w_lens ?_
                    refine E_istore_n (L2 := [some (.ref 34), some (.int (nI (nuV e n (a + 5)))), some (.int (nI (nuV e n (cnE e n (a + 4) + 1))))]) at_X2_readCost_15 rfl ?_
                    refine E_aload_n at_X2_readCost_16 rfl ?_
                    refine E_getfield (v := .int (-1)) at_X2_readCost_17 w34 rfl (by decide) rfl ?_
                    refine E_iconst (x := (-1)) at_X2_readCost_20 (by decide) ?_
                    refine E_ic (t := 34) (b := false) at_X2_readCost_21 rfl (by decide) ?_
                    refine E_aload_n rfl rfl ?_
                    refine E_getfield (v := .ref 35) rfl w34 rfl (by decide) rfl ?_
                    refine E_getfield (v := .ref 44) rfl w35 rfl (by decide) rfl ?_
                    refine E_iload_n rfl rfl ?_
                    refine E_iload_n rfl rfl ?_
                    refine E_iasN (l := qC q) (cs2 := (ww im lf s d k ls (-1) (nI n) (nI (cnE e n (cnE e n (a + 4)))) (nI (cnE e n (a + 4) + 1)) (qs_C q ((qC q).set (nuV e n (a + 5)) (nuV e n (cnE e n (a + 4) + 1)))) lt m1 m2 m3 m4 bd fc hd sz el t g fm hm so si sh ce ca td wa kp la bf oo bo pw ow tr)) rfl w44 (by omega) (by omega) w_pt35_C ?_
                    exact E_vret at_X2_readCost_34 rfl
                  refine E_callV (v := none) (As := [.ref 34]) (r0 := []) (cs2 := (ww im lf s d k ls (-1) (nI n) (nI (cnE e n (cnE e n (a + 4)))) (nI (cnE e n (a + 4) + 1)) (qs_C q ((qC q).set (nuV e n (a + 5)) (nuV e n (cnE e n (a + 4) + 1)))) lt m1 m2 m3 m4 bd fc hd sz el t g fm hm so si sh ce ca td wa kp la bf oo bo pw ow tr)) at_X2_readItem_73 rfl rfl (Nat.le_of_ble_eq_true rfl) rfl (ab_rvOf w34 rfl) e1 (by decide) w_lens ?_
                  refine E_goto (t := 110) at_X2_readItem_76 rfl ?_
                  exact E_vret at_X2_readItem_110 rfl
                · have hz := mtc_n (e := e) (n := n) [99, 111, 115, 116] a ha
                  have hz_ : a + mj2 e n a ≤ n := hz
                  have hb0_ := (chB_t hb0).1
                  have hd0_ := (dgB_t hd0).1
                  have hV0 := nuV_99 hd0
                  have hc0 := cnE_n hd0
                  have hb1_ := (chB_t hb1).1
                  have hd1_ := (dgB_t hd1).1
                  have hV1 := nuV_99 hd1
                  have hF0 : nuF e n (a + 4) 0 8 = 0 := nuF_C hb0 hd0 (show ¬ (nuV e n (a + 5) < 0 ∨ 8 ≤ nuV e n (a + 5)) from by omega)
                  have hF1 : nuF e n (cnE e n (a + 4)) 1 61 = cnE e n (a + 4) + 2 := nuF_D hb1 hd1 (show nuV e n (cnE e n (a + 4) + 1) < 1 ∨ 61 ≤ nuV e n (cnE e n (a + 4) + 1) from by omega)
                  have hI : itF e n q a = cnE e n (a + 4) + 2 := (it_2 (q := q) hw).1.trans (by unfold s2F; rw [if_pos hF0]; exact hF1)
                  refine ⟨q, (nI (cnE e n (a + 4) + 1)), (nI (nuE e n (cnE e n (a + 4) + 1))), (nI (cnE e n (a + 4) + 1)), ?_, Or.inr ⟨cnE e n (a + 4) + 1, by omega, rfl, by omega, rfl⟩⟩
                  refine Ef.in (md := mX2_readItem) (L := [some (.ref 34), none, none]) rfl (Nat.le_of_ble_eq_true rfl) rfl ?_
                  refine E_aload_n at_X2_readItem_0 rfl ?_
                  refine E_getfield (v := .int (nI a)) at_X2_readItem_1 w34 rfl (by decide) rfl ?_
                  refine E_istore_n (L2 := [some (.ref 34), some (.int (nI a)), none]) at_X2_readItem_4 rfl ?_
                  refine E_aload_n at_X2_readItem_5 rfl ?_
                  refine E_callV (v := some (.int (nI 2))) (As := [.ref 34]) (r0 := []) (cs2 := (ww im lf s d k ls (-1) (nI n) (nI (a + 4)) rn q lt m1 m2 m3 m4 bd fc hd sz el t g fm hm so si sh ce ca td wa kp la bf oo bo pw ow tr)) at_X2_readItem_6 rfl rfl (Nat.le_of_ble_eq_true rfl) rfl (ab_rvOf w34 rfl) (w_rw2 hn ha l_lt hlt hw) (by decide) w_lens ?_
                  refine E_istore_n (L2 := [some (.ref 34), some (.int (nI a)), some (.int (nI 2))]) at_X2_readItem_9 rfl ?_
                  refine E_aload_n at_X2_readItem_10 rfl ?_
                  refine E_getfield (v := .int (-1)) at_X2_readItem_11 w34 rfl (by decide) rfl ?_
                  refine E_iconst (x := (-1)) at_X2_readItem_14 (by decide) ?_
                  refine E_ic (t := 19) (b := true) at_X2_readItem_15 rfl (by decide) ?_
                  refine E_iload_n at_X2_readItem_19 rfl ?_
                  refine E_tsIn (off := 52) (t := 72) at_X2_readItem_20 (by decide) rfl rfl ?_
                  refine E_aload_n at_X2_readItem_72 rfl ?_
                  have e1 : Ev ab_Z0 4 18 [.ref 34] (ww im lf s d k ls (-1) (nI n) (nI (a + 4)) rn q lt m1 m2 m3 m4 bd fc hd sz el t g fm hm so si sh ce ca td wa kp la bf oo bo pw ow tr) (none, (ww im lf s d k ls (nI (cnE e n (a + 4) + 1)) (nI n) (nI (nuE e n (cnE e n (a + 4) + 1))) (nI (cnE e n (a + 4) + 1)) q lt m1 m2 m3 m4 bd fc hd sz el t g fm hm so si sh ce ca td wa kp la bf oo bo pw ow tr)) := by
                    refine Ef.in (md := mX2_readCost) (L := [some (.ref 34), none, none]) rfl (Nat.le_of_ble_eq_true rfl) rfl ?_
                    refine E_aload_n at_X2_readCost_0 rfl ?_
                    refine E_iconst (x := nI 0) at_X2_readCost_1 (by decide) ?_
                    refine E_bipush (x := nI 7) at_X2_readCost_2 (by decide) ?_
                    refine E_callV (v := some (.int (nI (nuV e n (a + 5))))) (As := [.ref 34, .int (nI 0), .int (nI 7)]) (r0 := []) (cs2 := (ww im lf s d k ls (-1) (nI n) (nI (cnE e n (a + 4))) (nI (a + 5)) q lt m1 m2 m3 m4 bd fc hd sz el t g fm hm so si sh ce ca td wa kp la bf oo bo pw ow tr)) at_X2_readCost_4 rfl rfl (Nat.le_of_ble_eq_true rfl) rfl (ab_rvOf w34 rfl) (w_nuC (a := a + 4) (hi := nI 7) (by decide) hn (by omega) l_lt hlt hb0 hd0 (show 0 ≤ nuV e n (a + 5) from by omega) (show ((nuV e n (a + 5) : Nat) : Int) ≤ (nI 7).toInt from by rw [(nI_toInt (by omega) : (nI 7).toInt = ((7 : Nat) : Int))]; omega)) (by decide) w_lens ?_
                    refine E_istore_n (L2 := [some (.ref 34), some (.int (nI (nuV e n (a + 5)))), none]) at_X2_readCost_7 rfl ?_
                    refine E_aload_n at_X2_readCost_8 rfl ?_
                    refine E_iconst (x := nI 1) at_X2_readCost_9 (by decide) ?_
                    refine E_bipush (x := nI 60) at_X2_readCost_10 (by decide) ?_
                    refine E_callV (v := some (.int (nI (nuV e n (cnE e n (a + 4) + 1))))) (As := [.ref 34, .int (nI 1), .int (nI 60)]) (r0 := []) (cs2 := (ww im lf s d k ls (nI (cnE e n (a + 4) + 1)) (nI n) (nI (nuE e n (cnE e n (a + 4) + 1))) (nI (cnE e n (a + 4) + 1)) q lt m1 m2 m3 m4 bd fc hd sz el t g fm hm so si sh ce ca td wa kp la bf oo bo pw ow tr)) at_X2_readCost_12 rfl rfl (Nat.le_of_ble_eq_true rfl) rfl (ab_rvOf w34 rfl) (w_nuD (a := cnE e n (a + 4)) (hi := nI 60) (by decide) hn (by omega) l_lt hlt hb1 hd1 (show nuV e n (cnE e n (a + 4) + 1) < 1 ∨ (nI 60).toInt < ((nuV e n (cnE e n (a + 4) + 1) : Nat) : Int) from by rw [(nI_toInt (by omega) : (nI 60).toInt = ((60 : Nat) : Int))]; omega)) (by decide) w_lens ?_
                    refine E_istore_n (L2 := [some (.ref 34), some (.int (nI (nuV e n (a + 5)))), some (.int (nI (nuV e n (cnE e n (a + 4) + 1))))]) at_X2_readCost_15 rfl ?_
                    refine E_aload_n at_X2_readCost_16 rfl ?_
                    refine E_getfield (v := .int (nI (cnE e n (a + 4) + 1))) at_X2_readCost_17 w34 rfl (by decide) rfl ?_
                    refine E_iconst (x := (-1)) at_X2_readCost_20 (by decide) ?_
                    refine E_ic (t := 34) (b := true) at_X2_readCost_21 rfl ((cn_ne (nI_toInt (by omega)) (by decide : (-1 : Int32).toInt = -1)).trans (decide_eq_true (by omega))) ?_
                    exact E_vret at_X2_readCost_34 rfl
                  refine E_callV (v := none) (As := [.ref 34]) (r0 := []) (cs2 := (ww im lf s d k ls (nI (cnE e n (a + 4) + 1)) (nI n) (nI (nuE e n (cnE e n (a + 4) + 1))) (nI (cnE e n (a + 4) + 1)) q lt m1 m2 m3 m4 bd fc hd sz el t g fm hm so si sh ce ca td wa kp la bf oo bo pw ow tr)) at_X2_readItem_73 rfl rfl (Nat.le_of_ble_eq_true rfl) rfl (ab_rvOf w34 rfl) e1 (by decide) w_lens ?_
                  refine E_goto (t := 110) at_X2_readItem_76 rfl ?_
                  exact E_vret at_X2_readItem_110 rfl
        · have hz := mtc_n (e := e) (n := n) [99, 111, 115, 116] a ha
          have hz_ : a + mj2 e n a ≤ n := hz
          have hb0_ := (chB_t hb0).1
          have hd0_ := (dgB_t hd0).1
          have hV0 := nuV_99 hd0
          have hF0 : nuF e n (a + 4) 0 8 = a + 4 + 2 := nuF_D hb0 hd0 (show nuV e n (a + 5) < 0 ∨ 8 ≤ nuV e n (a + 5) from by omega)
          have hI : itF e n q a = a + 6 := (it_2 (q := q) hw).1.trans (by unfold s2F; rw [if_neg (by omega)]; exact hF0)
          refine ⟨q, (nI (a + 5)), (nI (nuE e n (a + 5))), (nI (a + 5)), ?_, Or.inr ⟨a + 5, by omega, rfl, by omega, rfl⟩⟩
          refine Ef.in (md := mX2_readItem) (L := [some (.ref 34), none, none]) rfl (Nat.le_of_ble_eq_true rfl) rfl ?_
          refine E_aload_n at_X2_readItem_0 rfl ?_
          refine E_getfield (v := .int (nI a)) at_X2_readItem_1 w34 rfl (by decide) rfl ?_
          refine E_istore_n (L2 := [some (.ref 34), some (.int (nI a)), none]) at_X2_readItem_4 rfl ?_
          refine E_aload_n at_X2_readItem_5 rfl ?_
          refine E_callV (v := some (.int (nI 2))) (As := [.ref 34]) (r0 := []) (cs2 := (ww im lf s d k ls (-1) (nI n) (nI (a + 4)) rn q lt m1 m2 m3 m4 bd fc hd sz el t g fm hm so si sh ce ca td wa kp la bf oo bo pw ow tr)) at_X2_readItem_6 rfl rfl (Nat.le_of_ble_eq_true rfl) rfl (ab_rvOf w34 rfl) (w_rw2 hn ha l_lt hlt hw) (by decide) w_lens ?_
          refine E_istore_n (L2 := [some (.ref 34), some (.int (nI a)), some (.int (nI 2))]) at_X2_readItem_9 rfl ?_
          refine E_aload_n at_X2_readItem_10 rfl ?_
          refine E_getfield (v := .int (-1)) at_X2_readItem_11 w34 rfl (by decide) rfl ?_
          refine E_iconst (x := (-1)) at_X2_readItem_14 (by decide) ?_
          refine E_ic (t := 19) (b := true) at_X2_readItem_15 rfl (by decide) ?_
          refine E_iload_n at_X2_readItem_19 rfl ?_
          refine E_tsIn (off := 52) (t := 72) at_X2_readItem_20 (by decide) rfl rfl ?_
          refine E_aload_n at_X2_readItem_72 rfl ?_
          have e1 : Ev ab_Z0 4 18 [.ref 34] (ww im lf s d k ls (-1) (nI n) (nI (a + 4)) rn q lt m1 m2 m3 m4 bd fc hd sz el t g fm hm so si sh ce ca td wa kp la bf oo bo pw ow tr) (none, (ww im lf s d k ls (nI (a + 5)) (nI n) (nI (nuE e n (a + 5))) (nI (a + 5)) q lt m1 m2 m3 m4 bd fc hd sz el t g fm hm so si sh ce ca td wa kp la bf oo bo pw ow tr)) := by
            refine Ef.in (md := mX2_readCost) (L := [some (.ref 34), none, none]) rfl (Nat.le_of_ble_eq_true rfl) rfl ?_
            refine E_aload_n at_X2_readCost_0 rfl ?_
            refine E_iconst (x := nI 0) at_X2_readCost_1 (by decide) ?_
            refine E_bipush (x := nI 7) at_X2_readCost_2 (by decide) ?_
            refine E_callV (v := some (.int (nI (nuV e n (a + 5))))) (As := [.ref 34, .int (nI 0), .int (nI 7)]) (r0 := []) (cs2 := (ww im lf s d k ls (nI (a + 5)) (nI n) (nI (nuE e n (a + 5))) (nI (a + 5)) q lt m1 m2 m3 m4 bd fc hd sz el t g fm hm so si sh ce ca td wa kp la bf oo bo pw ow tr)) at_X2_readCost_4 rfl rfl (Nat.le_of_ble_eq_true rfl) rfl (ab_rvOf w34 rfl) (w_nuD (a := a + 4) (hi := nI 7) (by decide) hn (by omega) l_lt hlt hb0 hd0 (show nuV e n (a + 5) < 0 ∨ (nI 7).toInt < ((nuV e n (a + 5) : Nat) : Int) from by rw [(nI_toInt (by omega) : (nI 7).toInt = ((7 : Nat) : Int))]; omega)) (by decide) w_lens ?_
            refine E_istore_n (L2 := [some (.ref 34), some (.int (nI (nuV e n (a + 5)))), none]) at_X2_readCost_7 rfl ?_
            refine E_aload_n at_X2_readCost_8 rfl ?_
            refine E_iconst (x := nI 1) at_X2_readCost_9 (by decide) ?_
            refine E_bipush (x := nI 60) at_X2_readCost_10 (by decide) ?_
            refine E_callV (v := some (.int (nI 0))) (As := [.ref 34, .int (nI 1), .int (nI 60)]) (r0 := []) (cs2 := (ww im lf s d k ls (nI (a + 5)) (nI n) (nI (nuE e n (a + 5))) (nI (a + 5)) q lt m1 m2 m3 m4 bd fc hd sz el t g fm hm so si sh ce ca td wa kp la bf oo bo pw ow tr)) at_X2_readCost_12 rfl rfl (Nat.le_of_ble_eq_true rfl) rfl (ab_rvOf w34 rfl) (w_nux (f := a + 5) (by omega)) (by decide) rfl ?_
            refine E_istore_n (L2 := [some (.ref 34), some (.int (nI (nuV e n (a + 5)))), some (.int (nI 0))]) at_X2_readCost_15 rfl ?_
            refine E_aload_n at_X2_readCost_16 rfl ?_
            refine E_getfield (v := .int (nI (a + 5))) at_X2_readCost_17 w34 rfl (by decide) rfl ?_
            refine E_iconst (x := (-1)) at_X2_readCost_20 (by decide) ?_
            refine E_ic (t := 34) (b := true) at_X2_readCost_21 rfl ((cn_ne (nI_toInt (by omega)) (by decide : (-1 : Int32).toInt = -1)).trans (decide_eq_true (by omega))) ?_
            exact E_vret at_X2_readCost_34 rfl
          refine E_callV (v := none) (As := [.ref 34]) (r0 := []) (cs2 := (ww im lf s d k ls (nI (a + 5)) (nI n) (nI (nuE e n (a + 5))) (nI (a + 5)) q lt m1 m2 m3 m4 bd fc hd sz el t g fm hm so si sh ce ca td wa kp la bf oo bo pw ow tr)) at_X2_readItem_73 rfl rfl (Nat.le_of_ble_eq_true rfl) rfl (ab_rvOf w34 rfl) e1 (by decide) w_lens ?_
          refine E_goto (t := 110) at_X2_readItem_76 rfl ?_
          exact E_vret at_X2_readItem_110 rfl
  · rcases bo2 (chB e n (a + 3) 32) with hb0 | hb0
    · have hz := mtc_n (e := e) (n := n) [104, 97, 115] a ha
      have hz_ : a + mj3 e n a ≤ n := hz
      have hF0 : nuF e n (a + 3) 0 (qN q) = a + 3 + 1 := nuF_A hb0
      have hI : itF e n q a = a + 4 := (it_3 (q := q) hw).1.trans (by unfold hasF; rw [if_neg (by omega)]; exact hF0)
      refine ⟨q, (nI (a + 3)), (nI (a + 3)), rn, ?_, Or.inr ⟨a + 3, by omega, rfl, by omega, rfl⟩⟩
      refine Ef.in (md := mX2_readItem) (L := [some (.ref 34), none, none]) rfl (Nat.le_of_ble_eq_true rfl) rfl ?_
      refine E_aload_n at_X2_readItem_0 rfl ?_
      refine E_getfield (v := .int (nI a)) at_X2_readItem_1 w34 rfl (by decide) rfl ?_
      refine E_istore_n (L2 := [some (.ref 34), some (.int (nI a)), none]) at_X2_readItem_4 rfl ?_
      refine E_aload_n at_X2_readItem_5 rfl ?_
      refine E_callV (v := some (.int (nI 3))) (As := [.ref 34]) (r0 := []) (cs2 := (ww im lf s d k ls (-1) (nI n) (nI (a + 3)) rn q lt m1 m2 m3 m4 bd fc hd sz el t g fm hm so si sh ce ca td wa kp la bf oo bo pw ow tr)) at_X2_readItem_6 rfl rfl (Nat.le_of_ble_eq_true rfl) rfl (ab_rvOf w34 rfl) (w_rw3 hn ha l_lt hlt hw) (by decide) w_lens ?_
      refine E_istore_n (L2 := [some (.ref 34), some (.int (nI a)), some (.int (nI 3))]) at_X2_readItem_9 rfl ?_
      refine E_aload_n at_X2_readItem_10 rfl ?_
      refine E_getfield (v := .int (-1)) at_X2_readItem_11 w34 rfl (by decide) rfl ?_
      refine E_iconst (x := (-1)) at_X2_readItem_14 (by decide) ?_
      refine E_ic (t := 19) (b := true) at_X2_readItem_15 rfl (by decide) ?_
      refine E_iload_n at_X2_readItem_19 rfl ?_
      refine E_tsIn (off := 59) (t := 79) at_X2_readItem_20 (by decide) rfl rfl ?_
      refine E_aload_n at_X2_readItem_79 rfl ?_
      have e1 : Ev ab_Z0 4 19 [.ref 34] (ww im lf s d k ls (-1) (nI n) (nI (a + 3)) rn q lt m1 m2 m3 m4 bd fc hd sz el t g fm hm so si sh ce ca td wa kp la bf oo bo pw ow tr) (none, (ww im lf s d k ls (nI (a + 3)) (nI n) (nI (a + 3)) rn q lt m1 m2 m3 m4 bd fc hd sz el t g fm hm so si sh ce ca td wa kp la bf oo bo pw ow tr)) := by
        refine Ef.in (md := mX2_readHas) (L := [some (.ref 34), none, none]) rfl (Nat.le_of_ble_eq_true rfl) rfl ?_
        refine E_aload_n at_X2_readHas_0 rfl ?_
        refine E_iconst (x := nI 0) at_X2_readHas_1 (by decide) ?_
        refine E_aload_n at_X2_readHas_2 rfl ?_
        refine E_getfield (v := .ref 35) at_X2_readHas_3 w34 rfl (by decide) rfl ?_
        refine E_getfield (v := .int (nI (qN q))) at_X2_readHas_6 w35 rfl (by decide) rfl ?_
        refine E_iconst (x := nI 1) at_X2_readHas_9 (by decide) ?_
        refine E_isub (z := nI (qN q) - nI 1) at_X2_readHas_10 rfl ?_
        refine E_callV (v := some (.int (nI 0))) (As := [.ref 34, .int (nI 0), .int (nI (qN q) - nI 1)]) (r0 := []) (cs2 := (ww im lf s d k ls (nI (a + 3)) (nI n) (nI (a + 3)) rn q lt m1 m2 m3 m4 bd fc hd sz el t g fm hm so si sh ce ca td wa kp la bf oo bo pw ow tr)) at_X2_readHas_11 rfl rfl (Nat.le_of_ble_eq_true rfl) rfl (ab_rvOf w34 rfl) (w_nuA (a := a + 3) (hi := nI (qN q) - nI 1) (by decide) hn (by omega) l_lt hlt hb0) (by decide) w_lens ?_
        refine E_istore_n (L2 := [some (.ref 34), some (.int (nI 0)), none]) at_X2_readHas_14 rfl ?_
        refine E_aload_n at_X2_readHas_15 rfl ?_
        refine E_getfield (v := .int (nI (a + 3))) at_X2_readHas_16 w34 rfl (by decide) rfl ?_
        refine E_iconst (x := (-1)) at_X2_readHas_19 (by decide) ?_
        refine E_ic (t := 45) (b := true) at_X2_readHas_20 rfl ((cn_ne (nI_toInt (by omega)) (by decide : (-1 : Int32).toInt = -1)).trans (decide_eq_true (by omega))) ?_
        refine E_aload_n at_X2_readHas_45 rfl ?_
        refine E_iconst (x := nI 0) at_X2_readHas_46 (by decide) ?_
        refine E_aload_n at_X2_readHas_47 rfl ?_
        refine E_getfield (v := .ref 35) at_X2_readHas_48 w34 rfl (by decide) rfl ?_
        refine E_getfield (v := .int (nI (qM q))) at_X2_readHas_51 w35 rfl (by decide) rfl ?_
        refine E_iconst (x := nI 1) at_X2_readHas_54 (by decide) ?_
        refine E_isub (z := nI (qM q) - nI 1) at_X2_readHas_55 rfl ?_
        refine E_callV (v := some (.int (nI 0))) (As := [.ref 34, .int (nI 0), .int (nI (qM q) - nI 1)]) (r0 := []) (cs2 := (ww im lf s d k ls (nI (a + 3)) (nI n) (nI (a + 3)) rn q lt m1 m2 m3 m4 bd fc hd sz el t g fm hm so si sh ce ca td wa kp la bf oo bo pw ow tr)) at_X2_readHas_56 rfl rfl (Nat.le_of_ble_eq_true rfl) rfl (ab_rvOf w34 rfl) (w_nux (f := a + 3) (by omega)) (by decide) rfl ?_
        refine E_istore_n (L2 := [some (.ref 34), some (.int (nI 0)), some (.int (nI 0))]) at_X2_readHas_59 rfl ?_
        refine E_aload_n at_X2_readHas_60 rfl ?_
        refine E_getfield (v := .int (nI (a + 3))) at_X2_readHas_61 w34 rfl (by decide) rfl ?_
        refine E_iconst (x := (-1)) at_X2_readHas_64 (by decide) ?_
        refine E_ic (t := 78) (b := true) at_X2_readHas_65 rfl ((cn_ne (nI_toInt (by omega)) (by decide : (-1 : Int32).toInt = -1)).trans (decide_eq_true (by omega))) ?_
        exact E_vret at_X2_readHas_78 rfl
      refine E_callV (v := none) (As := [.ref 34]) (r0 := []) (cs2 := (ww im lf s d k ls (nI (a + 3)) (nI n) (nI (a + 3)) rn q lt m1 m2 m3 m4 bd fc hd sz el t g fm hm so si sh ce ca td wa kp la bf oo bo pw ow tr)) at_X2_readItem_80 rfl rfl (Nat.le_of_ble_eq_true rfl) rfl (ab_rvOf w34 rfl) e1 (by decide) w_lens ?_
      refine E_goto (t := 110) at_X2_readItem_83 rfl ?_
      exact E_vret at_X2_readItem_110 rfl
    · rcases bo2 (dgB e n (a + 4)) with hd0 | hd0
      · have hz := mtc_n (e := e) (n := n) [104, 97, 115] a ha
        have hz_ : a + mj3 e n a ≤ n := hz
        have hb0_ := (chB_t hb0).1
        have hF0 : nuF e n (a + 3) 0 (qN q) = a + 3 + 2 := nuF_B hb0 hd0
        have hI : itF e n q a = a + 5 := (it_3 (q := q) hw).1.trans (by unfold hasF; rw [if_neg (by omega)]; exact hF0)
        refine ⟨q, (nI (a + 4)), (nI (a + 4)), rn, ?_, Or.inr ⟨a + 4, by omega, rfl, by omega, rfl⟩⟩
        refine Ef.in (md := mX2_readItem) (L := [some (.ref 34), none, none]) rfl (Nat.le_of_ble_eq_true rfl) rfl ?_
        refine E_aload_n at_X2_readItem_0 rfl ?_
        refine E_getfield (v := .int (nI a)) at_X2_readItem_1 w34 rfl (by decide) rfl ?_
        refine E_istore_n (L2 := [some (.ref 34), some (.int (nI a)), none]) at_X2_readItem_4 rfl ?_
        refine E_aload_n at_X2_readItem_5 rfl ?_
        refine E_callV (v := some (.int (nI 3))) (As := [.ref 34]) (r0 := []) (cs2 := (ww im lf s d k ls (-1) (nI n) (nI (a + 3)) rn q lt m1 m2 m3 m4 bd fc hd sz el t g fm hm so si sh ce ca td wa kp la bf oo bo pw ow tr)) at_X2_readItem_6 rfl rfl (Nat.le_of_ble_eq_true rfl) rfl (ab_rvOf w34 rfl) (w_rw3 hn ha l_lt hlt hw) (by decide) w_lens ?_
        refine E_istore_n (L2 := [some (.ref 34), some (.int (nI a)), some (.int (nI 3))]) at_X2_readItem_9 rfl ?_
        refine E_aload_n at_X2_readItem_10 rfl ?_
        refine E_getfield (v := .int (-1)) at_X2_readItem_11 w34 rfl (by decide) rfl ?_
        refine E_iconst (x := (-1)) at_X2_readItem_14 (by decide) ?_
        refine E_ic (t := 19) (b := true) at_X2_readItem_15 rfl (by decide) ?_
        refine E_iload_n at_X2_readItem_19 rfl ?_
        refine E_tsIn (off := 59) (t := 79) at_X2_readItem_20 (by decide) rfl rfl ?_
        refine E_aload_n at_X2_readItem_79 rfl ?_
        have e1 : Ev ab_Z0 4 19 [.ref 34] (ww im lf s d k ls (-1) (nI n) (nI (a + 3)) rn q lt m1 m2 m3 m4 bd fc hd sz el t g fm hm so si sh ce ca td wa kp la bf oo bo pw ow tr) (none, (ww im lf s d k ls (nI (a + 4)) (nI n) (nI (a + 4)) rn q lt m1 m2 m3 m4 bd fc hd sz el t g fm hm so si sh ce ca td wa kp la bf oo bo pw ow tr)) := by
          refine Ef.in (md := mX2_readHas) (L := [some (.ref 34), none, none]) rfl (Nat.le_of_ble_eq_true rfl) rfl ?_
          refine E_aload_n at_X2_readHas_0 rfl ?_
          refine E_iconst (x := nI 0) at_X2_readHas_1 (by decide) ?_
          refine E_aload_n at_X2_readHas_2 rfl ?_
          refine E_getfield (v := .ref 35) at_X2_readHas_3 w34 rfl (by decide) rfl ?_
          refine E_getfield (v := .int (nI (qN q))) at_X2_readHas_6 w35 rfl (by decide) rfl ?_
          refine E_iconst (x := nI 1) at_X2_readHas_9 (by decide) ?_
          refine E_isub (z := nI (qN q) - nI 1) at_X2_readHas_10 rfl ?_
          refine E_callV (v := some (.int (nI 0))) (As := [.ref 34, .int (nI 0), .int (nI (qN q) - nI 1)]) (r0 := []) (cs2 := (ww im lf s d k ls (nI (a + 4)) (nI n) (nI (a + 4)) rn q lt m1 m2 m3 m4 bd fc hd sz el t g fm hm so si sh ce ca td wa kp la bf oo bo pw ow tr)) at_X2_readHas_11 rfl rfl (Nat.le_of_ble_eq_true rfl) rfl (ab_rvOf w34 rfl) (w_nuB (a := a + 3) (hi := nI (qN q) - nI 1) (by decide) hn (by omega) l_lt hlt hb0 hd0) (by decide) w_lens ?_
          refine E_istore_n (L2 := [some (.ref 34), some (.int (nI 0)), none]) at_X2_readHas_14 rfl ?_
          refine E_aload_n at_X2_readHas_15 rfl ?_
          refine E_getfield (v := .int (nI (a + 4))) at_X2_readHas_16 w34 rfl (by decide) rfl ?_
          refine E_iconst (x := (-1)) at_X2_readHas_19 (by decide) ?_
          refine E_ic (t := 45) (b := true) at_X2_readHas_20 rfl ((cn_ne (nI_toInt (by omega)) (by decide : (-1 : Int32).toInt = -1)).trans (decide_eq_true (by omega))) ?_
          refine E_aload_n at_X2_readHas_45 rfl ?_
          refine E_iconst (x := nI 0) at_X2_readHas_46 (by decide) ?_
          refine E_aload_n at_X2_readHas_47 rfl ?_
          refine E_getfield (v := .ref 35) at_X2_readHas_48 w34 rfl (by decide) rfl ?_
          refine E_getfield (v := .int (nI (qM q))) at_X2_readHas_51 w35 rfl (by decide) rfl ?_
          refine E_iconst (x := nI 1) at_X2_readHas_54 (by decide) ?_
          refine E_isub (z := nI (qM q) - nI 1) at_X2_readHas_55 rfl ?_
          refine E_callV (v := some (.int (nI 0))) (As := [.ref 34, .int (nI 0), .int (nI (qM q) - nI 1)]) (r0 := []) (cs2 := (ww im lf s d k ls (nI (a + 4)) (nI n) (nI (a + 4)) rn q lt m1 m2 m3 m4 bd fc hd sz el t g fm hm so si sh ce ca td wa kp la bf oo bo pw ow tr)) at_X2_readHas_56 rfl rfl (Nat.le_of_ble_eq_true rfl) rfl (ab_rvOf w34 rfl) (w_nux (f := a + 4) (by omega)) (by decide) rfl ?_
          refine E_istore_n (L2 := [some (.ref 34), some (.int (nI 0)), some (.int (nI 0))]) at_X2_readHas_59 rfl ?_
          refine E_aload_n at_X2_readHas_60 rfl ?_
          refine E_getfield (v := .int (nI (a + 4))) at_X2_readHas_61 w34 rfl (by decide) rfl ?_
          refine E_iconst (x := (-1)) at_X2_readHas_64 (by decide) ?_
          refine E_ic (t := 78) (b := true) at_X2_readHas_65 rfl ((cn_ne (nI_toInt (by omega)) (by decide : (-1 : Int32).toInt = -1)).trans (decide_eq_true (by omega))) ?_
          exact E_vret at_X2_readHas_78 rfl
        refine E_callV (v := none) (As := [.ref 34]) (r0 := []) (cs2 := (ww im lf s d k ls (nI (a + 4)) (nI n) (nI (a + 4)) rn q lt m1 m2 m3 m4 bd fc hd sz el t g fm hm so si sh ce ca td wa kp la bf oo bo pw ow tr)) at_X2_readItem_80 rfl rfl (Nat.le_of_ble_eq_true rfl) rfl (ab_rvOf w34 rfl) e1 (by decide) w_lens ?_
        refine E_goto (t := 110) at_X2_readItem_83 rfl ?_
        exact E_vret at_X2_readItem_110 rfl
      · rcases Nat.lt_or_ge (nuV e n (a + 4)) (qN q) with hr0 | hr0
        · by_cases f4 : ((qP q).getD (nuV e n (a + 4)) 0) = 99
          · rcases bo2 (chB e n (cnE e n (a + 3)) 32) with hb1 | hb1
            · have hz := mtc_n (e := e) (n := n) [104, 97, 115] a ha
              have hz_ : a + mj3 e n a ≤ n := hz
              have hb0_ := (chB_t hb0).1
              have hd0_ := (dgB_t hd0).1
              have hV0 := nuV_99 hd0
              have hc0 := cnE_n hd0
              have hP9 := I1_ (nuV e n (a + 4)) (by omega)
              have : (qP q).length = 9 := by first | omega | (simp only [List.length_set]; omega)
              have hF0 : nuF e n (a + 3) 0 (qN q) = 0 := nuF_C hb0 hd0 (show ¬ (nuV e n (a + 4) < 0 ∨ (qN q) ≤ nuV e n (a + 4)) from by omega)
              have hF1 : nuF e n (cnE e n (a + 3)) 0 (qM q) = cnE e n (a + 3) + 1 := nuF_A hb1
              have hI : itF e n q a = cnE e n (a + 3) + 1 := (it_3 (q := q) hw).1.trans (by unfold hasF; rw [if_pos hF0, if_pos (by omega)]; exact hF1)
              refine ⟨q, (nI (cnE e n (a + 3))), (nI (cnE e n (a + 3))), (nI (a + 4)), ?_, Or.inr ⟨cnE e n (a + 3), by omega, rfl, by omega, rfl⟩⟩
              refine Ef.in (md := mX2_readItem) (L := [some (.ref 34), none, none]) rfl (Nat.le_of_ble_eq_true rfl) rfl ?_
              refine E_aload_n at_X2_readItem_0 rfl ?_
              refine E_getfield (v := .int (nI a)) at_X2_readItem_1 w34 rfl (by decide) rfl ?_
              refine E_istore_n (L2 := [some (.ref 34), some (.int (nI a)), none]) at_X2_readItem_4 rfl ?_
              refine E_aload_n at_X2_readItem_5 rfl ?_
              refine E_callV (v := some (.int (nI 3))) (As := [.ref 34]) (r0 := []) (cs2 := (ww im lf s d k ls (-1) (nI n) (nI (a + 3)) rn q lt m1 m2 m3 m4 bd fc hd sz el t g fm hm so si sh ce ca td wa kp la bf oo bo pw ow tr)) at_X2_readItem_6 rfl rfl (Nat.le_of_ble_eq_true rfl) rfl (ab_rvOf w34 rfl) (w_rw3 hn ha l_lt hlt hw) (by decide) w_lens ?_
              refine E_istore_n (L2 := [some (.ref 34), some (.int (nI a)), some (.int (nI 3))]) at_X2_readItem_9 rfl ?_
              refine E_aload_n at_X2_readItem_10 rfl ?_
              refine E_getfield (v := .int (-1)) at_X2_readItem_11 w34 rfl (by decide) rfl ?_
              refine E_iconst (x := (-1)) at_X2_readItem_14 (by decide) ?_
              refine E_ic (t := 19) (b := true) at_X2_readItem_15 rfl (by decide) ?_
              refine E_iload_n at_X2_readItem_19 rfl ?_
              refine E_tsIn (off := 59) (t := 79) at_X2_readItem_20 (by decide) rfl rfl ?_
              refine E_aload_n at_X2_readItem_79 rfl ?_
              have e1 : Ev ab_Z0 4 19 [.ref 34] (ww im lf s d k ls (-1) (nI n) (nI (a + 3)) rn q lt m1 m2 m3 m4 bd fc hd sz el t g fm hm so si sh ce ca td wa kp la bf oo bo pw ow tr) (none, (ww im lf s d k ls (nI (cnE e n (a + 3))) (nI n) (nI (cnE e n (a + 3))) (nI (a + 4)) q lt m1 m2 m3 m4 bd fc hd sz el t g fm hm so si sh ce ca td wa kp la bf oo bo pw ow tr)) := by
                refine Ef.in (md := mX2_readHas) (L := [some (.ref 34), none, none]) rfl (Nat.le_of_ble_eq_true rfl) rfl ?_
                refine E_aload_n at_X2_readHas_0 rfl ?_
                refine E_iconst (x := nI 0) at_X2_readHas_1 (by decide) ?_
                refine E_aload_n at_X2_readHas_2 rfl ?_
                refine E_getfield (v := .ref 35) at_X2_readHas_3 w34 rfl (by decide) rfl ?_
                refine E_getfield (v := .int (nI (qN q))) at_X2_readHas_6 w35 rfl (by decide) rfl ?_
                refine E_iconst (x := nI 1) at_X2_readHas_9 (by decide) ?_
                refine E_isub (z := nI ((qN q) - 1)) at_X2_readHas_10 (pk_sub (by omega)) ?_
                refine E_callV (v := some (.int (nI (nuV e n (a + 4))))) (As := [.ref 34, .int (nI 0), .int (nI ((qN q) - 1))]) (r0 := []) (cs2 := (ww im lf s d k ls (-1) (nI n) (nI (cnE e n (a + 3))) (nI (a + 4)) q lt m1 m2 m3 m4 bd fc hd sz el t g fm hm so si sh ce ca td wa kp la bf oo bo pw ow tr)) at_X2_readHas_11 rfl rfl (Nat.le_of_ble_eq_true rfl) rfl (ab_rvOf w34 rfl) (w_nuC (a := a + 3) (hi := nI ((qN q) - 1)) (by decide) hn (by omega) l_lt hlt hb0 hd0 (show 0 ≤ nuV e n (a + 4) from by omega) (show ((nuV e n (a + 4) : Nat) : Int) ≤ (nI ((qN q) - 1)).toInt from by rw [(nI_toInt (by omega) : (nI ((qN q) - 1)).toInt = (((qN q) - 1 : Nat) : Int))]; omega)) (by decide) w_lens ?_
                refine E_istore_n (L2 := [some (.ref 34), some (.int (nI (nuV e n (a + 4)))), none]) at_X2_readHas_14 rfl ?_
                refine E_aload_n at_X2_readHas_15 rfl ?_
                refine E_getfield (v := .int (-1)) at_X2_readHas_16 w34 rfl (by decide) rfl ?_
                refine E_iconst (x := (-1)) at_X2_readHas_19 (by decide) ?_
                refine E_ic (t := 45) (b := false) at_X2_readHas_20 rfl (by decide) ?_
                refine E_aload_n at_X2_readHas_23 rfl ?_
                refine E_getfield (v := .ref 35) at_X2_readHas_24 w34 rfl (by decide) rfl ?_
                refine E_getfield (v := .ref 39) at_X2_readHas_27 w35 rfl (by decide) rfl ?_
                refine E_iload_n at_X2_readHas_30 rfl ?_
                refine E_ialN (l := qP q) (v := (qP q).getD (nuV e n (a + 4)) 0) at_X2_readHas_31 w39 (by omega) (by omega) rfl ?_
                refine E_bipush (x := nI 99) at_X2_readHas_32 (by decide) ?_
                refine E_ic (t := 45) (b := true) at_X2_readHas_34 rfl ((cn_eq (nI_toInt (by omega)) (nI_toInt (by omega))).trans (decide_eq_true (by omega))) ?_
                refine E_aload_n at_X2_readHas_45 rfl ?_
                refine E_iconst (x := nI 0) at_X2_readHas_46 (by decide) ?_
                refine E_aload_n at_X2_readHas_47 rfl ?_
                refine E_getfield (v := .ref 35) at_X2_readHas_48 w34 rfl (by decide) rfl ?_
                refine E_getfield (v := .int (nI (qM q))) at_X2_readHas_51 w35 rfl (by decide) rfl ?_
                refine E_iconst (x := nI 1) at_X2_readHas_54 (by decide) ?_
                refine E_isub (z := nI (qM q) - nI 1) at_X2_readHas_55 rfl ?_
                refine E_callV (v := some (.int (nI 0))) (As := [.ref 34, .int (nI 0), .int (nI (qM q) - nI 1)]) (r0 := []) (cs2 := (ww im lf s d k ls (nI (cnE e n (a + 3))) (nI n) (nI (cnE e n (a + 3))) (nI (a + 4)) q lt m1 m2 m3 m4 bd fc hd sz el t g fm hm so si sh ce ca td wa kp la bf oo bo pw ow tr)) at_X2_readHas_56 rfl rfl (Nat.le_of_ble_eq_true rfl) rfl (ab_rvOf w34 rfl) (w_nuA (a := cnE e n (a + 3)) (hi := nI (qM q) - nI 1) (by decide) hn (by omega) l_lt hlt hb1) (by decide) w_lens ?_
                refine E_istore_n (L2 := [some (.ref 34), some (.int (nI (nuV e n (a + 4)))), some (.int (nI 0))]) at_X2_readHas_59 rfl ?_
                refine E_aload_n at_X2_readHas_60 rfl ?_
                refine E_getfield (v := .int (nI (cnE e n (a + 3)))) at_X2_readHas_61 w34 rfl (by decide) rfl ?_
                refine E_iconst (x := (-1)) at_X2_readHas_64 (by decide) ?_
                refine E_ic (t := 78) (b := true) at_X2_readHas_65 rfl ((cn_ne (nI_toInt (by omega)) (by decide : (-1 : Int32).toInt = -1)).trans (decide_eq_true (by omega))) ?_
                exact E_vret at_X2_readHas_78 rfl
              refine E_callV (v := none) (As := [.ref 34]) (r0 := []) (cs2 := (ww im lf s d k ls (nI (cnE e n (a + 3))) (nI n) (nI (cnE e n (a + 3))) (nI (a + 4)) q lt m1 m2 m3 m4 bd fc hd sz el t g fm hm so si sh ce ca td wa kp la bf oo bo pw ow tr)) at_X2_readItem_80 rfl rfl (Nat.le_of_ble_eq_true rfl) rfl (ab_rvOf w34 rfl) e1 (by decide) w_lens ?_
              refine E_goto (t := 110) at_X2_readItem_83 rfl ?_
              exact E_vret at_X2_readItem_110 rfl
            · rcases bo2 (dgB e n (cnE e n (a + 3) + 1)) with hd1 | hd1
              · have hz := mtc_n (e := e) (n := n) [104, 97, 115] a ha
                have hz_ : a + mj3 e n a ≤ n := hz
                have hb0_ := (chB_t hb0).1
                have hd0_ := (dgB_t hd0).1
                have hV0 := nuV_99 hd0
                have hc0 := cnE_n hd0
                have hP9 := I1_ (nuV e n (a + 4)) (by omega)
                have : (qP q).length = 9 := by first | omega | (simp only [List.length_set]; omega)
                have hb1_ := (chB_t hb1).1
                have hF0 : nuF e n (a + 3) 0 (qN q) = 0 := nuF_C hb0 hd0 (show ¬ (nuV e n (a + 4) < 0 ∨ (qN q) ≤ nuV e n (a + 4)) from by omega)
                have hF1 : nuF e n (cnE e n (a + 3)) 0 (qM q) = cnE e n (a + 3) + 2 := nuF_B hb1 hd1
                have hI : itF e n q a = cnE e n (a + 3) + 2 := (it_3 (q := q) hw).1.trans (by unfold hasF; rw [if_pos hF0, if_pos (by omega)]; exact hF1)
                refine ⟨q, (nI (cnE e n (a + 3) + 1)), (nI (cnE e n (a + 3) + 1)), (nI (a + 4)), ?_, Or.inr ⟨cnE e n (a + 3) + 1, by omega, rfl, by omega, rfl⟩⟩
                refine Ef.in (md := mX2_readItem) (L := [some (.ref 34), none, none]) rfl (Nat.le_of_ble_eq_true rfl) rfl ?_
                refine E_aload_n at_X2_readItem_0 rfl ?_
                refine E_getfield (v := .int (nI a)) at_X2_readItem_1 w34 rfl (by decide) rfl ?_
                refine E_istore_n (L2 := [some (.ref 34), some (.int (nI a)), none]) at_X2_readItem_4 rfl ?_
                refine E_aload_n at_X2_readItem_5 rfl ?_
                refine E_callV (v := some (.int (nI 3))) (As := [.ref 34]) (r0 := []) (cs2 := (ww im lf s d k ls (-1) (nI n) (nI (a + 3)) rn q lt m1 m2 m3 m4 bd fc hd sz el t g fm hm so si sh ce ca td wa kp la bf oo bo pw ow tr)) at_X2_readItem_6 rfl rfl (Nat.le_of_ble_eq_true rfl) rfl (ab_rvOf w34 rfl) (w_rw3 hn ha l_lt hlt hw) (by decide) w_lens ?_
                refine E_istore_n (L2 := [some (.ref 34), some (.int (nI a)), some (.int (nI 3))]) at_X2_readItem_9 rfl ?_
                refine E_aload_n at_X2_readItem_10 rfl ?_
                refine E_getfield (v := .int (-1)) at_X2_readItem_11 w34 rfl (by decide) rfl ?_
                refine E_iconst (x := (-1)) at_X2_readItem_14 (by decide) ?_
                refine E_ic (t := 19) (b := true) at_X2_readItem_15 rfl (by decide) ?_
                refine E_iload_n at_X2_readItem_19 rfl ?_
                refine E_tsIn (off := 59) (t := 79) at_X2_readItem_20 (by decide) rfl rfl ?_
                refine E_aload_n at_X2_readItem_79 rfl ?_
                have e1 : Ev ab_Z0 4 19 [.ref 34] (ww im lf s d k ls (-1) (nI n) (nI (a + 3)) rn q lt m1 m2 m3 m4 bd fc hd sz el t g fm hm so si sh ce ca td wa kp la bf oo bo pw ow tr) (none, (ww im lf s d k ls (nI (cnE e n (a + 3) + 1)) (nI n) (nI (cnE e n (a + 3) + 1)) (nI (a + 4)) q lt m1 m2 m3 m4 bd fc hd sz el t g fm hm so si sh ce ca td wa kp la bf oo bo pw ow tr)) := by
                  refine Ef.in (md := mX2_readHas) (L := [some (.ref 34), none, none]) rfl (Nat.le_of_ble_eq_true rfl) rfl ?_
                  refine E_aload_n at_X2_readHas_0 rfl ?_
                  refine E_iconst (x := nI 0) at_X2_readHas_1 (by decide) ?_
                  refine E_aload_n at_X2_readHas_2 rfl ?_
                  refine E_getfield (v := .ref 35) at_X2_readHas_3 w34 rfl (by decide) rfl ?_
                  refine E_getfield (v := .int (nI (qN q))) at_X2_readHas_6 w35 rfl (by decide) rfl ?_
                  refine E_iconst (x := nI 1) at_X2_readHas_9 (by decide) ?_
                  refine E_isub (z := nI ((qN q) - 1)) at_X2_readHas_10 (pk_sub (by omega)) ?_
                  refine E_callV (v := some (.int (nI (nuV e n (a + 4))))) (As := [.ref 34, .int (nI 0), .int (nI ((qN q) - 1))]) (r0 := []) (cs2 := (ww im lf s d k ls (-1) (nI n) (nI (cnE e n (a + 3))) (nI (a + 4)) q lt m1 m2 m3 m4 bd fc hd sz el t g fm hm so si sh ce ca td wa kp la bf oo bo pw ow tr)) at_X2_readHas_11 rfl rfl (Nat.le_of_ble_eq_true rfl) rfl (ab_rvOf w34 rfl) (w_nuC (a := a + 3) (hi := nI ((qN q) - 1)) (by decide) hn (by omega) l_lt hlt hb0 hd0 (show 0 ≤ nuV e n (a + 4) from by omega) (show ((nuV e n (a + 4) : Nat) : Int) ≤ (nI ((qN q) - 1)).toInt from by rw [(nI_toInt (by omega) : (nI ((qN q) - 1)).toInt = (((qN q) - 1 : Nat) : Int))]; omega)) (by decide) w_lens ?_
                  refine E_istore_n (L2 := [some (.ref 34), some (.int (nI (nuV e n (a + 4)))), none]) at_X2_readHas_14 rfl ?_
                  refine E_aload_n at_X2_readHas_15 rfl ?_
                  refine E_getfield (v := .int (-1)) at_X2_readHas_16 w34 rfl (by decide) rfl ?_
                  refine E_iconst (x := (-1)) at_X2_readHas_19 (by decide) ?_
                  refine E_ic (t := 45) (b := false) at_X2_readHas_20 rfl (by decide) ?_
                  refine E_aload_n at_X2_readHas_23 rfl ?_
                  refine E_getfield (v := .ref 35) at_X2_readHas_24 w34 rfl (by decide) rfl ?_
                  refine E_getfield (v := .ref 39) at_X2_readHas_27 w35 rfl (by decide) rfl ?_
                  refine E_iload_n at_X2_readHas_30 rfl ?_
                  refine E_ialN (l := qP q) (v := (qP q).getD (nuV e n (a + 4)) 0) at_X2_readHas_31 w39 (by omega) (by omega) rfl ?_
                  refine E_bipush (x := nI 99) at_X2_readHas_32 (by decide) ?_
                  refine E_ic (t := 45) (b := true) at_X2_readHas_34 rfl ((cn_eq (nI_toInt (by omega)) (nI_toInt (by omega))).trans (decide_eq_true (by omega))) ?_
                  refine E_aload_n at_X2_readHas_45 rfl ?_
                  refine E_iconst (x := nI 0) at_X2_readHas_46 (by decide) ?_
                  refine E_aload_n at_X2_readHas_47 rfl ?_
                  refine E_getfield (v := .ref 35) at_X2_readHas_48 w34 rfl (by decide) rfl ?_
                  refine E_getfield (v := .int (nI (qM q))) at_X2_readHas_51 w35 rfl (by decide) rfl ?_
                  refine E_iconst (x := nI 1) at_X2_readHas_54 (by decide) ?_
                  refine E_isub (z := nI (qM q) - nI 1) at_X2_readHas_55 rfl ?_
                  refine E_callV (v := some (.int (nI 0))) (As := [.ref 34, .int (nI 0), .int (nI (qM q) - nI 1)]) (r0 := []) (cs2 := (ww im lf s d k ls (nI (cnE e n (a + 3) + 1)) (nI n) (nI (cnE e n (a + 3) + 1)) (nI (a + 4)) q lt m1 m2 m3 m4 bd fc hd sz el t g fm hm so si sh ce ca td wa kp la bf oo bo pw ow tr)) at_X2_readHas_56 rfl rfl (Nat.le_of_ble_eq_true rfl) rfl (ab_rvOf w34 rfl) (w_nuB (a := cnE e n (a + 3)) (hi := nI (qM q) - nI 1) (by decide) hn (by omega) l_lt hlt hb1 hd1) (by decide) w_lens ?_
                  refine E_istore_n (L2 := [some (.ref 34), some (.int (nI (nuV e n (a + 4)))), some (.int (nI 0))]) at_X2_readHas_59 rfl ?_
                  refine E_aload_n at_X2_readHas_60 rfl ?_
                  refine E_getfield (v := .int (nI (cnE e n (a + 3) + 1))) at_X2_readHas_61 w34 rfl (by decide) rfl ?_
                  refine E_iconst (x := (-1)) at_X2_readHas_64 (by decide) ?_
                  refine E_ic (t := 78) (b := true) at_X2_readHas_65 rfl ((cn_ne (nI_toInt (by omega)) (by decide : (-1 : Int32).toInt = -1)).trans (decide_eq_true (by omega))) ?_
                  exact E_vret at_X2_readHas_78 rfl
                refine E_callV (v := none) (As := [.ref 34]) (r0 := []) (cs2 := (ww im lf s d k ls (nI (cnE e n (a + 3) + 1)) (nI n) (nI (cnE e n (a + 3) + 1)) (nI (a + 4)) q lt m1 m2 m3 m4 bd fc hd sz el t g fm hm so si sh ce ca td wa kp la bf oo bo pw ow tr)) at_X2_readItem_80 rfl rfl (Nat.le_of_ble_eq_true rfl) rfl (ab_rvOf w34 rfl) e1 (by decide) w_lens ?_
                refine E_goto (t := 110) at_X2_readItem_83 rfl ?_
                exact E_vret at_X2_readItem_110 rfl
              · rcases Nat.lt_or_ge (nuV e n (cnE e n (a + 3) + 1)) (qM q) with hr1 | hr1
                · have hz := mtc_n (e := e) (n := n) [104, 97, 115] a ha
                  have hz_ : a + mj3 e n a ≤ n := hz
                  have hb0_ := (chB_t hb0).1
                  have hd0_ := (dgB_t hd0).1
                  have hV0 := nuV_99 hd0
                  have hc0 := cnE_n hd0
                  have hP9 := I1_ (nuV e n (a + 4)) (by omega)
                  have : (qP q).length = 9 := by first | omega | (simp only [List.length_set]; omega)
                  have hb1_ := (chB_t hb1).1
                  have hd1_ := (dgB_t hd1).1
                  have hV1 := nuV_99 hd1
                  have hc1 := cnE_n hd1
                  have hF0 : nuF e n (a + 3) 0 (qN q) = 0 := nuF_C hb0 hd0 (show ¬ (nuV e n (a + 4) < 0 ∨ (qN q) ≤ nuV e n (a + 4)) from by omega)
                  have hF1 : nuF e n (cnE e n (a + 3)) 0 (qM q) = 0 := nuF_C hb1 hd1 (show ¬ (nuV e n (cnE e n (a + 3) + 1) < 0 ∨ (qM q) ≤ nuV e n (cnE e n (a + 3) + 1)) from by omega)
                  have hI : itF e n q a = 0 := (it_3 (q := q) hw).1.trans (by unfold hasF; rw [if_pos hF0, if_pos (by omega)]; exact hF1)
                  have hE : itA e n a = cnE e n (cnE e n (a + 3)) := (it_3 (q := q) hw).2.2
                  refine ⟨(qs_P q ((qP q).set (nuV e n (a + 4)) (nuV e n (cnE e n (a + 3) + 1)))), (-1), (nI (cnE e n (cnE e n (a + 3)))), (nI (cnE e n (a + 3) + 1)), ?_, Or.inl ⟨hI, (it_3 (q := q) hw).2.1.symm, by rw [hE], rfl, by omega, by omega, (kP Iq (by omega)), Nat.le_refl _⟩⟩
                  refine Ef.in (md := mX2_readItem) (L := [some (.ref 34), none, none]) rfl (Nat.le_of_ble_eq_true rfl) rfl ?_
                  refine E_aload_n at_X2_readItem_0 rfl ?_
                  refine E_getfield (v := .int (nI a)) at_X2_readItem_1 w34 rfl (by decide) rfl ?_
                  refine E_istore_n (L2 := [some (.ref 34), some (.int (nI a)), none]) at_X2_readItem_4 rfl ?_
                  refine E_aload_n at_X2_readItem_5 rfl ?_
                  refine E_callV (v := some (.int (nI 3))) (As := [.ref 34]) (r0 := []) (cs2 := (ww im lf s d k ls (-1) (nI n) (nI (a + 3)) rn q lt m1 m2 m3 m4 bd fc hd sz el t g fm hm so si sh ce ca td wa kp la bf oo bo pw ow tr)) at_X2_readItem_6 rfl rfl (Nat.le_of_ble_eq_true rfl) rfl (ab_rvOf w34 rfl) (w_rw3 hn ha l_lt hlt hw) (by decide) w_lens ?_
                  refine E_istore_n (L2 := [some (.ref 34), some (.int (nI a)), some (.int (nI 3))]) at_X2_readItem_9 rfl ?_
                  refine E_aload_n at_X2_readItem_10 rfl ?_
                  refine E_getfield (v := .int (-1)) at_X2_readItem_11 w34 rfl (by decide) rfl ?_
                  refine E_iconst (x := (-1)) at_X2_readItem_14 (by decide) ?_
                  refine E_ic (t := 19) (b := true) at_X2_readItem_15 rfl (by decide) ?_
                  refine E_iload_n at_X2_readItem_19 rfl ?_
                  refine E_tsIn (off := 59) (t := 79) at_X2_readItem_20 (by decide) rfl rfl ?_
                  refine E_aload_n at_X2_readItem_79 rfl ?_
                  have e1 : Ev ab_Z0 4 19 [.ref 34] (ww im lf s d k ls (-1) (nI n) (nI (a + 3)) rn q lt m1 m2 m3 m4 bd fc hd sz el t g fm hm so si sh ce ca td wa kp la bf oo bo pw ow tr) (none, (ww im lf s d k ls (-1) (nI n) (nI (cnE e n (cnE e n (a + 3)))) (nI (cnE e n (a + 3) + 1)) (qs_P q ((qP q).set (nuV e n (a + 4)) (nuV e n (cnE e n (a + 3) + 1)))) lt m1 m2 m3 m4 bd fc hd sz el t g fm hm so si sh ce ca td wa kp la bf oo bo pw ow tr)) := by
                    refine Ef.in (md := mX2_readHas) (L := [some (.ref 34), none, none]) rfl (Nat.le_of_ble_eq_true rfl) rfl ?_
                    refine E_aload_n at_X2_readHas_0 rfl ?_
                    refine E_iconst (x := nI 0) at_X2_readHas_1 (by decide) ?_
                    refine E_aload_n at_X2_readHas_2 rfl ?_
                    refine E_getfield (v := .ref 35) at_X2_readHas_3 w34 rfl (by decide) rfl ?_
                    refine E_getfield (v := .int (nI (qN q))) at_X2_readHas_6 w35 rfl (by decide) rfl ?_
                    refine E_iconst (x := nI 1) at_X2_readHas_9 (by decide) ?_
                    refine E_isub (z := nI ((qN q) - 1)) at_X2_readHas_10 (pk_sub (by omega)) ?_
                    refine E_callV (v := some (.int (nI (nuV e n (a + 4))))) (As := [.ref 34, .int (nI 0), .int (nI ((qN q) - 1))]) (r0 := []) (cs2 := (ww im lf s d k ls (-1) (nI n) (nI (cnE e n (a + 3))) (nI (a + 4)) q lt m1 m2 m3 m4 bd fc hd sz el t g fm hm so si sh ce ca td wa kp la bf oo bo pw ow tr)) at_X2_readHas_11 rfl rfl (Nat.le_of_ble_eq_true rfl) rfl (ab_rvOf w34 rfl) (w_nuC (a := a + 3) (hi := nI ((qN q) - 1)) (by decide) hn (by omega) l_lt hlt hb0 hd0 (show 0 ≤ nuV e n (a + 4) from by omega) (show ((nuV e n (a + 4) : Nat) : Int) ≤ (nI ((qN q) - 1)).toInt from by rw [(nI_toInt (by omega) : (nI ((qN q) - 1)).toInt = (((qN q) - 1 : Nat) : Int))]; omega)) (by decide) w_lens ?_
                    refine E_istore_n (L2 := [some (.ref 34), some (.int (nI (nuV e n (a + 4)))), none]) at_X2_readHas_14 rfl ?_
                    refine E_aload_n at_X2_readHas_15 rfl ?_
                    refine E_getfield (v := .int (-1)) at_X2_readHas_16 w34 rfl (by decide) rfl ?_
                    refine E_iconst (x := (-1)) at_X2_readHas_19 (by decide) ?_
                    refine E_ic (t := 45) (b := false) at_X2_readHas_20 rfl (by decide) ?_
                    refine E_aload_n at_X2_readHas_23 rfl ?_
                    refine E_getfield (v := .ref 35) at_X2_readHas_24 w34 rfl (by decide) rfl ?_
                    refine E_getfield (v := .ref 39) at_X2_readHas_27 w35 rfl (by decide) rfl ?_
                    refine E_iload_n at_X2_readHas_30 rfl ?_
                    refine E_ialN (l := qP q) (v := (qP q).getD (nuV e n (a + 4)) 0) at_X2_readHas_31 w39 (by omega) (by omega) rfl ?_
                    refine E_bipush (x := nI 99) at_X2_readHas_32 (by decide) ?_
                    refine E_ic (t := 45) (b := true) at_X2_readHas_34 rfl ((cn_eq (nI_toInt (by omega)) (nI_toInt (by omega))).trans (decide_eq_true (by omega))) ?_
                    refine E_aload_n at_X2_readHas_45 rfl ?_
                    refine E_iconst (x := nI 0) at_X2_readHas_46 (by decide) ?_
                    refine E_aload_n at_X2_readHas_47 rfl ?_
                    refine E_getfield (v := .ref 35) at_X2_readHas_48 w34 rfl (by decide) rfl ?_
                    refine E_getfield (v := .int (nI (qM q))) at_X2_readHas_51 w35 rfl (by decide) rfl ?_
                    refine E_iconst (x := nI 1) at_X2_readHas_54 (by decide) ?_
                    refine E_isub (z := nI ((qM q) - 1)) at_X2_readHas_55 (pk_sub (by omega)) ?_
                    refine E_callV (v := some (.int (nI (nuV e n (cnE e n (a + 3) + 1))))) (As := [.ref 34, .int (nI 0), .int (nI ((qM q) - 1))]) (r0 := []) (cs2 := (ww im lf s d k ls (-1) (nI n) (nI (cnE e n (cnE e n (a + 3)))) (nI (cnE e n (a + 3) + 1)) q lt m1 m2 m3 m4 bd fc hd sz el t g fm hm so si sh ce ca td wa kp la bf oo bo pw ow tr)) at_X2_readHas_56 rfl rfl (Nat.le_of_ble_eq_true rfl) rfl (ab_rvOf w34 rfl) (w_nuC (a := cnE e n (a + 3)) (hi := nI ((qM q) - 1)) (by decide) hn (by omega) l_lt hlt hb1 hd1 (show 0 ≤ nuV e n (cnE e n (a + 3) + 1) from by omega) (show ((nuV e n (cnE e n (a + 3) + 1) : Nat) : Int) ≤ (nI ((qM q) - 1)).toInt from by rw [(nI_toInt (by omega) : (nI ((qM q) - 1)).toInt = (((qM q) - 1 : Nat) : Int))]; omega)) (by decide) w_lens ?_
                    refine E_istore_n (L2 := [some (.ref 34), some (.int (nI (nuV e n (a + 4)))), some (.int (nI (nuV e n (cnE e n (a + 3) + 1))))]) at_X2_readHas_59 rfl ?_
                    refine E_aload_n at_X2_readHas_60 rfl ?_
                    refine E_getfield (v := .int (-1)) at_X2_readHas_61 w34 rfl (by decide) rfl ?_
                    refine E_iconst (x := (-1)) at_X2_readHas_64 (by decide) ?_
                    refine E_ic (t := 78) (b := false) at_X2_readHas_65 rfl (by decide) ?_
                    refine E_aload_n rfl rfl ?_
                    refine E_getfield (v := .ref 35) rfl w34 rfl (by decide) rfl ?_
                    refine E_getfield (v := .ref 39) rfl w35 rfl (by decide) rfl ?_
                    refine E_iload_n rfl rfl ?_
                    refine E_iload_n rfl rfl ?_
                    refine E_iasN (l := qP q) (cs2 := (ww im lf s d k ls (-1) (nI n) (nI (cnE e n (cnE e n (a + 3)))) (nI (cnE e n (a + 3) + 1)) (qs_P q ((qP q).set (nuV e n (a + 4)) (nuV e n (cnE e n (a + 3) + 1)))) lt m1 m2 m3 m4 bd fc hd sz el t g fm hm so si sh ce ca td wa kp la bf oo bo pw ow tr)) rfl w39 (by omega) (by omega) w_pt35_P ?_
                    exact E_vret at_X2_readHas_78 rfl
                  refine E_callV (v := none) (As := [.ref 34]) (r0 := []) (cs2 := (ww im lf s d k ls (-1) (nI n) (nI (cnE e n (cnE e n (a + 3)))) (nI (cnE e n (a + 3) + 1)) (qs_P q ((qP q).set (nuV e n (a + 4)) (nuV e n (cnE e n (a + 3) + 1)))) lt m1 m2 m3 m4 bd fc hd sz el t g fm hm so si sh ce ca td wa kp la bf oo bo pw ow tr)) at_X2_readItem_80 rfl rfl (Nat.le_of_ble_eq_true rfl) rfl (ab_rvOf w34 rfl) e1 (by decide) w_lens ?_
                  refine E_goto (t := 110) at_X2_readItem_83 rfl ?_
                  exact E_vret at_X2_readItem_110 rfl
                · have hz := mtc_n (e := e) (n := n) [104, 97, 115] a ha
                  have hz_ : a + mj3 e n a ≤ n := hz
                  have hb0_ := (chB_t hb0).1
                  have hd0_ := (dgB_t hd0).1
                  have hV0 := nuV_99 hd0
                  have hc0 := cnE_n hd0
                  have hP9 := I1_ (nuV e n (a + 4)) (by omega)
                  have : (qP q).length = 9 := by first | omega | (simp only [List.length_set]; omega)
                  have hb1_ := (chB_t hb1).1
                  have hd1_ := (dgB_t hd1).1
                  have hV1 := nuV_99 hd1
                  have hF0 : nuF e n (a + 3) 0 (qN q) = 0 := nuF_C hb0 hd0 (show ¬ (nuV e n (a + 4) < 0 ∨ (qN q) ≤ nuV e n (a + 4)) from by omega)
                  have hF1 : nuF e n (cnE e n (a + 3)) 0 (qM q) = cnE e n (a + 3) + 2 := nuF_D hb1 hd1 (show nuV e n (cnE e n (a + 3) + 1) < 0 ∨ (qM q) ≤ nuV e n (cnE e n (a + 3) + 1) from by omega)
                  have hI : itF e n q a = cnE e n (a + 3) + 2 := (it_3 (q := q) hw).1.trans (by unfold hasF; rw [if_pos hF0, if_pos (by omega)]; exact hF1)
                  refine ⟨q, (nI (cnE e n (a + 3) + 1)), (nI (nuE e n (cnE e n (a + 3) + 1))), (nI (cnE e n (a + 3) + 1)), ?_, Or.inr ⟨cnE e n (a + 3) + 1, by omega, rfl, by omega, rfl⟩⟩
                  refine Ef.in (md := mX2_readItem) (L := [some (.ref 34), none, none]) rfl (Nat.le_of_ble_eq_true rfl) rfl ?_
                  refine E_aload_n at_X2_readItem_0 rfl ?_
                  refine E_getfield (v := .int (nI a)) at_X2_readItem_1 w34 rfl (by decide) rfl ?_
                  refine E_istore_n (L2 := [some (.ref 34), some (.int (nI a)), none]) at_X2_readItem_4 rfl ?_
                  refine E_aload_n at_X2_readItem_5 rfl ?_
                  refine E_callV (v := some (.int (nI 3))) (As := [.ref 34]) (r0 := []) (cs2 := (ww im lf s d k ls (-1) (nI n) (nI (a + 3)) rn q lt m1 m2 m3 m4 bd fc hd sz el t g fm hm so si sh ce ca td wa kp la bf oo bo pw ow tr)) at_X2_readItem_6 rfl rfl (Nat.le_of_ble_eq_true rfl) rfl (ab_rvOf w34 rfl) (w_rw3 hn ha l_lt hlt hw) (by decide) w_lens ?_
                  refine E_istore_n (L2 := [some (.ref 34), some (.int (nI a)), some (.int (nI 3))]) at_X2_readItem_9 rfl ?_
                  refine E_aload_n at_X2_readItem_10 rfl ?_
                  refine E_getfield (v := .int (-1)) at_X2_readItem_11 w34 rfl (by decide) rfl ?_
                  refine E_iconst (x := (-1)) at_X2_readItem_14 (by decide) ?_
                  refine E_ic (t := 19) (b := true) at_X2_readItem_15 rfl (by decide) ?_
                  refine E_iload_n at_X2_readItem_19 rfl ?_
                  refine E_tsIn (off := 59) (t := 79) at_X2_readItem_20 (by decide) rfl rfl ?_
                  refine E_aload_n at_X2_readItem_79 rfl ?_
                  have e1 : Ev ab_Z0 4 19 [.ref 34] (ww im lf s d k ls (-1) (nI n) (nI (a + 3)) rn q lt m1 m2 m3 m4 bd fc hd sz el t g fm hm so si sh ce ca td wa kp la bf oo bo pw ow tr) (none, (ww im lf s d k ls (nI (cnE e n (a + 3) + 1)) (nI n) (nI (nuE e n (cnE e n (a + 3) + 1))) (nI (cnE e n (a + 3) + 1)) q lt m1 m2 m3 m4 bd fc hd sz el t g fm hm so si sh ce ca td wa kp la bf oo bo pw ow tr)) := by
                    refine Ef.in (md := mX2_readHas) (L := [some (.ref 34), none, none]) rfl (Nat.le_of_ble_eq_true rfl) rfl ?_
                    refine E_aload_n at_X2_readHas_0 rfl ?_
                    refine E_iconst (x := nI 0) at_X2_readHas_1 (by decide) ?_
                    refine E_aload_n at_X2_readHas_2 rfl ?_
                    refine E_getfield (v := .ref 35) at_X2_readHas_3 w34 rfl (by decide) rfl ?_
                    refine E_getfield (v := .int (nI (qN q))) at_X2_readHas_6 w35 rfl (by decide) rfl ?_
                    refine E_iconst (x := nI 1) at_X2_readHas_9 (by decide) ?_
                    refine E_isub (z := nI ((qN q) - 1)) at_X2_readHas_10 (pk_sub (by omega)) ?_
                    refine E_callV (v := some (.int (nI (nuV e n (a + 4))))) (As := [.ref 34, .int (nI 0), .int (nI ((qN q) - 1))]) (r0 := []) (cs2 := (ww im lf s d k ls (-1) (nI n) (nI (cnE e n (a + 3))) (nI (a + 4)) q lt m1 m2 m3 m4 bd fc hd sz el t g fm hm so si sh ce ca td wa kp la bf oo bo pw ow tr)) at_X2_readHas_11 rfl rfl (Nat.le_of_ble_eq_true rfl) rfl (ab_rvOf w34 rfl) (w_nuC (a := a + 3) (hi := nI ((qN q) - 1)) (by decide) hn (by omega) l_lt hlt hb0 hd0 (show 0 ≤ nuV e n (a + 4) from by omega) (show ((nuV e n (a + 4) : Nat) : Int) ≤ (nI ((qN q) - 1)).toInt from by rw [(nI_toInt (by omega) : (nI ((qN q) - 1)).toInt = (((qN q) - 1 : Nat) : Int))]; omega)) (by decide) w_lens ?_
                    refine E_istore_n (L2 := [some (.ref 34), some (.int (nI (nuV e n (a + 4)))), none]) at_X2_readHas_14 rfl ?_
                    refine E_aload_n at_X2_readHas_15 rfl ?_
                    refine E_getfield (v := .int (-1)) at_X2_readHas_16 w34 rfl (by decide) rfl ?_
                    refine E_iconst (x := (-1)) at_X2_readHas_19 (by decide) ?_
                    refine E_ic (t := 45) (b := false) at_X2_readHas_20 rfl (by decide) ?_
                    refine E_aload_n at_X2_readHas_23 rfl ?_
                    refine E_getfield (v := .ref 35) at_X2_readHas_24 w34 rfl (by decide) rfl ?_
                    refine E_getfield (v := .ref 39) at_X2_readHas_27 w35 rfl (by decide) rfl ?_
                    refine E_iload_n at_X2_readHas_30 rfl ?_
                    refine E_ialN (l := qP q) (v := (qP q).getD (nuV e n (a + 4)) 0) at_X2_readHas_31 w39 (by omega) (by omega) rfl ?_
                    refine E_bipush (x := nI 99) at_X2_readHas_32 (by decide) ?_
                    refine E_ic (t := 45) (b := true) at_X2_readHas_34 rfl ((cn_eq (nI_toInt (by omega)) (nI_toInt (by omega))).trans (decide_eq_true (by omega))) ?_
                    refine E_aload_n at_X2_readHas_45 rfl ?_
                    refine E_iconst (x := nI 0) at_X2_readHas_46 (by decide) ?_
                    refine E_aload_n at_X2_readHas_47 rfl ?_
                    refine E_getfield (v := .ref 35) at_X2_readHas_48 w34 rfl (by decide) rfl ?_
                    refine E_getfield (v := .int (nI (qM q))) at_X2_readHas_51 w35 rfl (by decide) rfl ?_
                    refine E_iconst (x := nI 1) at_X2_readHas_54 (by decide) ?_
                    refine E_isub (z := nI (qM q) - nI 1) at_X2_readHas_55 rfl ?_
                    refine E_callV (v := some (.int (nI (nuV e n (cnE e n (a + 3) + 1))))) (As := [.ref 34, .int (nI 0), .int (nI (qM q) - nI 1)]) (r0 := []) (cs2 := (ww im lf s d k ls (nI (cnE e n (a + 3) + 1)) (nI n) (nI (nuE e n (cnE e n (a + 3) + 1))) (nI (cnE e n (a + 3) + 1)) q lt m1 m2 m3 m4 bd fc hd sz el t g fm hm so si sh ce ca td wa kp la bf oo bo pw ow tr)) at_X2_readHas_56 rfl rfl (Nat.le_of_ble_eq_true rfl) rfl (ab_rvOf w34 rfl) (w_nuD (a := cnE e n (a + 3)) (hi := nI (qM q) - nI 1) (by decide) hn (by omega) l_lt hlt hb1 hd1 (show nuV e n (cnE e n (a + 3) + 1) < 0 ∨ (nI (qM q) - nI 1).toInt < ((nuV e n (cnE e n (a + 3) + 1) : Nat) : Int) from by rw [(ab_subI (by omega) (by omega) : (nI (qM q) - nI 1).toInt = ((qM q : Nat) : Int) - ((1 : Nat) : Int))]; omega)) (by decide) w_lens ?_
                    refine E_istore_n (L2 := [some (.ref 34), some (.int (nI (nuV e n (a + 4)))), some (.int (nI (nuV e n (cnE e n (a + 3) + 1))))]) at_X2_readHas_59 rfl ?_
                    refine E_aload_n at_X2_readHas_60 rfl ?_
                    refine E_getfield (v := .int (nI (cnE e n (a + 3) + 1))) at_X2_readHas_61 w34 rfl (by decide) rfl ?_
                    refine E_iconst (x := (-1)) at_X2_readHas_64 (by decide) ?_
                    refine E_ic (t := 78) (b := true) at_X2_readHas_65 rfl ((cn_ne (nI_toInt (by omega)) (by decide : (-1 : Int32).toInt = -1)).trans (decide_eq_true (by omega))) ?_
                    exact E_vret at_X2_readHas_78 rfl
                  refine E_callV (v := none) (As := [.ref 34]) (r0 := []) (cs2 := (ww im lf s d k ls (nI (cnE e n (a + 3) + 1)) (nI n) (nI (nuE e n (cnE e n (a + 3) + 1))) (nI (cnE e n (a + 3) + 1)) q lt m1 m2 m3 m4 bd fc hd sz el t g fm hm so si sh ce ca td wa kp la bf oo bo pw ow tr)) at_X2_readItem_80 rfl rfl (Nat.le_of_ble_eq_true rfl) rfl (ab_rvOf w34 rfl) e1 (by decide) w_lens ?_
                  refine E_goto (t := 110) at_X2_readItem_83 rfl ?_
                  exact E_vret at_X2_readItem_110 rfl
          · have hz := mtc_n (e := e) (n := n) [104, 97, 115] a ha
            have hz_ : a + mj3 e n a ≤ n := hz
            have hb0_ := (chB_t hb0).1
            have hd0_ := (dgB_t hd0).1
            have hV0 := nuV_99 hd0
            have hc0 := cnE_n hd0
            have hP9 := I1_ (nuV e n (a + 4)) (by omega)
            have : (qP q).length = 9 := by first | omega | (simp only [List.length_set]; omega)
            have hF0 : nuF e n (a + 3) 0 (qN q) = 0 := nuF_C hb0 hd0 (show ¬ (nuV e n (a + 4) < 0 ∨ (qN q) ≤ nuV e n (a + 4)) from by omega)
            have hI : itF e n q a = a + 5 := (it_3 (q := q) hw).1.trans (by unfold hasF; rw [if_pos hF0, if_neg (by omega)])
            refine ⟨q, (nI (a + 4)), (nI (cnE e n (a + 3))), (nI (a + 4)), ?_, Or.inr ⟨a + 4, by omega, rfl, by omega, rfl⟩⟩
            refine Ef.in (md := mX2_readItem) (L := [some (.ref 34), none, none]) rfl (Nat.le_of_ble_eq_true rfl) rfl ?_
            refine E_aload_n at_X2_readItem_0 rfl ?_
            refine E_getfield (v := .int (nI a)) at_X2_readItem_1 w34 rfl (by decide) rfl ?_
            refine E_istore_n (L2 := [some (.ref 34), some (.int (nI a)), none]) at_X2_readItem_4 rfl ?_
            refine E_aload_n at_X2_readItem_5 rfl ?_
            refine E_callV (v := some (.int (nI 3))) (As := [.ref 34]) (r0 := []) (cs2 := (ww im lf s d k ls (-1) (nI n) (nI (a + 3)) rn q lt m1 m2 m3 m4 bd fc hd sz el t g fm hm so si sh ce ca td wa kp la bf oo bo pw ow tr)) at_X2_readItem_6 rfl rfl (Nat.le_of_ble_eq_true rfl) rfl (ab_rvOf w34 rfl) (w_rw3 hn ha l_lt hlt hw) (by decide) w_lens ?_
            refine E_istore_n (L2 := [some (.ref 34), some (.int (nI a)), some (.int (nI 3))]) at_X2_readItem_9 rfl ?_
            refine E_aload_n at_X2_readItem_10 rfl ?_
            refine E_getfield (v := .int (-1)) at_X2_readItem_11 w34 rfl (by decide) rfl ?_
            refine E_iconst (x := (-1)) at_X2_readItem_14 (by decide) ?_
            refine E_ic (t := 19) (b := true) at_X2_readItem_15 rfl (by decide) ?_
            refine E_iload_n at_X2_readItem_19 rfl ?_
            refine E_tsIn (off := 59) (t := 79) at_X2_readItem_20 (by decide) rfl rfl ?_
            refine E_aload_n at_X2_readItem_79 rfl ?_
            have e1 : Ev ab_Z0 4 19 [.ref 34] (ww im lf s d k ls (-1) (nI n) (nI (a + 3)) rn q lt m1 m2 m3 m4 bd fc hd sz el t g fm hm so si sh ce ca td wa kp la bf oo bo pw ow tr) (none, (ww im lf s d k ls (nI (a + 4)) (nI n) (nI (cnE e n (a + 3))) (nI (a + 4)) q lt m1 m2 m3 m4 bd fc hd sz el t g fm hm so si sh ce ca td wa kp la bf oo bo pw ow tr)) := by
              refine Ef.in (md := mX2_readHas) (L := [some (.ref 34), none, none]) rfl (Nat.le_of_ble_eq_true rfl) rfl ?_
              refine E_aload_n at_X2_readHas_0 rfl ?_
              refine E_iconst (x := nI 0) at_X2_readHas_1 (by decide) ?_
              refine E_aload_n at_X2_readHas_2 rfl ?_
              refine E_getfield (v := .ref 35) at_X2_readHas_3 w34 rfl (by decide) rfl ?_
              refine E_getfield (v := .int (nI (qN q))) at_X2_readHas_6 w35 rfl (by decide) rfl ?_
              refine E_iconst (x := nI 1) at_X2_readHas_9 (by decide) ?_
              refine E_isub (z := nI ((qN q) - 1)) at_X2_readHas_10 (pk_sub (by omega)) ?_
              refine E_callV (v := some (.int (nI (nuV e n (a + 4))))) (As := [.ref 34, .int (nI 0), .int (nI ((qN q) - 1))]) (r0 := []) (cs2 := (ww im lf s d k ls (-1) (nI n) (nI (cnE e n (a + 3))) (nI (a + 4)) q lt m1 m2 m3 m4 bd fc hd sz el t g fm hm so si sh ce ca td wa kp la bf oo bo pw ow tr)) at_X2_readHas_11 rfl rfl (Nat.le_of_ble_eq_true rfl) rfl (ab_rvOf w34 rfl) (w_nuC (a := a + 3) (hi := nI ((qN q) - 1)) (by decide) hn (by omega) l_lt hlt hb0 hd0 (show 0 ≤ nuV e n (a + 4) from by omega) (show ((nuV e n (a + 4) : Nat) : Int) ≤ (nI ((qN q) - 1)).toInt from by rw [(nI_toInt (by omega) : (nI ((qN q) - 1)).toInt = (((qN q) - 1 : Nat) : Int))]; omega)) (by decide) w_lens ?_
              refine E_istore_n (L2 := [some (.ref 34), some (.int (nI (nuV e n (a + 4)))), none]) at_X2_readHas_14 rfl ?_
              refine E_aload_n at_X2_readHas_15 rfl ?_
              refine E_getfield (v := .int (-1)) at_X2_readHas_16 w34 rfl (by decide) rfl ?_
              refine E_iconst (x := (-1)) at_X2_readHas_19 (by decide) ?_
              refine E_ic (t := 45) (b := false) at_X2_readHas_20 rfl (by decide) ?_
              refine E_aload_n at_X2_readHas_23 rfl ?_
              refine E_getfield (v := .ref 35) at_X2_readHas_24 w34 rfl (by decide) rfl ?_
              refine E_getfield (v := .ref 39) at_X2_readHas_27 w35 rfl (by decide) rfl ?_
              refine E_iload_n at_X2_readHas_30 rfl ?_
              refine E_ialN (l := qP q) (v := (qP q).getD (nuV e n (a + 4)) 0) at_X2_readHas_31 w39 (by omega) (by omega) rfl ?_
              refine E_bipush (x := nI 99) at_X2_readHas_32 (by decide) ?_
              refine E_ic (t := 45) (b := false) at_X2_readHas_34 rfl ((cn_eq (nI_toInt (by omega)) (nI_toInt (by omega))).trans (decide_eq_false (by omega))) ?_
              refine E_aload_n rfl rfl ?_
              refine E_aload_n rfl rfl ?_
              refine E_getfield (v := .int (nI (a + 4))) rfl w34 rfl (by decide) rfl ?_
              refine E_putfield (cs2 := (ww im lf s d k ls (nI (a + 4)) (nI n) (nI (cnE e n (a + 3))) (nI (a + 4)) q lt m1 m2 m3 m4 bd fc hd sz el t g fm hm so si sh ce ca td wa kp la bf oo bo pw ow tr)) rfl w34 rfl (by decide) (Nat.le_of_ble_eq_true rfl) rfl rfl rfl rfl ?_
              refine E_aload_n at_X2_readHas_45 rfl ?_
              refine E_iconst (x := nI 0) at_X2_readHas_46 (by decide) ?_
              refine E_aload_n at_X2_readHas_47 rfl ?_
              refine E_getfield (v := .ref 35) at_X2_readHas_48 w34 rfl (by decide) rfl ?_
              refine E_getfield (v := .int (nI (qM q))) at_X2_readHas_51 w35 rfl (by decide) rfl ?_
              refine E_iconst (x := nI 1) at_X2_readHas_54 (by decide) ?_
              refine E_isub (z := nI (qM q) - nI 1) at_X2_readHas_55 rfl ?_
              refine E_callV (v := some (.int (nI 0))) (As := [.ref 34, .int (nI 0), .int (nI (qM q) - nI 1)]) (r0 := []) (cs2 := (ww im lf s d k ls (nI (a + 4)) (nI n) (nI (cnE e n (a + 3))) (nI (a + 4)) q lt m1 m2 m3 m4 bd fc hd sz el t g fm hm so si sh ce ca td wa kp la bf oo bo pw ow tr)) at_X2_readHas_56 rfl rfl (Nat.le_of_ble_eq_true rfl) rfl (ab_rvOf w34 rfl) (w_nux (f := a + 4) (by omega)) (by decide) rfl ?_
              refine E_istore_n (L2 := [some (.ref 34), some (.int (nI (nuV e n (a + 4)))), some (.int (nI 0))]) at_X2_readHas_59 rfl ?_
              refine E_aload_n at_X2_readHas_60 rfl ?_
              refine E_getfield (v := .int (nI (a + 4))) at_X2_readHas_61 w34 rfl (by decide) rfl ?_
              refine E_iconst (x := (-1)) at_X2_readHas_64 (by decide) ?_
              refine E_ic (t := 78) (b := true) at_X2_readHas_65 rfl ((cn_ne (nI_toInt (by omega)) (by decide : (-1 : Int32).toInt = -1)).trans (decide_eq_true (by omega))) ?_
              exact E_vret at_X2_readHas_78 rfl
            refine E_callV (v := none) (As := [.ref 34]) (r0 := []) (cs2 := (ww im lf s d k ls (nI (a + 4)) (nI n) (nI (cnE e n (a + 3))) (nI (a + 4)) q lt m1 m2 m3 m4 bd fc hd sz el t g fm hm so si sh ce ca td wa kp la bf oo bo pw ow tr)) at_X2_readItem_80 rfl rfl (Nat.le_of_ble_eq_true rfl) rfl (ab_rvOf w34 rfl) e1 (by decide) w_lens ?_
            refine E_goto (t := 110) at_X2_readItem_83 rfl ?_
            exact E_vret at_X2_readItem_110 rfl
        · have hz := mtc_n (e := e) (n := n) [104, 97, 115] a ha
          have hz_ : a + mj3 e n a ≤ n := hz
          have hb0_ := (chB_t hb0).1
          have hd0_ := (dgB_t hd0).1
          have hV0 := nuV_99 hd0
          have hF0 : nuF e n (a + 3) 0 (qN q) = a + 3 + 2 := nuF_D hb0 hd0 (show nuV e n (a + 4) < 0 ∨ (qN q) ≤ nuV e n (a + 4) from by omega)
          have hI : itF e n q a = a + 5 := (it_3 (q := q) hw).1.trans (by unfold hasF; rw [if_neg (by omega)]; exact hF0)
          refine ⟨q, (nI (a + 4)), (nI (nuE e n (a + 4))), (nI (a + 4)), ?_, Or.inr ⟨a + 4, by omega, rfl, by omega, rfl⟩⟩
          refine Ef.in (md := mX2_readItem) (L := [some (.ref 34), none, none]) rfl (Nat.le_of_ble_eq_true rfl) rfl ?_
          refine E_aload_n at_X2_readItem_0 rfl ?_
          refine E_getfield (v := .int (nI a)) at_X2_readItem_1 w34 rfl (by decide) rfl ?_
          refine E_istore_n (L2 := [some (.ref 34), some (.int (nI a)), none]) at_X2_readItem_4 rfl ?_
          refine E_aload_n at_X2_readItem_5 rfl ?_
          refine E_callV (v := some (.int (nI 3))) (As := [.ref 34]) (r0 := []) (cs2 := (ww im lf s d k ls (-1) (nI n) (nI (a + 3)) rn q lt m1 m2 m3 m4 bd fc hd sz el t g fm hm so si sh ce ca td wa kp la bf oo bo pw ow tr)) at_X2_readItem_6 rfl rfl (Nat.le_of_ble_eq_true rfl) rfl (ab_rvOf w34 rfl) (w_rw3 hn ha l_lt hlt hw) (by decide) w_lens ?_
          refine E_istore_n (L2 := [some (.ref 34), some (.int (nI a)), some (.int (nI 3))]) at_X2_readItem_9 rfl ?_
          refine E_aload_n at_X2_readItem_10 rfl ?_
          refine E_getfield (v := .int (-1)) at_X2_readItem_11 w34 rfl (by decide) rfl ?_
          refine E_iconst (x := (-1)) at_X2_readItem_14 (by decide) ?_
          refine E_ic (t := 19) (b := true) at_X2_readItem_15 rfl (by decide) ?_
          refine E_iload_n at_X2_readItem_19 rfl ?_
          refine E_tsIn (off := 59) (t := 79) at_X2_readItem_20 (by decide) rfl rfl ?_
          refine E_aload_n at_X2_readItem_79 rfl ?_
          have e1 : Ev ab_Z0 4 19 [.ref 34] (ww im lf s d k ls (-1) (nI n) (nI (a + 3)) rn q lt m1 m2 m3 m4 bd fc hd sz el t g fm hm so si sh ce ca td wa kp la bf oo bo pw ow tr) (none, (ww im lf s d k ls (nI (a + 4)) (nI n) (nI (nuE e n (a + 4))) (nI (a + 4)) q lt m1 m2 m3 m4 bd fc hd sz el t g fm hm so si sh ce ca td wa kp la bf oo bo pw ow tr)) := by
            refine Ef.in (md := mX2_readHas) (L := [some (.ref 34), none, none]) rfl (Nat.le_of_ble_eq_true rfl) rfl ?_
            refine E_aload_n at_X2_readHas_0 rfl ?_
            refine E_iconst (x := nI 0) at_X2_readHas_1 (by decide) ?_
            refine E_aload_n at_X2_readHas_2 rfl ?_
            refine E_getfield (v := .ref 35) at_X2_readHas_3 w34 rfl (by decide) rfl ?_
            refine E_getfield (v := .int (nI (qN q))) at_X2_readHas_6 w35 rfl (by decide) rfl ?_
            refine E_iconst (x := nI 1) at_X2_readHas_9 (by decide) ?_
            refine E_isub (z := nI (qN q) - nI 1) at_X2_readHas_10 rfl ?_
            refine E_callV (v := some (.int (nI (nuV e n (a + 4))))) (As := [.ref 34, .int (nI 0), .int (nI (qN q) - nI 1)]) (r0 := []) (cs2 := (ww im lf s d k ls (nI (a + 4)) (nI n) (nI (nuE e n (a + 4))) (nI (a + 4)) q lt m1 m2 m3 m4 bd fc hd sz el t g fm hm so si sh ce ca td wa kp la bf oo bo pw ow tr)) at_X2_readHas_11 rfl rfl (Nat.le_of_ble_eq_true rfl) rfl (ab_rvOf w34 rfl) (w_nuD (a := a + 3) (hi := nI (qN q) - nI 1) (by decide) hn (by omega) l_lt hlt hb0 hd0 (show nuV e n (a + 4) < 0 ∨ (nI (qN q) - nI 1).toInt < ((nuV e n (a + 4) : Nat) : Int) from by rw [(ab_subI (by omega) (by omega) : (nI (qN q) - nI 1).toInt = ((qN q : Nat) : Int) - ((1 : Nat) : Int))]; omega)) (by decide) w_lens ?_
            refine E_istore_n (L2 := [some (.ref 34), some (.int (nI (nuV e n (a + 4)))), none]) at_X2_readHas_14 rfl ?_
            refine E_aload_n at_X2_readHas_15 rfl ?_
            refine E_getfield (v := .int (nI (a + 4))) at_X2_readHas_16 w34 rfl (by decide) rfl ?_
            refine E_iconst (x := (-1)) at_X2_readHas_19 (by decide) ?_
            refine E_ic (t := 45) (b := true) at_X2_readHas_20 rfl ((cn_ne (nI_toInt (by omega)) (by decide : (-1 : Int32).toInt = -1)).trans (decide_eq_true (by omega))) ?_
            refine E_aload_n at_X2_readHas_45 rfl ?_
            refine E_iconst (x := nI 0) at_X2_readHas_46 (by decide) ?_
            refine E_aload_n at_X2_readHas_47 rfl ?_
            refine E_getfield (v := .ref 35) at_X2_readHas_48 w34 rfl (by decide) rfl ?_
            refine E_getfield (v := .int (nI (qM q))) at_X2_readHas_51 w35 rfl (by decide) rfl ?_
            refine E_iconst (x := nI 1) at_X2_readHas_54 (by decide) ?_
            refine E_isub (z := nI (qM q) - nI 1) at_X2_readHas_55 rfl ?_
            refine E_callV (v := some (.int (nI 0))) (As := [.ref 34, .int (nI 0), .int (nI (qM q) - nI 1)]) (r0 := []) (cs2 := (ww im lf s d k ls (nI (a + 4)) (nI n) (nI (nuE e n (a + 4))) (nI (a + 4)) q lt m1 m2 m3 m4 bd fc hd sz el t g fm hm so si sh ce ca td wa kp la bf oo bo pw ow tr)) at_X2_readHas_56 rfl rfl (Nat.le_of_ble_eq_true rfl) rfl (ab_rvOf w34 rfl) (w_nux (f := a + 4) (by omega)) (by decide) rfl ?_
            refine E_istore_n (L2 := [some (.ref 34), some (.int (nI (nuV e n (a + 4)))), some (.int (nI 0))]) at_X2_readHas_59 rfl ?_
            refine E_aload_n at_X2_readHas_60 rfl ?_
            refine E_getfield (v := .int (nI (a + 4))) at_X2_readHas_61 w34 rfl (by decide) rfl ?_
            refine E_iconst (x := (-1)) at_X2_readHas_64 (by decide) ?_
            refine E_ic (t := 78) (b := true) at_X2_readHas_65 rfl ((cn_ne (nI_toInt (by omega)) (by decide : (-1 : Int32).toInt = -1)).trans (decide_eq_true (by omega))) ?_
            exact E_vret at_X2_readHas_78 rfl
          refine E_callV (v := none) (As := [.ref 34]) (r0 := []) (cs2 := (ww im lf s d k ls (nI (a + 4)) (nI n) (nI (nuE e n (a + 4))) (nI (a + 4)) q lt m1 m2 m3 m4 bd fc hd sz el t g fm hm so si sh ce ca td wa kp la bf oo bo pw ow tr)) at_X2_readItem_80 rfl rfl (Nat.le_of_ble_eq_true rfl) rfl (ab_rvOf w34 rfl) e1 (by decide) w_lens ?_
          refine E_goto (t := 110) at_X2_readItem_83 rfl ?_
          exact E_vret at_X2_readItem_110 rfl
  · rcases bo2 (chB e n (a + 4) 32) with hb0 | hb0
    · have hz := mtc_n (e := e) (n := n) [98, 97, 99, 107] a ha
      have hz_ : a + mj4 e n a ≤ n := hz
      have hF0 : nuF e n (a + 4) 0 (qN q) = a + 4 + 1 := nuF_A hb0
      have hI : itF e n q a = a + 5 := (it_4 (q := q) hw).1.trans (by unfold bakF; rw [if_neg (by omega)]; exact hF0)
      refine ⟨q, (nI (a + 4)), (nI (a + 4)), rn, ?_, Or.inr ⟨a + 4, by omega, rfl, by omega, rfl⟩⟩
      refine Ef.in (md := mX2_readItem) (L := [some (.ref 34), none, none]) rfl (Nat.le_of_ble_eq_true rfl) rfl ?_
      refine E_aload_n at_X2_readItem_0 rfl ?_
      refine E_getfield (v := .int (nI a)) at_X2_readItem_1 w34 rfl (by decide) rfl ?_
      refine E_istore_n (L2 := [some (.ref 34), some (.int (nI a)), none]) at_X2_readItem_4 rfl ?_
      refine E_aload_n at_X2_readItem_5 rfl ?_
      refine E_callV (v := some (.int (nI 4))) (As := [.ref 34]) (r0 := []) (cs2 := (ww im lf s d k ls (-1) (nI n) (nI (a + 4)) rn q lt m1 m2 m3 m4 bd fc hd sz el t g fm hm so si sh ce ca td wa kp la bf oo bo pw ow tr)) at_X2_readItem_6 rfl rfl (Nat.le_of_ble_eq_true rfl) rfl (ab_rvOf w34 rfl) (w_rw4 hn ha l_lt hlt hw) (by decide) w_lens ?_
      refine E_istore_n (L2 := [some (.ref 34), some (.int (nI a)), some (.int (nI 4))]) at_X2_readItem_9 rfl ?_
      refine E_aload_n at_X2_readItem_10 rfl ?_
      refine E_getfield (v := .int (-1)) at_X2_readItem_11 w34 rfl (by decide) rfl ?_
      refine E_iconst (x := (-1)) at_X2_readItem_14 (by decide) ?_
      refine E_ic (t := 19) (b := true) at_X2_readItem_15 rfl (by decide) ?_
      refine E_iload_n at_X2_readItem_19 rfl ?_
      refine E_tsIn (off := 66) (t := 86) at_X2_readItem_20 (by decide) rfl rfl ?_
      refine E_aload_n at_X2_readItem_86 rfl ?_
      have e1 : Ev ab_Z0 4 20 [.ref 34] (ww im lf s d k ls (-1) (nI n) (nI (a + 4)) rn q lt m1 m2 m3 m4 bd fc hd sz el t g fm hm so si sh ce ca td wa kp la bf oo bo pw ow tr) (none, (ww im lf s d k ls (nI (a + 4)) (nI n) (nI (a + 4)) rn q lt m1 m2 m3 m4 bd fc hd sz el t g fm hm so si sh ce ca td wa kp la bf oo bo pw ow tr)) := by
        refine Ef.in (md := mX2_readBack) (L := [some (.ref 34), none]) rfl (Nat.le_of_ble_eq_true rfl) rfl ?_
        refine E_aload_n at_X2_readBack_0 rfl ?_
        refine E_iconst (x := nI 0) at_X2_readBack_1 (by decide) ?_
        refine E_aload_n at_X2_readBack_2 rfl ?_
        refine E_getfield (v := .ref 35) at_X2_readBack_3 w34 rfl (by decide) rfl ?_
        refine E_getfield (v := .int (nI (qN q))) at_X2_readBack_6 w35 rfl (by decide) rfl ?_
        refine E_iconst (x := nI 1) at_X2_readBack_9 (by decide) ?_
        refine E_isub (z := nI (qN q) - nI 1) at_X2_readBack_10 rfl ?_
        refine E_callV (v := some (.int (nI 0))) (As := [.ref 34, .int (nI 0), .int (nI (qN q) - nI 1)]) (r0 := []) (cs2 := (ww im lf s d k ls (nI (a + 4)) (nI n) (nI (a + 4)) rn q lt m1 m2 m3 m4 bd fc hd sz el t g fm hm so si sh ce ca td wa kp la bf oo bo pw ow tr)) at_X2_readBack_11 rfl rfl (Nat.le_of_ble_eq_true rfl) rfl (ab_rvOf w34 rfl) (w_nuA (a := a + 4) (hi := nI (qN q) - nI 1) (by decide) hn (by omega) l_lt hlt hb0) (by decide) w_lens ?_
        refine E_istore_n (L2 := [some (.ref 34), some (.int (nI 0))]) at_X2_readBack_14 rfl ?_
        refine E_aload_n at_X2_readBack_15 rfl ?_
        refine E_getfield (v := .int (nI (a + 4))) at_X2_readBack_16 w34 rfl (by decide) rfl ?_
        refine E_iconst (x := (-1)) at_X2_readBack_19 (by decide) ?_
        refine E_ic (t := 45) (b := true) at_X2_readBack_20 rfl ((cn_ne (nI_toInt (by omega)) (by decide : (-1 : Int32).toInt = -1)).trans (decide_eq_true (by omega))) ?_
        refine E_aload_n at_X2_readBack_45 rfl ?_
        refine E_getfield (v := .int (nI (a + 4))) at_X2_readBack_46 w34 rfl (by decide) rfl ?_
        refine E_iconst (x := (-1)) at_X2_readBack_49 (by decide) ?_
        refine E_ic (t := 64) (b := true) at_X2_readBack_50 rfl ((cn_ne (nI_toInt (by omega)) (by decide : (-1 : Int32).toInt = -1)).trans (decide_eq_true (by omega))) ?_
        exact E_vret at_X2_readBack_64 rfl
      refine E_callV (v := none) (As := [.ref 34]) (r0 := []) (cs2 := (ww im lf s d k ls (nI (a + 4)) (nI n) (nI (a + 4)) rn q lt m1 m2 m3 m4 bd fc hd sz el t g fm hm so si sh ce ca td wa kp la bf oo bo pw ow tr)) at_X2_readItem_87 rfl rfl (Nat.le_of_ble_eq_true rfl) rfl (ab_rvOf w34 rfl) e1 (by decide) w_lens ?_
      refine E_goto (t := 110) at_X2_readItem_90 rfl ?_
      exact E_vret at_X2_readItem_110 rfl
    · rcases bo2 (dgB e n (a + 5)) with hd0 | hd0
      · have hz := mtc_n (e := e) (n := n) [98, 97, 99, 107] a ha
        have hz_ : a + mj4 e n a ≤ n := hz
        have hb0_ := (chB_t hb0).1
        have hF0 : nuF e n (a + 4) 0 (qN q) = a + 4 + 2 := nuF_B hb0 hd0
        have hI : itF e n q a = a + 6 := (it_4 (q := q) hw).1.trans (by unfold bakF; rw [if_neg (by omega)]; exact hF0)
        refine ⟨q, (nI (a + 5)), (nI (a + 5)), rn, ?_, Or.inr ⟨a + 5, by omega, rfl, by omega, rfl⟩⟩
        refine Ef.in (md := mX2_readItem) (L := [some (.ref 34), none, none]) rfl (Nat.le_of_ble_eq_true rfl) rfl ?_
        refine E_aload_n at_X2_readItem_0 rfl ?_
        refine E_getfield (v := .int (nI a)) at_X2_readItem_1 w34 rfl (by decide) rfl ?_
        refine E_istore_n (L2 := [some (.ref 34), some (.int (nI a)), none]) at_X2_readItem_4 rfl ?_
        refine E_aload_n at_X2_readItem_5 rfl ?_
        refine E_callV (v := some (.int (nI 4))) (As := [.ref 34]) (r0 := []) (cs2 := (ww im lf s d k ls (-1) (nI n) (nI (a + 4)) rn q lt m1 m2 m3 m4 bd fc hd sz el t g fm hm so si sh ce ca td wa kp la bf oo bo pw ow tr)) at_X2_readItem_6 rfl rfl (Nat.le_of_ble_eq_true rfl) rfl (ab_rvOf w34 rfl) (w_rw4 hn ha l_lt hlt hw) (by decide) w_lens ?_
        refine E_istore_n (L2 := [some (.ref 34), some (.int (nI a)), some (.int (nI 4))]) at_X2_readItem_9 rfl ?_
        refine E_aload_n at_X2_readItem_10 rfl ?_
        refine E_getfield (v := .int (-1)) at_X2_readItem_11 w34 rfl (by decide) rfl ?_
        refine E_iconst (x := (-1)) at_X2_readItem_14 (by decide) ?_
        refine E_ic (t := 19) (b := true) at_X2_readItem_15 rfl (by decide) ?_
        refine E_iload_n at_X2_readItem_19 rfl ?_
        refine E_tsIn (off := 66) (t := 86) at_X2_readItem_20 (by decide) rfl rfl ?_
        refine E_aload_n at_X2_readItem_86 rfl ?_
        have e1 : Ev ab_Z0 4 20 [.ref 34] (ww im lf s d k ls (-1) (nI n) (nI (a + 4)) rn q lt m1 m2 m3 m4 bd fc hd sz el t g fm hm so si sh ce ca td wa kp la bf oo bo pw ow tr) (none, (ww im lf s d k ls (nI (a + 5)) (nI n) (nI (a + 5)) rn q lt m1 m2 m3 m4 bd fc hd sz el t g fm hm so si sh ce ca td wa kp la bf oo bo pw ow tr)) := by
          refine Ef.in (md := mX2_readBack) (L := [some (.ref 34), none]) rfl (Nat.le_of_ble_eq_true rfl) rfl ?_
          refine E_aload_n at_X2_readBack_0 rfl ?_
          refine E_iconst (x := nI 0) at_X2_readBack_1 (by decide) ?_
          refine E_aload_n at_X2_readBack_2 rfl ?_
          refine E_getfield (v := .ref 35) at_X2_readBack_3 w34 rfl (by decide) rfl ?_
          refine E_getfield (v := .int (nI (qN q))) at_X2_readBack_6 w35 rfl (by decide) rfl ?_
          refine E_iconst (x := nI 1) at_X2_readBack_9 (by decide) ?_
          refine E_isub (z := nI (qN q) - nI 1) at_X2_readBack_10 rfl ?_
          refine E_callV (v := some (.int (nI 0))) (As := [.ref 34, .int (nI 0), .int (nI (qN q) - nI 1)]) (r0 := []) (cs2 := (ww im lf s d k ls (nI (a + 5)) (nI n) (nI (a + 5)) rn q lt m1 m2 m3 m4 bd fc hd sz el t g fm hm so si sh ce ca td wa kp la bf oo bo pw ow tr)) at_X2_readBack_11 rfl rfl (Nat.le_of_ble_eq_true rfl) rfl (ab_rvOf w34 rfl) (w_nuB (a := a + 4) (hi := nI (qN q) - nI 1) (by decide) hn (by omega) l_lt hlt hb0 hd0) (by decide) w_lens ?_
          refine E_istore_n (L2 := [some (.ref 34), some (.int (nI 0))]) at_X2_readBack_14 rfl ?_
          refine E_aload_n at_X2_readBack_15 rfl ?_
          refine E_getfield (v := .int (nI (a + 5))) at_X2_readBack_16 w34 rfl (by decide) rfl ?_
          refine E_iconst (x := (-1)) at_X2_readBack_19 (by decide) ?_
          refine E_ic (t := 45) (b := true) at_X2_readBack_20 rfl ((cn_ne (nI_toInt (by omega)) (by decide : (-1 : Int32).toInt = -1)).trans (decide_eq_true (by omega))) ?_
          refine E_aload_n at_X2_readBack_45 rfl ?_
          refine E_getfield (v := .int (nI (a + 5))) at_X2_readBack_46 w34 rfl (by decide) rfl ?_
          refine E_iconst (x := (-1)) at_X2_readBack_49 (by decide) ?_
          refine E_ic (t := 64) (b := true) at_X2_readBack_50 rfl ((cn_ne (nI_toInt (by omega)) (by decide : (-1 : Int32).toInt = -1)).trans (decide_eq_true (by omega))) ?_
          exact E_vret at_X2_readBack_64 rfl
        refine E_callV (v := none) (As := [.ref 34]) (r0 := []) (cs2 := (ww im lf s d k ls (nI (a + 5)) (nI n) (nI (a + 5)) rn q lt m1 m2 m3 m4 bd fc hd sz el t g fm hm so si sh ce ca td wa kp la bf oo bo pw ow tr)) at_X2_readItem_87 rfl rfl (Nat.le_of_ble_eq_true rfl) rfl (ab_rvOf w34 rfl) e1 (by decide) w_lens ?_
        refine E_goto (t := 110) at_X2_readItem_90 rfl ?_
        exact E_vret at_X2_readItem_110 rfl
      · rcases Nat.lt_or_ge (nuV e n (a + 5)) (qN q) with hr0 | hr0
        · by_cases f4 : ((qP q).getD (nuV e n (a + 5)) 0) = 99
          · have hz := mtc_n (e := e) (n := n) [98, 97, 99, 107] a ha
            have hz_ : a + mj4 e n a ≤ n := hz
            have hb0_ := (chB_t hb0).1
            have hd0_ := (dgB_t hd0).1
            have hV0 := nuV_99 hd0
            have hc0 := cnE_n hd0
            have hP9 := I1_ (nuV e n (a + 5)) (by omega)
            have : (qP q).length = 9 := by first | omega | (simp only [List.length_set]; omega)
            have hF0 : nuF e n (a + 4) 0 (qN q) = 0 := nuF_C hb0 hd0 (show ¬ (nuV e n (a + 5) < 0 ∨ (qN q) ≤ nuV e n (a + 5)) from by omega)
            have hI : itF e n q a = a + 6 := (it_4 (q := q) hw).1.trans (by unfold bakF; rw [if_pos hF0, if_pos (by omega)])
            refine ⟨q, (nI (a + 5)), (nI (cnE e n (a + 4))), (nI (a + 5)), ?_, Or.inr ⟨a + 5, by omega, rfl, by omega, rfl⟩⟩
            refine Ef.in (md := mX2_readItem) (L := [some (.ref 34), none, none]) rfl (Nat.le_of_ble_eq_true rfl) rfl ?_
            refine E_aload_n at_X2_readItem_0 rfl ?_
            refine E_getfield (v := .int (nI a)) at_X2_readItem_1 w34 rfl (by decide) rfl ?_
            refine E_istore_n (L2 := [some (.ref 34), some (.int (nI a)), none]) at_X2_readItem_4 rfl ?_
            refine E_aload_n at_X2_readItem_5 rfl ?_
            refine E_callV (v := some (.int (nI 4))) (As := [.ref 34]) (r0 := []) (cs2 := (ww im lf s d k ls (-1) (nI n) (nI (a + 4)) rn q lt m1 m2 m3 m4 bd fc hd sz el t g fm hm so si sh ce ca td wa kp la bf oo bo pw ow tr)) at_X2_readItem_6 rfl rfl (Nat.le_of_ble_eq_true rfl) rfl (ab_rvOf w34 rfl) (w_rw4 hn ha l_lt hlt hw) (by decide) w_lens ?_
            refine E_istore_n (L2 := [some (.ref 34), some (.int (nI a)), some (.int (nI 4))]) at_X2_readItem_9 rfl ?_
            refine E_aload_n at_X2_readItem_10 rfl ?_
            refine E_getfield (v := .int (-1)) at_X2_readItem_11 w34 rfl (by decide) rfl ?_
            refine E_iconst (x := (-1)) at_X2_readItem_14 (by decide) ?_
            refine E_ic (t := 19) (b := true) at_X2_readItem_15 rfl (by decide) ?_
            refine E_iload_n at_X2_readItem_19 rfl ?_
            refine E_tsIn (off := 66) (t := 86) at_X2_readItem_20 (by decide) rfl rfl ?_
            refine E_aload_n at_X2_readItem_86 rfl ?_
            have e1 : Ev ab_Z0 4 20 [.ref 34] (ww im lf s d k ls (-1) (nI n) (nI (a + 4)) rn q lt m1 m2 m3 m4 bd fc hd sz el t g fm hm so si sh ce ca td wa kp la bf oo bo pw ow tr) (none, (ww im lf s d k ls (nI (a + 5)) (nI n) (nI (cnE e n (a + 4))) (nI (a + 5)) q lt m1 m2 m3 m4 bd fc hd sz el t g fm hm so si sh ce ca td wa kp la bf oo bo pw ow tr)) := by
              refine Ef.in (md := mX2_readBack) (L := [some (.ref 34), none]) rfl (Nat.le_of_ble_eq_true rfl) rfl ?_
              refine E_aload_n at_X2_readBack_0 rfl ?_
              refine E_iconst (x := nI 0) at_X2_readBack_1 (by decide) ?_
              refine E_aload_n at_X2_readBack_2 rfl ?_
              refine E_getfield (v := .ref 35) at_X2_readBack_3 w34 rfl (by decide) rfl ?_
              refine E_getfield (v := .int (nI (qN q))) at_X2_readBack_6 w35 rfl (by decide) rfl ?_
              refine E_iconst (x := nI 1) at_X2_readBack_9 (by decide) ?_
              refine E_isub (z := nI ((qN q) - 1)) at_X2_readBack_10 (pk_sub (by omega)) ?_
              refine E_callV (v := some (.int (nI (nuV e n (a + 5))))) (As := [.ref 34, .int (nI 0), .int (nI ((qN q) - 1))]) (r0 := []) (cs2 := (ww im lf s d k ls (-1) (nI n) (nI (cnE e n (a + 4))) (nI (a + 5)) q lt m1 m2 m3 m4 bd fc hd sz el t g fm hm so si sh ce ca td wa kp la bf oo bo pw ow tr)) at_X2_readBack_11 rfl rfl (Nat.le_of_ble_eq_true rfl) rfl (ab_rvOf w34 rfl) (w_nuC (a := a + 4) (hi := nI ((qN q) - 1)) (by decide) hn (by omega) l_lt hlt hb0 hd0 (show 0 ≤ nuV e n (a + 5) from by omega) (show ((nuV e n (a + 5) : Nat) : Int) ≤ (nI ((qN q) - 1)).toInt from by rw [(nI_toInt (by omega) : (nI ((qN q) - 1)).toInt = (((qN q) - 1 : Nat) : Int))]; omega)) (by decide) w_lens ?_
              refine E_istore_n (L2 := [some (.ref 34), some (.int (nI (nuV e n (a + 5))))]) at_X2_readBack_14 rfl ?_
              refine E_aload_n at_X2_readBack_15 rfl ?_
              refine E_getfield (v := .int (-1)) at_X2_readBack_16 w34 rfl (by decide) rfl ?_
              refine E_iconst (x := (-1)) at_X2_readBack_19 (by decide) ?_
              refine E_ic (t := 45) (b := false) at_X2_readBack_20 rfl (by decide) ?_
              refine E_aload_n rfl rfl ?_
              refine E_getfield (v := .ref 35) rfl w34 rfl (by decide) rfl ?_
              refine E_getfield (v := .ref 39) rfl w35 rfl (by decide) rfl ?_
              refine E_iload_n rfl rfl ?_
              refine E_ialN (l := qP q) (v := (qP q).getD (nuV e n (a + 5)) 0) rfl w39 (by omega) (by omega) rfl ?_
              refine E_bipush (x := nI 99) rfl (by decide) ?_
              refine E_ic (t := 45) (b := false) rfl rfl ((cn_ne (nI_toInt (by omega)) (nI_toInt (by omega))).trans (decide_eq_false (by omega))) ?_
              refine E_aload_n rfl rfl ?_
              refine E_aload_n rfl rfl ?_
              refine E_getfield (v := .int (nI (a + 5))) rfl w34 rfl (by decide) rfl ?_
              refine E_putfield (cs2 := (ww im lf s d k ls (nI (a + 5)) (nI n) (nI (cnE e n (a + 4))) (nI (a + 5)) q lt m1 m2 m3 m4 bd fc hd sz el t g fm hm so si sh ce ca td wa kp la bf oo bo pw ow tr)) rfl w34 rfl (by decide) (Nat.le_of_ble_eq_true rfl) rfl rfl rfl rfl ?_
              refine E_aload_n at_X2_readBack_45 rfl ?_
              refine E_getfield (v := .int (nI (a + 5))) at_X2_readBack_46 w34 rfl (by decide) rfl ?_
              refine E_iconst (x := (-1)) at_X2_readBack_49 (by decide) ?_
              refine E_ic (t := 64) (b := true) at_X2_readBack_50 rfl ((cn_ne (nI_toInt (by omega)) (by decide : (-1 : Int32).toInt = -1)).trans (decide_eq_true (by omega))) ?_
              exact E_vret at_X2_readBack_64 rfl
            refine E_callV (v := none) (As := [.ref 34]) (r0 := []) (cs2 := (ww im lf s d k ls (nI (a + 5)) (nI n) (nI (cnE e n (a + 4))) (nI (a + 5)) q lt m1 m2 m3 m4 bd fc hd sz el t g fm hm so si sh ce ca td wa kp la bf oo bo pw ow tr)) at_X2_readItem_87 rfl rfl (Nat.le_of_ble_eq_true rfl) rfl (ab_rvOf w34 rfl) e1 (by decide) w_lens ?_
            refine E_goto (t := 110) at_X2_readItem_90 rfl ?_
            exact E_vret at_X2_readItem_110 rfl
          · have hz := mtc_n (e := e) (n := n) [98, 97, 99, 107] a ha
            have hz_ : a + mj4 e n a ≤ n := hz
            have hb0_ := (chB_t hb0).1
            have hd0_ := (dgB_t hd0).1
            have hV0 := nuV_99 hd0
            have hc0 := cnE_n hd0
            have hP9 := I1_ (nuV e n (a + 5)) (by omega)
            have : (qP q).length = 9 := by first | omega | (simp only [List.length_set]; omega)
            have hF0 : nuF e n (a + 4) 0 (qN q) = 0 := nuF_C hb0 hd0 (show ¬ (nuV e n (a + 5) < 0 ∨ (qN q) ≤ nuV e n (a + 5)) from by omega)
            have hI : itF e n q a = 0 := (it_4 (q := q) hw).1.trans (by unfold bakF; rw [if_pos hF0, if_neg (by omega)])
            have hE : itA e n a = cnE e n (a + 4) := (it_4 (q := q) hw).2.2
            refine ⟨(qs_P q ((qP q).set (nuV e n (a + 5)) 99)), (-1), (nI (cnE e n (a + 4))), (nI (a + 5)), ?_, Or.inl ⟨hI, (it_4 (q := q) hw).2.1.symm, by rw [hE], rfl, by omega, by omega, (kP Iq (by omega)), Nat.le_refl _⟩⟩
            refine Ef.in (md := mX2_readItem) (L := [some (.ref 34), none, none]) rfl (Nat.le_of_ble_eq_true rfl) rfl ?_
            refine E_aload_n at_X2_readItem_0 rfl ?_
            refine E_getfield (v := .int (nI a)) at_X2_readItem_1 w34 rfl (by decide) rfl ?_
            refine E_istore_n (L2 := [some (.ref 34), some (.int (nI a)), none]) at_X2_readItem_4 rfl ?_
            refine E_aload_n at_X2_readItem_5 rfl ?_
            refine E_callV (v := some (.int (nI 4))) (As := [.ref 34]) (r0 := []) (cs2 := (ww im lf s d k ls (-1) (nI n) (nI (a + 4)) rn q lt m1 m2 m3 m4 bd fc hd sz el t g fm hm so si sh ce ca td wa kp la bf oo bo pw ow tr)) at_X2_readItem_6 rfl rfl (Nat.le_of_ble_eq_true rfl) rfl (ab_rvOf w34 rfl) (w_rw4 hn ha l_lt hlt hw) (by decide) w_lens ?_
            refine E_istore_n (L2 := [some (.ref 34), some (.int (nI a)), some (.int (nI 4))]) at_X2_readItem_9 rfl ?_
            refine E_aload_n at_X2_readItem_10 rfl ?_
            refine E_getfield (v := .int (-1)) at_X2_readItem_11 w34 rfl (by decide) rfl ?_
            refine E_iconst (x := (-1)) at_X2_readItem_14 (by decide) ?_
            refine E_ic (t := 19) (b := true) at_X2_readItem_15 rfl (by decide) ?_
            refine E_iload_n at_X2_readItem_19 rfl ?_
            refine E_tsIn (off := 66) (t := 86) at_X2_readItem_20 (by decide) rfl rfl ?_
            refine E_aload_n at_X2_readItem_86 rfl ?_
            have e1 : Ev ab_Z0 4 20 [.ref 34] (ww im lf s d k ls (-1) (nI n) (nI (a + 4)) rn q lt m1 m2 m3 m4 bd fc hd sz el t g fm hm so si sh ce ca td wa kp la bf oo bo pw ow tr) (none, (ww im lf s d k ls (-1) (nI n) (nI (cnE e n (a + 4))) (nI (a + 5)) (qs_P q ((qP q).set (nuV e n (a + 5)) 99)) lt m1 m2 m3 m4 bd fc hd sz el t g fm hm so si sh ce ca td wa kp la bf oo bo pw ow tr)) := by
              refine Ef.in (md := mX2_readBack) (L := [some (.ref 34), none]) rfl (Nat.le_of_ble_eq_true rfl) rfl ?_
              refine E_aload_n at_X2_readBack_0 rfl ?_
              refine E_iconst (x := nI 0) at_X2_readBack_1 (by decide) ?_
              refine E_aload_n at_X2_readBack_2 rfl ?_
              refine E_getfield (v := .ref 35) at_X2_readBack_3 w34 rfl (by decide) rfl ?_
              refine E_getfield (v := .int (nI (qN q))) at_X2_readBack_6 w35 rfl (by decide) rfl ?_
              refine E_iconst (x := nI 1) at_X2_readBack_9 (by decide) ?_
              refine E_isub (z := nI ((qN q) - 1)) at_X2_readBack_10 (pk_sub (by omega)) ?_
              refine E_callV (v := some (.int (nI (nuV e n (a + 5))))) (As := [.ref 34, .int (nI 0), .int (nI ((qN q) - 1))]) (r0 := []) (cs2 := (ww im lf s d k ls (-1) (nI n) (nI (cnE e n (a + 4))) (nI (a + 5)) q lt m1 m2 m3 m4 bd fc hd sz el t g fm hm so si sh ce ca td wa kp la bf oo bo pw ow tr)) at_X2_readBack_11 rfl rfl (Nat.le_of_ble_eq_true rfl) rfl (ab_rvOf w34 rfl) (w_nuC (a := a + 4) (hi := nI ((qN q) - 1)) (by decide) hn (by omega) l_lt hlt hb0 hd0 (show 0 ≤ nuV e n (a + 5) from by omega) (show ((nuV e n (a + 5) : Nat) : Int) ≤ (nI ((qN q) - 1)).toInt from by rw [(nI_toInt (by omega) : (nI ((qN q) - 1)).toInt = (((qN q) - 1 : Nat) : Int))]; omega)) (by decide) w_lens ?_
              refine E_istore_n (L2 := [some (.ref 34), some (.int (nI (nuV e n (a + 5))))]) at_X2_readBack_14 rfl ?_
              refine E_aload_n at_X2_readBack_15 rfl ?_
              refine E_getfield (v := .int (-1)) at_X2_readBack_16 w34 rfl (by decide) rfl ?_
              refine E_iconst (x := (-1)) at_X2_readBack_19 (by decide) ?_
              refine E_ic (t := 45) (b := false) at_X2_readBack_20 rfl (by decide) ?_
              refine E_aload_n rfl rfl ?_
              refine E_getfield (v := .ref 35) rfl w34 rfl (by decide) rfl ?_
              refine E_getfield (v := .ref 39) rfl w35 rfl (by decide) rfl ?_
              refine E_iload_n rfl rfl ?_
              refine E_ialN (l := qP q) (v := (qP q).getD (nuV e n (a + 5)) 0) rfl w39 (by omega) (by omega) rfl ?_
              refine E_bipush (x := nI 99) rfl (by decide) ?_
              refine E_ic (t := 45) (b := true) rfl rfl ((cn_ne (nI_toInt (by omega)) (nI_toInt (by omega))).trans (decide_eq_true (by omega))) ?_
              refine E_aload_n at_X2_readBack_45 rfl ?_
              refine E_getfield (v := .int (-1)) at_X2_readBack_46 w34 rfl (by decide) rfl ?_
              refine E_iconst (x := (-1)) at_X2_readBack_49 (by decide) ?_
              refine E_ic (t := 64) (b := false) at_X2_readBack_50 rfl (by decide) ?_
              refine E_aload_n rfl rfl ?_
              refine E_getfield (v := .ref 35) rfl w34 rfl (by decide) rfl ?_
              refine E_getfield (v := .ref 39) rfl w35 rfl (by decide) rfl ?_
              refine E_iload_n rfl rfl ?_
              refine E_bipush (x := nI 99) rfl (by decide) ?_
              refine E_iasN (l := qP q) (cs2 := (ww im lf s d k ls (-1) (nI n) (nI (cnE e n (a + 4))) (nI (a + 5)) (qs_P q ((qP q).set (nuV e n (a + 5)) 99)) lt m1 m2 m3 m4 bd fc hd sz el t g fm hm so si sh ce ca td wa kp la bf oo bo pw ow tr)) rfl w39 (by omega) (by omega) w_pt35_P ?_
              exact E_vret at_X2_readBack_64 rfl
            refine E_callV (v := none) (As := [.ref 34]) (r0 := []) (cs2 := (ww im lf s d k ls (-1) (nI n) (nI (cnE e n (a + 4))) (nI (a + 5)) (qs_P q ((qP q).set (nuV e n (a + 5)) 99)) lt m1 m2 m3 m4 bd fc hd sz el t g fm hm so si sh ce ca td wa kp la bf oo bo pw ow tr)) at_X2_readItem_87 rfl rfl (Nat.le_of_ble_eq_true rfl) rfl (ab_rvOf w34 rfl) e1 (by decide) w_lens ?_
            refine E_goto (t := 110) at_X2_readItem_90 rfl ?_
            exact E_vret at_X2_readItem_110 rfl
        · have hz := mtc_n (e := e) (n := n) [98, 97, 99, 107] a ha
          have hz_ : a + mj4 e n a ≤ n := hz
          have hb0_ := (chB_t hb0).1
          have hd0_ := (dgB_t hd0).1
          have hV0 := nuV_99 hd0
          have hF0 : nuF e n (a + 4) 0 (qN q) = a + 4 + 2 := nuF_D hb0 hd0 (show nuV e n (a + 5) < 0 ∨ (qN q) ≤ nuV e n (a + 5) from by omega)
          have hI : itF e n q a = a + 6 := (it_4 (q := q) hw).1.trans (by unfold bakF; rw [if_neg (by omega)]; exact hF0)
          refine ⟨q, (nI (a + 5)), (nI (nuE e n (a + 5))), (nI (a + 5)), ?_, Or.inr ⟨a + 5, by omega, rfl, by omega, rfl⟩⟩
          refine Ef.in (md := mX2_readItem) (L := [some (.ref 34), none, none]) rfl (Nat.le_of_ble_eq_true rfl) rfl ?_
          refine E_aload_n at_X2_readItem_0 rfl ?_
          refine E_getfield (v := .int (nI a)) at_X2_readItem_1 w34 rfl (by decide) rfl ?_
          refine E_istore_n (L2 := [some (.ref 34), some (.int (nI a)), none]) at_X2_readItem_4 rfl ?_
          refine E_aload_n at_X2_readItem_5 rfl ?_
          refine E_callV (v := some (.int (nI 4))) (As := [.ref 34]) (r0 := []) (cs2 := (ww im lf s d k ls (-1) (nI n) (nI (a + 4)) rn q lt m1 m2 m3 m4 bd fc hd sz el t g fm hm so si sh ce ca td wa kp la bf oo bo pw ow tr)) at_X2_readItem_6 rfl rfl (Nat.le_of_ble_eq_true rfl) rfl (ab_rvOf w34 rfl) (w_rw4 hn ha l_lt hlt hw) (by decide) w_lens ?_
          refine E_istore_n (L2 := [some (.ref 34), some (.int (nI a)), some (.int (nI 4))]) at_X2_readItem_9 rfl ?_
          refine E_aload_n at_X2_readItem_10 rfl ?_
          refine E_getfield (v := .int (-1)) at_X2_readItem_11 w34 rfl (by decide) rfl ?_
          refine E_iconst (x := (-1)) at_X2_readItem_14 (by decide) ?_
          refine E_ic (t := 19) (b := true) at_X2_readItem_15 rfl (by decide) ?_
          refine E_iload_n at_X2_readItem_19 rfl ?_
          refine E_tsIn (off := 66) (t := 86) at_X2_readItem_20 (by decide) rfl rfl ?_
          refine E_aload_n at_X2_readItem_86 rfl ?_
          have e1 : Ev ab_Z0 4 20 [.ref 34] (ww im lf s d k ls (-1) (nI n) (nI (a + 4)) rn q lt m1 m2 m3 m4 bd fc hd sz el t g fm hm so si sh ce ca td wa kp la bf oo bo pw ow tr) (none, (ww im lf s d k ls (nI (a + 5)) (nI n) (nI (nuE e n (a + 5))) (nI (a + 5)) q lt m1 m2 m3 m4 bd fc hd sz el t g fm hm so si sh ce ca td wa kp la bf oo bo pw ow tr)) := by
            refine Ef.in (md := mX2_readBack) (L := [some (.ref 34), none]) rfl (Nat.le_of_ble_eq_true rfl) rfl ?_
            refine E_aload_n at_X2_readBack_0 rfl ?_
            refine E_iconst (x := nI 0) at_X2_readBack_1 (by decide) ?_
            refine E_aload_n at_X2_readBack_2 rfl ?_
            refine E_getfield (v := .ref 35) at_X2_readBack_3 w34 rfl (by decide) rfl ?_
            refine E_getfield (v := .int (nI (qN q))) at_X2_readBack_6 w35 rfl (by decide) rfl ?_
            refine E_iconst (x := nI 1) at_X2_readBack_9 (by decide) ?_
            refine E_isub (z := nI (qN q) - nI 1) at_X2_readBack_10 rfl ?_
            refine E_callV (v := some (.int (nI (nuV e n (a + 5))))) (As := [.ref 34, .int (nI 0), .int (nI (qN q) - nI 1)]) (r0 := []) (cs2 := (ww im lf s d k ls (nI (a + 5)) (nI n) (nI (nuE e n (a + 5))) (nI (a + 5)) q lt m1 m2 m3 m4 bd fc hd sz el t g fm hm so si sh ce ca td wa kp la bf oo bo pw ow tr)) at_X2_readBack_11 rfl rfl (Nat.le_of_ble_eq_true rfl) rfl (ab_rvOf w34 rfl) (w_nuD (a := a + 4) (hi := nI (qN q) - nI 1) (by decide) hn (by omega) l_lt hlt hb0 hd0 (show nuV e n (a + 5) < 0 ∨ (nI (qN q) - nI 1).toInt < ((nuV e n (a + 5) : Nat) : Int) from by rw [(ab_subI (by omega) (by omega) : (nI (qN q) - nI 1).toInt = ((qN q : Nat) : Int) - ((1 : Nat) : Int))]; omega)) (by decide) w_lens ?_
            refine E_istore_n (L2 := [some (.ref 34), some (.int (nI (nuV e n (a + 5))))]) at_X2_readBack_14 rfl ?_
            refine E_aload_n at_X2_readBack_15 rfl ?_
            refine E_getfield (v := .int (nI (a + 5))) at_X2_readBack_16 w34 rfl (by decide) rfl ?_
            refine E_iconst (x := (-1)) at_X2_readBack_19 (by decide) ?_
            refine E_ic (t := 45) (b := true) at_X2_readBack_20 rfl ((cn_ne (nI_toInt (by omega)) (by decide : (-1 : Int32).toInt = -1)).trans (decide_eq_true (by omega))) ?_
            refine E_aload_n at_X2_readBack_45 rfl ?_
            refine E_getfield (v := .int (nI (a + 5))) at_X2_readBack_46 w34 rfl (by decide) rfl ?_
            refine E_iconst (x := (-1)) at_X2_readBack_49 (by decide) ?_
            refine E_ic (t := 64) (b := true) at_X2_readBack_50 rfl ((cn_ne (nI_toInt (by omega)) (by decide : (-1 : Int32).toInt = -1)).trans (decide_eq_true (by omega))) ?_
            exact E_vret at_X2_readBack_64 rfl
          refine E_callV (v := none) (As := [.ref 34]) (r0 := []) (cs2 := (ww im lf s d k ls (nI (a + 5)) (nI n) (nI (nuE e n (a + 5))) (nI (a + 5)) q lt m1 m2 m3 m4 bd fc hd sz el t g fm hm so si sh ce ca td wa kp la bf oo bo pw ow tr)) at_X2_readItem_87 rfl rfl (Nat.le_of_ble_eq_true rfl) rfl (ab_rvOf w34 rfl) e1 (by decide) w_lens ?_
          refine E_goto (t := 110) at_X2_readItem_90 rfl ?_
          exact E_vret at_X2_readItem_110 rfl
  · have hz := mtc_n (e := e) (n := n) [103, 114, 101, 101, 100, 121] a ha
    have hz_ : a + mj5 e n a ≤ n := hz
    have hI : itF e n q a = 0 := (it_5 (q := q) hw).1
    have hE : itA e n a = a + 6 := (it_5 (q := q) hw).2.2
    refine ⟨(qs_R q (nI 1)), (-1), (nI (a + 6)), rn, ?_, Or.inl ⟨hI, (it_5 (q := q) hw).2.1.symm, by rw [hE], rfl, by omega, by omega, (qI_R Iq (by first | exact Or.inl rfl | exact Or.inr rfl)), Nat.le_refl _⟩⟩
    refine Ef.in (md := mX2_readItem) (L := [some (.ref 34), none, none]) rfl (Nat.le_of_ble_eq_true rfl) rfl ?_
    refine E_aload_n at_X2_readItem_0 rfl ?_
    refine E_getfield (v := .int (nI a)) at_X2_readItem_1 w34 rfl (by decide) rfl ?_
    refine E_istore_n (L2 := [some (.ref 34), some (.int (nI a)), none]) at_X2_readItem_4 rfl ?_
    refine E_aload_n at_X2_readItem_5 rfl ?_
    refine E_callV (v := some (.int (nI 5))) (As := [.ref 34]) (r0 := []) (cs2 := (ww im lf s d k ls (-1) (nI n) (nI (a + 6)) rn q lt m1 m2 m3 m4 bd fc hd sz el t g fm hm so si sh ce ca td wa kp la bf oo bo pw ow tr)) at_X2_readItem_6 rfl rfl (Nat.le_of_ble_eq_true rfl) rfl (ab_rvOf w34 rfl) (w_rw5 hn ha l_lt hlt hw) (by decide) w_lens ?_
    refine E_istore_n (L2 := [some (.ref 34), some (.int (nI a)), some (.int (nI 5))]) at_X2_readItem_9 rfl ?_
    refine E_aload_n at_X2_readItem_10 rfl ?_
    refine E_getfield (v := .int (-1)) at_X2_readItem_11 w34 rfl (by decide) rfl ?_
    refine E_iconst (x := (-1)) at_X2_readItem_14 (by decide) ?_
    refine E_ic (t := 19) (b := true) at_X2_readItem_15 rfl (by decide) ?_
    refine E_iload_n at_X2_readItem_19 rfl ?_
    refine E_tsOut (t := 93) at_X2_readItem_20 (by decide) rfl ?_
    refine E_aload_n rfl rfl ?_
    refine E_getfield (v := .ref 35) rfl w34 rfl (by decide) rfl ?_
    refine E_iload_n rfl rfl ?_
    refine E_iconst (x := nI 5) rfl (by decide) ?_
    refine E_ic (t := 106) (b := false) rfl rfl (by decide) ?_
    refine E_iconst (x := nI 1) rfl (by decide) ?_
    refine E_goto (t := 107) rfl rfl ?_
    refine E_putfield (cs2 := (ww im lf s d k ls (-1) (nI n) (nI (a + 6)) rn (qs_R q (nI 1)) lt m1 m2 m3 m4 bd fc hd sz el t g fm hm so si sh ce ca td wa kp la bf oo bo pw ow tr)) rfl w35 rfl (by decide) (Nat.le_of_ble_eq_true rfl) rfl rfl rfl w_pt35_R ?_
    exact E_vret at_X2_readItem_110 rfl
  · have hz := mtc_n (e := e) (n := n) [98, 101, 115, 116] a ha
    have hz_ : a + mj6 e n a ≤ n := hz
    have hI : itF e n q a = 0 := (it_6 (q := q) hw).1
    have hE : itA e n a = a + 4 := (it_6 (q := q) hw).2.2
    refine ⟨(qs_R q (nI 0)), (-1), (nI (a + 4)), rn, ?_, Or.inl ⟨hI, (it_6 (q := q) hw).2.1.symm, by rw [hE], rfl, by omega, by omega, (qI_R Iq (by first | exact Or.inl rfl | exact Or.inr rfl)), Nat.le_refl _⟩⟩
    refine Ef.in (md := mX2_readItem) (L := [some (.ref 34), none, none]) rfl (Nat.le_of_ble_eq_true rfl) rfl ?_
    refine E_aload_n at_X2_readItem_0 rfl ?_
    refine E_getfield (v := .int (nI a)) at_X2_readItem_1 w34 rfl (by decide) rfl ?_
    refine E_istore_n (L2 := [some (.ref 34), some (.int (nI a)), none]) at_X2_readItem_4 rfl ?_
    refine E_aload_n at_X2_readItem_5 rfl ?_
    refine E_callV (v := some (.int (nI 6))) (As := [.ref 34]) (r0 := []) (cs2 := (ww im lf s d k ls (-1) (nI n) (nI (a + 4)) rn q lt m1 m2 m3 m4 bd fc hd sz el t g fm hm so si sh ce ca td wa kp la bf oo bo pw ow tr)) at_X2_readItem_6 rfl rfl (Nat.le_of_ble_eq_true rfl) rfl (ab_rvOf w34 rfl) (w_rw6 hn ha l_lt hlt hw) (by decide) w_lens ?_
    refine E_istore_n (L2 := [some (.ref 34), some (.int (nI a)), some (.int (nI 6))]) at_X2_readItem_9 rfl ?_
    refine E_aload_n at_X2_readItem_10 rfl ?_
    refine E_getfield (v := .int (-1)) at_X2_readItem_11 w34 rfl (by decide) rfl ?_
    refine E_iconst (x := (-1)) at_X2_readItem_14 (by decide) ?_
    refine E_ic (t := 19) (b := true) at_X2_readItem_15 rfl (by decide) ?_
    refine E_iload_n at_X2_readItem_19 rfl ?_
    refine E_tsOut (t := 93) at_X2_readItem_20 (by decide) rfl ?_
    refine E_aload_n rfl rfl ?_
    refine E_getfield (v := .ref 35) rfl w34 rfl (by decide) rfl ?_
    refine E_iload_n rfl rfl ?_
    refine E_iconst (x := nI 5) rfl (by decide) ?_
    refine E_ic (t := 106) (b := true) rfl rfl (by decide) ?_
    refine E_iconst (x := nI 0) rfl (by decide) ?_
    refine E_putfield (cs2 := (ww im lf s d k ls (-1) (nI n) (nI (a + 4)) rn (qs_R q (nI 0)) lt m1 m2 m3 m4 bd fc hd sz el t g fm hm so si sh ce ca td wa kp la bf oo bo pw ow tr)) rfl w35 rfl (by decide) (Nat.le_of_ble_eq_true rfl) rfl rfl rfl w_pt35_R ?_
    exact E_vret at_X2_readItem_110 rfl
  · have hz0 := mtc_n (e := e) (n := n) [112, 105, 101, 99, 101] a ha
    have hz0_ : a + mj0 e n a ≤ n := hz0
    have hz1 := mtc_n (e := e) (n := n) [112, 101, 114, 115, 111, 110] a ha
    have hz1_ : a + mj1 e n a ≤ n := hz1
    have hz2 := mtc_n (e := e) (n := n) [99, 111, 115, 116] a ha
    have hz2_ : a + mj2 e n a ≤ n := hz2
    have hz3 := mtc_n (e := e) (n := n) [104, 97, 115] a ha
    have hz3_ : a + mj3 e n a ≤ n := hz3
    have hz4 := mtc_n (e := e) (n := n) [98, 97, 99, 107] a ha
    have hz4_ : a + mj4 e n a ≤ n := hz4
    have hz5 := mtc_n (e := e) (n := n) [103, 114, 101, 101, 100, 121] a ha
    have hz5_ : a + mj5 e n a ≤ n := hz5
    have hz6 := mtc_n (e := e) (n := n) [98, 101, 115, 116] a ha
    have hz6_ : a + mj6 e n a ≤ n := hz6
    have hmx : a + mxL e n a ≤ n := by unfold mxL; omega
    have hI : itF e n q a = a + mxL e n a + 1 := (it_7 (q := q) hw).1
    refine ⟨q, (nI (a + mxL e n a)), (nI a), rn, ?_, Or.inr ⟨a + mxL e n a, by omega, rfl, by omega, rfl⟩⟩
    refine Ef.in (md := mX2_readItem) (L := [some (.ref 34), none, none]) rfl (Nat.le_of_ble_eq_true rfl) rfl ?_
    refine E_aload_n at_X2_readItem_0 rfl ?_
    refine E_getfield (v := .int (nI a)) at_X2_readItem_1 w34 rfl (by decide) rfl ?_
    refine E_istore_n (L2 := [some (.ref 34), some (.int (nI a)), none]) at_X2_readItem_4 rfl ?_
    refine E_aload_n at_X2_readItem_5 rfl ?_
    refine E_callV (v := some (.int (-1))) (As := [.ref 34]) (r0 := []) (cs2 := (ww im lf s d k ls (nI (a + mxL e n a)) (nI n) (nI a) rn q lt m1 m2 m3 m4 bd fc hd sz el t g fm hm so si sh ce ca td wa kp la bf oo bo pw ow tr)) at_X2_readItem_6 rfl rfl (Nat.le_of_ble_eq_true rfl) rfl (ab_rvOf w34 rfl) (w_rw7 hn ha l_lt hlt hw) (by decide) w_lens ?_
    refine E_istore_n (L2 := [some (.ref 34), some (.int (nI a)), some (.int (-1))]) at_X2_readItem_9 rfl ?_
    refine E_aload_n at_X2_readItem_10 rfl ?_
    refine E_getfield (v := .int (nI (a + mxL e n a))) at_X2_readItem_11 w34 rfl (by decide) rfl ?_
    refine E_iconst (x := (-1)) at_X2_readItem_14 (by decide) ?_
    refine E_ic (t := 19) (b := false) at_X2_readItem_15 rfl ((cn_eq (nI_toInt (by omega)) (by decide : (-1 : Int32).toInt = -1)).trans (decide_eq_false (by omega))) ?_
    exact E_vret rfl rfl
end SC
