/-! the class weighs: CHANGE by the best for every amount; by program (wip/tools/mk67.py) -/
theorem wgh_o {s : ab_q} {m i : Nat} (h : qBit m i = 0) : wgh s m (i + 1) = wgh s m i := if_neg (by omega)
theorem wgh_i {s : ab_q} {m i : Nat} (h : qBit m i = 1) : wgh s m (i + 1) = putF (wgh s m i) (qWorth s i) (1048576 + qHarm s i * 1024 + 2 ^ i) := if_pos h
theorem wgh_z {s : ab_q} {m : Nat} : (List.replicate 100 (-1 : Int32)).set 0 (nI 0) = lsF (wgh s m 0) := by
  show _ = (List.range 100).map (fun c => qE (if c = 0 then 1 else 0))
  decide
section WE
variable {im : Int32} {lf : Int32} {s : ab_q} {d : ab_q} {k : ab_q} {ls : List Int32} {rf : Int32} {rz : Int32} {ra : Int32} {rn : Int32} {rq : ab_q} {lt : List Int32} {m1 : Int32} {m2 : Int32} {m3 : Int32} {m4 : Int32} {bd : List Int32} {fc : List Int32} {hd : Nat → Int32} {sz : Nat → Int32} {el : Nat → List Int64} {t : ab_q} {g : Nat → Int32} {fm : List Int32} {hm : List Nat} {so : List Nat} {si : List Nat} {sh : List Int32} {ce : List Int64} {ca : List Int64} {td : List Int32} {wa : List Int32} {kp : List Int32} {la : List Int32} {bf : List Int32} {oo : List Int32} {bo : List Int32} {pw : List Int32} {ow : List Int32} {tr : List Int32}
set_option maxHeartbeats 1000000 in
theorem weigh_l1 {m : Nat} (I : qI s) (hM : m < 2147483648) : ∀ n0 v x4, v + n0 = qN s → Ef ab_Z0 1 mX0_weigh (17, [some (.ref 32), some (.ref 1), some (.int (nI m)), some (.int (nI v)), x4], [], (ww im lf s d k (lsF (wgh s m v)) rf rz ra rn rq lt m1 m2 m3 m4 bd fc hd sz el t g fm hm so si sh ce ca td wa kp la bf oo bo pw ow tr)) (none, (ww im lf s d k (lsF (wgh s m (qN s))) rf rz ra rn rq lt m1 m2 m3 m4 bd fc hd sz el t g fm hm so si sh ce ca td wa kp la bf oo bo pw ow tr)) := by
  intro n0
  induction n0 with
  | zero =>
    intro v x4 hi
    have h9 := I.2.2.1.1
    have hi : v = qN s := hi
    rw [hi]
    refine E_iload_n at_X0_weigh_17 rfl ?_
    refine E_aload_n at_X0_weigh_18 rfl ?_
    refine E_getfield (v := .int (nI (qN s))) at_X0_weigh_19 w1 rfl (by decide) rfl ?_
    refine E_ic (t := 68) (b := true) at_X0_weigh_22 rfl ((cn_ge (nI_toInt (by omega)) (nI_toInt (by omega))).trans (decide_eq_true (by omega))) ?_
    exact E_vret rfl rfl
  | succ n0 ih =>
    intro v x4 hi
    rcases qBit2 m v with hb | hb
    · have h9 := I.2.2.1.1
      have p9 : 2 ^ v ≤ 2 ^ 9 := Nat.pow_le_pow_right (by decide) (by omega)
      refine E_iload_n at_X0_weigh_17 rfl ?_
      refine E_aload_n at_X0_weigh_18 rfl ?_
      refine E_getfield (v := .int (nI (qN s))) at_X0_weigh_19 w1 rfl (by decide) rfl ?_
      refine E_ic (t := 68) (b := false) at_X0_weigh_22 rfl ((cn_ge (nI_toInt (by omega)) (nI_toInt (by omega))).trans (decide_eq_false (by omega))) ?_
      refine E_iload_n at_X0_weigh_25 rfl ?_
      refine E_iload_n at_X0_weigh_26 rfl ?_
      refine E_callS (v := some (.int (nI (qBit m v)))) (As := [.int (nI m), .int (nI v)]) (r0 := []) (cs2 := (ww im lf s d k (lsF (wgh s m v)) rf rz ra rn rq lt m1 m2 m3 m4 bd fc hd sz el t g fm hm so si sh ce ca td wa kp la bf oo bo pw ow tr)) at_X0_weigh_27 rfl rfl (Nat.le_of_ble_eq_true rfl) rfl (sq_isBit (by omega) (by omega)) (by decide) rfl ?_
      refine E_if (t := 62) (b := true) at_X0_weigh_30 rfl ((cn_eq (nI_toInt (by omega)) (by decide : (0 : Int32).toInt = 0)).trans (decide_eq_true (by omega))) ?_
      refine E_iinc (y := nI (v + 1)) (L2 := [some (.ref 32), some (.ref 1), some (.int (nI m)), some (.int (nI (v + 1))), x4]) at_X0_weigh_62 rfl (nI_1 _) rfl ?_
      refine E_goto (t := 17) at_X0_weigh_65 rfl ?_
      have X := ih (v + 1) (x4) (by omega)
      rw [wgh_o hb] at X
      exact X
    · have h9 := I.2.2.1.1
      have p9 : 2 ^ v ≤ 2 ^ 9 := Nat.pow_le_pow_right (by decide) (by omega)
      have := qHarm_in I (x := v) (by omega)
      have := qWorth_in I (x := v) (by omega)
      refine E_iload_n at_X0_weigh_17 rfl ?_
      refine E_aload_n at_X0_weigh_18 rfl ?_
      refine E_getfield (v := .int (nI (qN s))) at_X0_weigh_19 w1 rfl (by decide) rfl ?_
      refine E_ic (t := 68) (b := false) at_X0_weigh_22 rfl ((cn_ge (nI_toInt (by omega)) (nI_toInt (by omega))).trans (decide_eq_false (by omega))) ?_
      refine E_iload_n at_X0_weigh_25 rfl ?_
      refine E_iload_n at_X0_weigh_26 rfl ?_
      refine E_callS (v := some (.int (nI (qBit m v)))) (As := [.int (nI m), .int (nI v)]) (r0 := []) (cs2 := (ww im lf s d k (lsF (wgh s m v)) rf rz ra rn rq lt m1 m2 m3 m4 bd fc hd sz el t g fm hm so si sh ce ca td wa kp la bf oo bo pw ow tr)) at_X0_weigh_27 rfl rfl (Nat.le_of_ble_eq_true rfl) rfl (sq_isBit (by omega) (by omega)) (by decide) rfl ?_
      refine E_if (t := 62) (b := false) at_X0_weigh_30 rfl ((cn_eq (nI_toInt (by omega)) (by decide : (0 : Int32).toInt = 0)).trans (decide_eq_false (by omega))) ?_
      refine E_ldc (x := nI 1048576) rfl (by decide) ?_
      refine E_aload_n rfl rfl ?_
      refine E_iload_n rfl rfl ?_
      refine E_callV (v := some (.int (nI (qHarm s v)))) (As := [.ref 1, .int (nI v)]) (r0 := [.int (nI 1048576)]) (cs2 := (ww im lf s d k (lsF (wgh s m v)) rf rz ra rn rq lt m1 m2 m3 m4 bd fc hd sz el t g fm hm so si sh ce ca td wa kp la bf oo bo pw ow tr)) rfl rfl rfl (Nat.le_of_ble_eq_true rfl) rfl (ab_rvOf w1 rfl) (sq_harmOf w_q1 I (by omega)) (by decide) rfl ?_
      refine E_sipush (x := nI 1024) rfl (by decide) ?_
      refine E_imul (z := nI ((qHarm s v) * 1024)) rfl (pk_mul _ _) ?_
      refine E_iadd (z := nI (1048576 + ((qHarm s v) * 1024))) rfl (nI_add _ _) ?_
      refine E_iconst (x := nI 1) rfl (by decide) ?_
      refine E_iload_n rfl rfl ?_
      refine E_ishl (z := nI (2 ^ v)) rfl (ab_shl (by omega)) ?_
      refine E_iadd (z := nI ((1048576 + ((qHarm s v) * 1024)) + (2 ^ v))) rfl (nI_add _ _) ?_
      refine E_istore (L2 := [some (.ref 32), some (.ref 1), some (.int (nI m)), some (.int (nI v)), some (.int (nI ((1048576 + ((qHarm s v) * 1024)) + (2 ^ v))))]) rfl rfl ?_
      refine E_aload_n rfl rfl ?_
      refine E_aload_n rfl rfl ?_
      refine E_iload_n rfl rfl ?_
      refine E_callV (v := some (.int (nI (qWorth s v)))) (As := [.ref 1, .int (nI v)]) (r0 := [.ref 32]) (cs2 := (ww im lf s d k (lsF (wgh s m v)) rf rz ra rn rq lt m1 m2 m3 m4 bd fc hd sz el t g fm hm so si sh ce ca td wa kp la bf oo bo pw ow tr)) rfl rfl rfl (Nat.le_of_ble_eq_true rfl) rfl (ab_rvOf w1 rfl) (sq_worthOf w_q1 I (by omega)) (by decide) rfl ?_
      refine E_iload rfl rfl ?_
      refine E_callV (v := none) (As := [.ref 32, .int (nI (qWorth s v)), .int (nI ((1048576 + ((qHarm s v) * 1024)) + (2 ^ v)))]) (r0 := []) (cs2 := (ww im lf s d k (lsF (putF (wgh s m v) (qWorth s v) ((1048576 + ((qHarm s v) * 1024)) + (2 ^ v)))) rf rz ra rn rq lt m1 m2 m3 m4 bd fc hd sz el t g fm hm so si sh ce ca td wa kp la bf oo bo pw ow tr)) rfl rfl rfl (Nat.le_of_ble_eq_true rfl) rfl (ab_rvOf w32 rfl) (w_putIn (f := wgh s m v) (w := qWorth s v) (key := (1048576 + ((qHarm s v) * 1024)) + (2 ^ v)) (by omega) (by omega) (by omega) (fun z => Nat.le_trans (wgh_bd I (by omega)) (by decide))) (by decide) w_lens ?_
      refine E_iinc (y := nI (v + 1)) (L2 := [some (.ref 32), some (.ref 1), some (.int (nI m)), some (.int (nI (v + 1))), some (.int (nI ((1048576 + ((qHarm s v) * 1024)) + (2 ^ v))))]) at_X0_weigh_62 rfl (nI_1 _) rfl ?_
      refine E_goto (t := 17) at_X0_weigh_65 rfl ?_
      have X := ih (v + 1) (some (.int (nI ((1048576 + ((qHarm s v) * 1024)) + (2 ^ v))))) (by omega)
      rw [wgh_i hb] at X
      exact X
theorem w_weigh1 {m : Nat} (I : qI s) (hM : m < 2147483648) (l_ls : ls.length = 100) : Ev ab_Z0 2 2 [.ref 32, .ref 1, .int (nI m)] (ww im lf s d k ls rf rz ra rn rq lt m1 m2 m3 m4 bd fc hd sz el t g fm hm so si sh ce ca td wa kp la bf oo bo pw ow tr) (none, (ww im lf s d k (lsF (wgh s m (qN s))) rf rz ra rn rq lt m1 m2 m3 m4 bd fc hd sz el t g fm hm so si sh ce ca td wa kp la bf oo bo pw ow tr)) := by
  have h9 := I.2.2.1.1
  have r9 : (List.replicate 100 (-1 : Int32)).length = 100 := List.length_replicate
  refine Ef.in (md := mX0_weigh) (L := [some (.ref 32), some (.ref 1), some (.int (nI m)), none, none]) rfl (Nat.le_of_ble_eq_true rfl) rfl ?_
  refine E_aload_n rfl rfl ?_
  refine E_getfield (v := .ref 33) rfl w32 rfl (by decide) rfl ?_
  refine E_iconst (x := (-1)) rfl (by decide) ?_
  refine E_callS (v := none) (As := [.ref 33, .int (-1)]) (r0 := []) (cs2 := (ww im lf s d k (List.replicate 100 (-1)) rf rz ra rn rq lt m1 m2 m3 m4 bd fc hd sz el t g fm hm so si sh ce ca td wa kp la bf oo bo pw ow tr)) rfl rfl rfl (Nat.le_of_ble_eq_true rfl) rfl ((fillI w33 l_ls (by decide)).to rfl) (by decide) w_lens ?_
  refine E_aload_n rfl rfl ?_
  refine E_getfield (v := .ref 33) rfl w32 rfl (by decide) rfl ?_
  refine E_iconst (x := nI 0) rfl (by decide) ?_
  refine E_iconst (x := nI 0) rfl (by decide) ?_
  refine E_iasI (l := (List.replicate 100 (-1))) (cs2 := (ww im lf s d k ((List.replicate 100 (-1)).set 0 (nI 0)) rf rz ra rn rq lt m1 m2 m3 m4 bd fc hd sz el t g fm hm so si sh ce ca td wa kp la bf oo bo pw ow tr)) rfl w33 (by omega) (by omega) rfl ?_
  refine E_iconst (x := nI 0) rfl (by decide) ?_
  refine E_istore_n (L2 := [some (.ref 32), some (.ref 1), some (.int (nI m)), some (.int (nI 0)), none]) rfl rfl ?_
  rw [wgh_z (s := s) (m := m)]
  exact weigh_l1 I hM (qN s) 0 none (Nat.zero_add _)
set_option maxHeartbeats 1000000 in
theorem weigh_l11 {m : Nat} (I : qI d) (hM : m < 2147483648) : ∀ n0 v x4, v + n0 = qN d → Ef ab_Z0 1 mX0_weigh (17, [some (.ref 32), some (.ref 11), some (.int (nI m)), some (.int (nI v)), x4], [], (ww im lf s d k (lsF (wgh d m v)) rf rz ra rn rq lt m1 m2 m3 m4 bd fc hd sz el t g fm hm so si sh ce ca td wa kp la bf oo bo pw ow tr)) (none, (ww im lf s d k (lsF (wgh d m (qN d))) rf rz ra rn rq lt m1 m2 m3 m4 bd fc hd sz el t g fm hm so si sh ce ca td wa kp la bf oo bo pw ow tr)) := by
  intro n0
  induction n0 with
  | zero =>
    intro v x4 hi
    have h9 := I.2.2.1.1
    have hi : v = qN d := hi
    rw [hi]
    refine E_iload_n at_X0_weigh_17 rfl ?_
    refine E_aload_n at_X0_weigh_18 rfl ?_
    refine E_getfield (v := .int (nI (qN d))) at_X0_weigh_19 w11 rfl (by decide) rfl ?_
    refine E_ic (t := 68) (b := true) at_X0_weigh_22 rfl ((cn_ge (nI_toInt (by omega)) (nI_toInt (by omega))).trans (decide_eq_true (by omega))) ?_
    exact E_vret rfl rfl
  | succ n0 ih =>
    intro v x4 hi
    rcases qBit2 m v with hb | hb
    · have h9 := I.2.2.1.1
      have p9 : 2 ^ v ≤ 2 ^ 9 := Nat.pow_le_pow_right (by decide) (by omega)
      refine E_iload_n at_X0_weigh_17 rfl ?_
      refine E_aload_n at_X0_weigh_18 rfl ?_
      refine E_getfield (v := .int (nI (qN d))) at_X0_weigh_19 w11 rfl (by decide) rfl ?_
      refine E_ic (t := 68) (b := false) at_X0_weigh_22 rfl ((cn_ge (nI_toInt (by omega)) (nI_toInt (by omega))).trans (decide_eq_false (by omega))) ?_
      refine E_iload_n at_X0_weigh_25 rfl ?_
      refine E_iload_n at_X0_weigh_26 rfl ?_
      refine E_callS (v := some (.int (nI (qBit m v)))) (As := [.int (nI m), .int (nI v)]) (r0 := []) (cs2 := (ww im lf s d k (lsF (wgh d m v)) rf rz ra rn rq lt m1 m2 m3 m4 bd fc hd sz el t g fm hm so si sh ce ca td wa kp la bf oo bo pw ow tr)) at_X0_weigh_27 rfl rfl (Nat.le_of_ble_eq_true rfl) rfl (sq_isBit (by omega) (by omega)) (by decide) rfl ?_
      refine E_if (t := 62) (b := true) at_X0_weigh_30 rfl ((cn_eq (nI_toInt (by omega)) (by decide : (0 : Int32).toInt = 0)).trans (decide_eq_true (by omega))) ?_
      refine E_iinc (y := nI (v + 1)) (L2 := [some (.ref 32), some (.ref 11), some (.int (nI m)), some (.int (nI (v + 1))), x4]) at_X0_weigh_62 rfl (nI_1 _) rfl ?_
      refine E_goto (t := 17) at_X0_weigh_65 rfl ?_
      have X := ih (v + 1) (x4) (by omega)
      rw [wgh_o hb] at X
      exact X
    · have h9 := I.2.2.1.1
      have p9 : 2 ^ v ≤ 2 ^ 9 := Nat.pow_le_pow_right (by decide) (by omega)
      have := qHarm_in I (x := v) (by omega)
      have := qWorth_in I (x := v) (by omega)
      refine E_iload_n at_X0_weigh_17 rfl ?_
      refine E_aload_n at_X0_weigh_18 rfl ?_
      refine E_getfield (v := .int (nI (qN d))) at_X0_weigh_19 w11 rfl (by decide) rfl ?_
      refine E_ic (t := 68) (b := false) at_X0_weigh_22 rfl ((cn_ge (nI_toInt (by omega)) (nI_toInt (by omega))).trans (decide_eq_false (by omega))) ?_
      refine E_iload_n at_X0_weigh_25 rfl ?_
      refine E_iload_n at_X0_weigh_26 rfl ?_
      refine E_callS (v := some (.int (nI (qBit m v)))) (As := [.int (nI m), .int (nI v)]) (r0 := []) (cs2 := (ww im lf s d k (lsF (wgh d m v)) rf rz ra rn rq lt m1 m2 m3 m4 bd fc hd sz el t g fm hm so si sh ce ca td wa kp la bf oo bo pw ow tr)) at_X0_weigh_27 rfl rfl (Nat.le_of_ble_eq_true rfl) rfl (sq_isBit (by omega) (by omega)) (by decide) rfl ?_
      refine E_if (t := 62) (b := false) at_X0_weigh_30 rfl ((cn_eq (nI_toInt (by omega)) (by decide : (0 : Int32).toInt = 0)).trans (decide_eq_false (by omega))) ?_
      refine E_ldc (x := nI 1048576) rfl (by decide) ?_
      refine E_aload_n rfl rfl ?_
      refine E_iload_n rfl rfl ?_
      refine E_callV (v := some (.int (nI (qHarm d v)))) (As := [.ref 11, .int (nI v)]) (r0 := [.int (nI 1048576)]) (cs2 := (ww im lf s d k (lsF (wgh d m v)) rf rz ra rn rq lt m1 m2 m3 m4 bd fc hd sz el t g fm hm so si sh ce ca td wa kp la bf oo bo pw ow tr)) rfl rfl rfl (Nat.le_of_ble_eq_true rfl) rfl (ab_rvOf w11 rfl) (sq_harmOf w_q11 I (by omega)) (by decide) rfl ?_
      refine E_sipush (x := nI 1024) rfl (by decide) ?_
      refine E_imul (z := nI ((qHarm d v) * 1024)) rfl (pk_mul _ _) ?_
      refine E_iadd (z := nI (1048576 + ((qHarm d v) * 1024))) rfl (nI_add _ _) ?_
      refine E_iconst (x := nI 1) rfl (by decide) ?_
      refine E_iload_n rfl rfl ?_
      refine E_ishl (z := nI (2 ^ v)) rfl (ab_shl (by omega)) ?_
      refine E_iadd (z := nI ((1048576 + ((qHarm d v) * 1024)) + (2 ^ v))) rfl (nI_add _ _) ?_
      refine E_istore (L2 := [some (.ref 32), some (.ref 11), some (.int (nI m)), some (.int (nI v)), some (.int (nI ((1048576 + ((qHarm d v) * 1024)) + (2 ^ v))))]) rfl rfl ?_
      refine E_aload_n rfl rfl ?_
      refine E_aload_n rfl rfl ?_
      refine E_iload_n rfl rfl ?_
      refine E_callV (v := some (.int (nI (qWorth d v)))) (As := [.ref 11, .int (nI v)]) (r0 := [.ref 32]) (cs2 := (ww im lf s d k (lsF (wgh d m v)) rf rz ra rn rq lt m1 m2 m3 m4 bd fc hd sz el t g fm hm so si sh ce ca td wa kp la bf oo bo pw ow tr)) rfl rfl rfl (Nat.le_of_ble_eq_true rfl) rfl (ab_rvOf w11 rfl) (sq_worthOf w_q11 I (by omega)) (by decide) rfl ?_
      refine E_iload rfl rfl ?_
      refine E_callV (v := none) (As := [.ref 32, .int (nI (qWorth d v)), .int (nI ((1048576 + ((qHarm d v) * 1024)) + (2 ^ v)))]) (r0 := []) (cs2 := (ww im lf s d k (lsF (putF (wgh d m v) (qWorth d v) ((1048576 + ((qHarm d v) * 1024)) + (2 ^ v)))) rf rz ra rn rq lt m1 m2 m3 m4 bd fc hd sz el t g fm hm so si sh ce ca td wa kp la bf oo bo pw ow tr)) rfl rfl rfl (Nat.le_of_ble_eq_true rfl) rfl (ab_rvOf w32 rfl) (w_putIn (f := wgh d m v) (w := qWorth d v) (key := (1048576 + ((qHarm d v) * 1024)) + (2 ^ v)) (by omega) (by omega) (by omega) (fun z => Nat.le_trans (wgh_bd I (by omega)) (by decide))) (by decide) w_lens ?_
      refine E_iinc (y := nI (v + 1)) (L2 := [some (.ref 32), some (.ref 11), some (.int (nI m)), some (.int (nI (v + 1))), some (.int (nI ((1048576 + ((qHarm d v) * 1024)) + (2 ^ v))))]) at_X0_weigh_62 rfl (nI_1 _) rfl ?_
      refine E_goto (t := 17) at_X0_weigh_65 rfl ?_
      have X := ih (v + 1) (some (.int (nI ((1048576 + ((qHarm d v) * 1024)) + (2 ^ v))))) (by omega)
      rw [wgh_i hb] at X
      exact X
theorem w_weigh11 {m : Nat} (I : qI d) (hM : m < 2147483648) (l_ls : ls.length = 100) : Ev ab_Z0 2 2 [.ref 32, .ref 11, .int (nI m)] (ww im lf s d k ls rf rz ra rn rq lt m1 m2 m3 m4 bd fc hd sz el t g fm hm so si sh ce ca td wa kp la bf oo bo pw ow tr) (none, (ww im lf s d k (lsF (wgh d m (qN d))) rf rz ra rn rq lt m1 m2 m3 m4 bd fc hd sz el t g fm hm so si sh ce ca td wa kp la bf oo bo pw ow tr)) := by
  have h9 := I.2.2.1.1
  have r9 : (List.replicate 100 (-1 : Int32)).length = 100 := List.length_replicate
  refine Ef.in (md := mX0_weigh) (L := [some (.ref 32), some (.ref 11), some (.int (nI m)), none, none]) rfl (Nat.le_of_ble_eq_true rfl) rfl ?_
  refine E_aload_n rfl rfl ?_
  refine E_getfield (v := .ref 33) rfl w32 rfl (by decide) rfl ?_
  refine E_iconst (x := (-1)) rfl (by decide) ?_
  refine E_callS (v := none) (As := [.ref 33, .int (-1)]) (r0 := []) (cs2 := (ww im lf s d k (List.replicate 100 (-1)) rf rz ra rn rq lt m1 m2 m3 m4 bd fc hd sz el t g fm hm so si sh ce ca td wa kp la bf oo bo pw ow tr)) rfl rfl rfl (Nat.le_of_ble_eq_true rfl) rfl ((fillI w33 l_ls (by decide)).to rfl) (by decide) w_lens ?_
  refine E_aload_n rfl rfl ?_
  refine E_getfield (v := .ref 33) rfl w32 rfl (by decide) rfl ?_
  refine E_iconst (x := nI 0) rfl (by decide) ?_
  refine E_iconst (x := nI 0) rfl (by decide) ?_
  refine E_iasI (l := (List.replicate 100 (-1))) (cs2 := (ww im lf s d k ((List.replicate 100 (-1)).set 0 (nI 0)) rf rz ra rn rq lt m1 m2 m3 m4 bd fc hd sz el t g fm hm so si sh ce ca td wa kp la bf oo bo pw ow tr)) rfl w33 (by omega) (by omega) rfl ?_
  refine E_iconst (x := nI 0) rfl (by decide) ?_
  refine E_istore_n (L2 := [some (.ref 32), some (.ref 11), some (.int (nI m)), some (.int (nI 0)), none]) rfl rfl ?_
  rw [wgh_z (s := d) (m := m)]
  exact weigh_l11 I hM (qN d) 0 none (Nat.zero_add _)
end WE
