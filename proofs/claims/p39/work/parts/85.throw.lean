/-! the BEST THROW; by program (wip/tools/mk85.py) -/
theorem fUp_4 {g : Nat → Int32} {a b a1 b1 : Int32} : fUp (fUp (fUp (fUp g 36 a) 37 b) 36 a1) 37 b1 = fUp (fUp g 36 a1) 37 b1 := by
  funext i
  unfold fUp
  by_cases h1 : i = 37
  · rw [if_pos h1, if_pos h1]
  · by_cases h2 : i = 36
    · rw [if_neg h1, if_pos h2, if_neg h1, if_pos h2]
    · rw [if_neg h1, if_neg h2, if_neg h1, if_neg h2, if_neg h1, if_neg h2]
theorem Ev.eqI {Z : ab_Z} {d y : Nat} {As : List Value} {cs c2 : List ab_C} {z z1 : Int32} (e : z = z1) (h : Ev Z d y As cs (some (.int z), c2)) : Ev Z d y As cs (some (.int z1), c2) := by
  rw [e] at h
  exact h
theorem qBit_none (x : Nat) : qBit 0 x = 0 := by
  unfold qBit
  rw [Nat.zero_div]
theorem qWs_none (s : ab_q) : ∀ i, qWs s 0 i = 0
  | 0 => rfl
  | i + 1 => by
    show qWs s 0 i + (if qBit 0 i = 1 then _ else _) = _
    rw [qBit_none, if_neg (by decide), qWs_none s i]
theorem qHs_none (s : ab_q) : ∀ i, qHs s 0 i = 0
  | 0 => rfl
  | i + 1 => by
    show qHs s 0 i + (if qBit 0 i = 1 then _ else _) = _
    rw [qBit_none, if_neg (by decide), qHs_none s i]
theorem qWs_no {s : ab_q} (I : qI s) {B : Nat} : ∀ i, i ≤ qN s → B < 2 ^ i → qWs s B i = 0 → B = 0
  | 0, _, h, _ => by
    rw [Nat.pow_zero] at h
    omega
  | i + 1, hi, h, e => by
    rcases qSplit h with ⟨a, b⟩ | ⟨T, a, rfl⟩
    · rw [qWs_00 a] at e
      exact qWs_no I i (by omega) a e
    · rw [qWs_add a] at e
      have := qWorth_in I (x := i) (by omega)
      omega
theorem bst_00 {s : ab_q} (I : qI s) (m : Nat) : bst s m (qN s) (2 ^ qN s) 0 = 0 + 1 := by
  have e := qWs_none s (qN s)
  obtain ⟨B, h, -⟩ := bst_le (s := s) (m := m) (n := qN s) (2 ^ qN s) 0 (Nat.two_pow_pos _) (Nat.zero_and m)
  rw [e] at h
  obtain ⟨h1, -, h3⟩ := bst_in _ _ _ h
  rw [h, qWs_no I (qN s) (Nat.le_refl _) h1 h3]
section TT
variable {im : Int32} {lf : Int32} {s : ab_q} {d : ab_q} {k : ab_q} {ls : List Int32} {rf : Int32} {rz : Int32} {ra : Int32} {rn : Int32} {rq : ab_q} {lt : List Int32} {m1 : Int32} {m2 : Int32} {m3 : Int32} {m4 : Int32} {bd : List Int32} {fc : List Int32} {hd : Nat → Int32} {sz : Nat → Int32} {el : Nat → List Int64} {t : ab_q} {g : Nat → Int32} {fm : List Int32} {hm : List Nat} {so : List Nat} {si : List Nat} {sh : List Int32} {ce : List Int64} {ca : List Int64} {td : List Int32} {wa : List Int32} {kp : List Int32} {la : List Int32} {bf : List Int32} {oo : List Int32} {bo : List Int32} {pw : List Int32} {ow : List Int32} {tr : List Int32}

/-- what the reference finds: the PRICE, or none -/
def thA (t : ab_q) (p : Nat) : Int32 := if qPr t p ((qW t).getD p 0) ≤ (qU t).getD p 0 then nI (qPr t p ((qW t).getD p 0)) else -1
def thB (t : ab_q) (p : Nat) : Int32 := if qPr t p ((qW t).getD p 0) ≤ (qU t).getD p 0 then nI 0 else -1
set_option maxHeartbeats 2000000 in
theorem throw_l {m p : Nat} (I : qI t) (hp : p < qM t) : ∀ n0 v x3 a b, v + n0 = (qU t).getD p 0 + 1 → ((v ≤ qPr t p ((qW t).getD p 0) ∧ a = -1 ∧ b = -1) ∨ (qPr t p ((qW t).getD p 0) < v ∧ a = nI (qPr t p ((qW t).getD p 0)) ∧ b = nI 0)) → Ef ab_Z0 4 mX6_tellsThrow (22, [some (.ref 65), some (.int (nI p)), some (.int (nI v)), x3], [], (ww im lf s d k ls rf rz ra rn rq lt m1 m2 m3 m4 bd fc hd sz el t (fUp (fUp g 36 a) 37 b) fm hm so si sh ce ca td wa kp la (lsF (bst t m (qN t) (2 ^ qN t))) oo bo pw ow tr)) (none, (ww im lf s d k ls rf rz ra rn rq lt m1 m2 m3 m4 bd fc hd sz el t (fUp (fUp g 36 (thA t p)) 37 (thB t p)) fm hm so si sh ce ca td wa kp la (lsF (bst t m (qN t) (2 ^ qN t))) oo bo pw ow tr)) := by
  obtain ⟨⟨i0, i1, i2, i3⟩, ⟨i4, i5, i6, i7, i8⟩, ⟨i9, i10⟩, I1, I2, I3, I4⟩ := id I
  have wp := (I2 p hp).2.2
  have up := (I2 p hp).1
  have pi := qPr_in I p (w := (qW t).getD p 0) (by omega)
  intro n0
  induction n0 with
  | zero =>
    intro v x3 a b hi hs
    have hi : v = (qU t).getD p 0 + 1 := hi
    have ea : a = thA t p ∧ b = thB t p := by
      unfold thA thB
      rcases hs with ⟨h1, ha, hb⟩ | ⟨h1, ha, hb⟩
      · rw [if_neg (by omega), if_neg (by omega)]; exact ⟨ha, hb⟩
      · rw [if_pos (by omega), if_pos (by omega)]; exact ⟨ha, hb⟩
    rw [← ea.1, ← ea.2]
    have : (qU t).length = 6 := by first | omega | (simp only [List.length_set]; omega)
    have := I2 p (by omega)
    refine E_iload_n at_X6_tellsThrow_22 rfl ?_
    refine E_aload_n at_X6_tellsThrow_23 rfl ?_
    refine E_getfield (v := .ref 71) at_X6_tellsThrow_24 w65 rfl (by decide) rfl ?_
    refine E_iload_n at_X6_tellsThrow_27 rfl ?_
    refine E_ialN (l := qU t) (v := (qU t).getD p 0) at_X6_tellsThrow_28 w71 (by omega) (by omega) rfl ?_
    refine E_ic (t := 87) (b := true) at_X6_tellsThrow_29 rfl ((cn_gt (nI_toInt (by omega)) (nI_toInt (by omega))).trans (decide_eq_true (by omega))) ?_
    exact E_vret rfl rfl
  | succ n0 ih =>
    intro v x3 a b hi hs
    rcases hs with ⟨h1, rfl, rfl⟩ | ⟨h1, rfl, rfl⟩
    · rcases I4 with er | er
      · by_cases f2 : (qPr t p ((qW t).getD p 0)) ≤ v
        · have er2 : (qR t).toInt = 0 := by rw [er]; rfl
          have : (qU t).length = 6 := by first | omega | (simp only [List.length_set]; omega)
          have := I2 p (by omega)
          have : (qW t).length = 6 := by first | omega | (simp only [List.length_set]; omega)
          have := qPr_in I p (w := ((qW t).getD p 0)) (by omega)
          have := lsF_len (bst t m (qN t) (2 ^ qN t))
          refine E_iload_n at_X6_tellsThrow_22 rfl ?_
          refine E_aload_n at_X6_tellsThrow_23 rfl ?_
          refine E_getfield (v := .ref 71) at_X6_tellsThrow_24 w65 rfl (by decide) rfl ?_
          refine E_iload_n at_X6_tellsThrow_27 rfl ?_
          refine E_ialN (l := qU t) (v := (qU t).getD p 0) at_X6_tellsThrow_28 w71 (by omega) (by omega) rfl ?_
          refine E_ic (t := 87) (b := false) at_X6_tellsThrow_29 rfl ((cn_gt (nI_toInt (by omega)) (nI_toInt (by omega))).trans (decide_eq_false (by omega))) ?_
          refine E_aload_n at_X6_tellsThrow_32 rfl ?_
          refine E_iload_n at_X6_tellsThrow_33 rfl ?_
          refine E_iload_n at_X6_tellsThrow_34 rfl ?_
          have e3 : Ev ab_Z0 2 176 [.ref 65, .int (nI p), .int (nI v)] (ww im lf s d k ls rf rz ra rn rq lt m1 m2 m3 m4 bd fc hd sz el t (fUp (fUp g 36 (-1)) 37 (-1)) fm hm so si sh ce ca td wa kp la (lsF (bst t m (qN t) (2 ^ qN t))) oo bo pw ow tr) (some (.int (nI 0)), (ww im lf s d k ls rf rz ra rn rq lt m1 m2 m3 m4 bd fc hd sz el t (fUp (fUp g 36 (-1)) 37 (-1)) fm hm so si sh ce ca td wa kp la (lsF (bst t m (qN t) (2 ^ qN t))) oo bo pw ow tr)) := by
            refine Ef.in (md := mX6_thrown) (L := [some (.ref 65), some (.int (nI p)), some (.int (nI v)), none]) rfl (Nat.le_of_ble_eq_true rfl) rfl ?_
            refine E_iload_n at_X6_thrown_0 rfl ?_
            refine E_aload_n at_X6_thrown_1 rfl ?_
            refine E_iload_n at_X6_thrown_2 rfl ?_
            refine E_aload_n at_X6_thrown_3 rfl ?_
            refine E_getfield (v := .ref 73) at_X6_thrown_4 w65 rfl (by decide) rfl ?_
            refine E_iload_n at_X6_thrown_7 rfl ?_
            refine E_ialN (l := qW t) (v := (qW t).getD p 0) at_X6_thrown_8 w73 (by omega) (by omega) rfl ?_
            refine E_callV (v := some (.int (nI (qPr t p ((qW t).getD p 0))))) (As := [.ref 65, .int (nI p), .int (nI ((qW t).getD p 0))]) (r0 := [.int (nI v)]) (cs2 := (ww im lf s d k ls rf rz ra rn rq lt m1 m2 m3 m4 bd fc hd sz el t (fUp (fUp g 36 (-1)) 37 (-1)) fm hm so si sh ce ca td wa kp la (lsF (bst t m (qN t) (2 ^ qN t))) oo bo pw ow tr)) at_X6_thrown_9 rfl rfl (Nat.le_of_ble_eq_true rfl) rfl (ab_rvOf w65 rfl) (mo_priceFor w_m I (by omega) (by omega)) (by decide) rfl ?_
            refine E_isub (z := nI (v - (qPr t p ((qW t).getD p 0)))) at_X6_thrown_12 (pk_sub (by omega)) ?_
            refine E_istore_n (L2 := [some (.ref 65), some (.int (nI p)), some (.int (nI v)), some (.int (nI (v - (qPr t p ((qW t).getD p 0)))))]) at_X6_thrown_13 rfl ?_
            refine E_aload_n at_X6_thrown_14 rfl ?_
            refine E_iload_n at_X6_thrown_15 rfl ?_
            refine E_iconst (x := nI 0) at_X6_thrown_16 (by decide) ?_
            refine E_bipush (x := nI 99) at_X6_thrown_17 (by decide) ?_
            have e1 : Ev ab_Z0 1 134 [.ref 65, .int (nI v), .int (nI 0), .int (nI 99)] (ww im lf s d k ls rf rz ra rn rq lt m1 m2 m3 m4 bd fc hd sz el t (fUp (fUp g 36 (-1)) 37 (-1)) fm hm so si sh ce ca td wa kp la (lsF (bst t m (qN t) (2 ^ qN t))) oo bo pw ow tr) (some (.int (nI 1)), (ww im lf s d k ls rf rz ra rn rq lt m1 m2 m3 m4 bd fc hd sz el t (fUp (fUp g 36 (-1)) 37 (-1)) fm hm so si sh ce ca td wa kp la (lsF (bst t m (qN t) (2 ^ qN t))) oo bo pw ow tr)) := by
              refine Ef.in (md := mX6_isFrom) (L := [some (.ref 65), some (.int (nI v)), some (.int (nI 0)), some (.int (nI 99))]) rfl (Nat.le_of_ble_eq_true rfl) rfl ?_
              refine E_iload_n at_X6_isFrom_0 rfl ?_
              refine E_iload_n at_X6_isFrom_1 rfl ?_
              refine E_ic (t := 14) (b := false) at_X6_isFrom_2 rfl ((cn_lt (nI_toInt (by omega)) (nI_toInt (by omega))).trans (decide_eq_false (by omega))) ?_
              refine E_iload_n at_X6_isFrom_5 rfl ?_
              refine E_iload_n at_X6_isFrom_6 rfl ?_
              refine E_ic (t := 14) (b := false) at_X6_isFrom_7 rfl ((cn_gt (nI_toInt (by omega)) (nI_toInt (by omega))).trans (decide_eq_false (by omega))) ?_
              refine E_iconst (x := nI 1) at_X6_isFrom_10 (by decide) ?_
              refine E_goto (t := 15) at_X6_isFrom_11 rfl ?_
              exact E_iret at_X6_isFrom_15 rfl
            refine E_callV (v := some (.int (nI 1))) (As := [.ref 65, .int (nI v), .int (nI 0), .int (nI 99)]) (r0 := []) (cs2 := (ww im lf s d k ls rf rz ra rn rq lt m1 m2 m3 m4 bd fc hd sz el t (fUp (fUp g 36 (-1)) 37 (-1)) fm hm so si sh ce ca td wa kp la (lsF (bst t m (qN t) (2 ^ qN t))) oo bo pw ow tr)) at_X6_thrown_19 rfl rfl (Nat.le_of_ble_eq_true rfl) rfl (ab_rvOf w65 rfl) e1 (by decide) rfl ?_
            refine E_if (t := 39) (b := false) at_X6_thrown_22 rfl (by decide) ?_
            refine E_iload_n at_X6_thrown_25 rfl ?_
            refine E_aload_n at_X6_thrown_26 rfl ?_
            refine E_getfield (v := .ref 71) at_X6_thrown_27 w65 rfl (by decide) rfl ?_
            refine E_iload_n at_X6_thrown_30 rfl ?_
            refine E_ialN (l := qU t) (v := (qU t).getD p 0) at_X6_thrown_31 w71 (by omega) (by omega) rfl ?_
            refine E_ic (t := 39) (b := false) at_X6_thrown_32 rfl ((cn_gt (nI_toInt (by omega)) (nI_toInt (by omega))).trans (decide_eq_false (by omega))) ?_
            refine E_iload_n at_X6_thrown_35 rfl ?_
            refine E_if (t := 43) (b := true) at_X6_thrown_36 rfl ((cn_ge (nI_toInt (by omega)) (by decide : (0 : Int32).toInt = 0)).trans (decide_eq_true (by omega))) ?_
            refine E_aload_n at_X6_thrown_43 rfl ?_
            refine E_iload_n at_X6_thrown_44 rfl ?_
            have e2 : Ev ab_Z0 1 172 [.ref 65, .int (nI (v - (qPr t p ((qW t).getD p 0))))] (ww im lf s d k ls rf rz ra rn rq lt m1 m2 m3 m4 bd fc hd sz el t (fUp (fUp g 36 (-1)) 37 (-1)) fm hm so si sh ce ca td wa kp la (lsF (bst t m (qN t) (2 ^ qN t))) oo bo pw ow tr) (some (.int (nI 0)), (ww im lf s d k ls rf rz ra rn rq lt m1 m2 m3 m4 bd fc hd sz el t (fUp (fUp g 36 (-1)) 37 (-1)) fm hm so si sh ce ca td wa kp la (lsF (bst t m (qN t) (2 ^ qN t))) oo bo pw ow tr)) := by
              refine Ef.in (md := mX6_changeFor) (L := [some (.ref 65), some (.int (nI (v - (qPr t p ((qW t).getD p 0)))))]) rfl (Nat.le_of_ble_eq_true rfl) rfl ?_
              refine E_aload_n at_X6_changeFor_0 rfl ?_
              refine E_getfield (v := .int (qR t)) at_X6_changeFor_1 w65 rfl (by decide) rfl ?_
              refine E_if (t := 16) (b := false) at_X6_changeFor_4 rfl ((cn_ne rfl (by decide : (0 : Int32).toInt = 0)).trans (decide_eq_false (by omega))) ?_
              refine E_aload_n at_X6_changeFor_7 rfl ?_
              refine E_getfield (v := .ref 89) at_X6_changeFor_8 w65 rfl (by decide) rfl ?_
              refine E_iload_n at_X6_changeFor_11 rfl ?_
              refine E_ialI (l := (lsF (bst t m (qN t) (2 ^ qN t)))) (v := nI 0) at_X6_changeFor_12 w89 (by omega) (by omega) (by rw [lsF_get (by omega), show v - (qPr t p ((qW t).getD p 0)) = 0 by omega, bst_00 I m]; rfl) ?_
              refine E_goto (t := 21) at_X6_changeFor_13 rfl ?_
              exact E_iret at_X6_changeFor_21 rfl
            refine E_callV (v := some (.int (nI 0))) (As := [.ref 65, .int (nI (v - (qPr t p ((qW t).getD p 0))))]) (r0 := []) (cs2 := (ww im lf s d k ls rf rz ra rn rq lt m1 m2 m3 m4 bd fc hd sz el t (fUp (fUp g 36 (-1)) 37 (-1)) fm hm so si sh ce ca td wa kp la (lsF (bst t m (qN t) (2 ^ qN t))) oo bo pw ow tr)) at_X6_thrown_45 rfl rfl (Nat.le_of_ble_eq_true rfl) rfl (ab_rvOf w65 rfl) e2 (by decide) rfl ?_
            exact E_iret at_X6_thrown_48 rfl
          refine E_callV (v := some (.int (nI 0))) (As := [.ref 65, .int (nI p), .int (nI v)]) (r0 := []) (cs2 := (ww im lf s d k ls rf rz ra rn rq lt m1 m2 m3 m4 bd fc hd sz el t (fUp (fUp g 36 (-1)) 37 (-1)) fm hm so si sh ce ca td wa kp la (lsF (bst t m (qN t) (2 ^ qN t))) oo bo pw ow tr)) at_X6_tellsThrow_35 rfl rfl (Nat.le_of_ble_eq_true rfl) rfl (ab_rvOf w65 rfl) e3 (by decide) rfl ?_
          refine E_istore_n (L2 := [some (.ref 65), some (.int (nI p)), some (.int (nI v)), some (.int (nI 0))]) at_X6_tellsThrow_38 rfl ?_
          refine E_iload_n at_X6_tellsThrow_39 rfl ?_
          refine E_iconst (x := (-1)) at_X6_tellsThrow_40 (by decide) ?_
          refine E_ic (t := 81) (b := false) at_X6_tellsThrow_41 rfl (by decide) ?_
          refine E_aload_n at_X6_tellsThrow_44 rfl ?_
          refine E_getfield (v := .int (-1)) at_X6_tellsThrow_45 w65 rfl (by decide) rfl ?_
          refine E_iconst (x := (-1)) at_X6_tellsThrow_48 (by decide) ?_
          refine E_ic (t := 67) (b := true) at_X6_tellsThrow_49 rfl (by decide) ?_
          refine E_aload_n rfl rfl ?_
          refine E_iload_n rfl rfl ?_
          refine E_putfield (cs2 := (ww im lf s d k ls rf rz ra rn rq lt m1 m2 m3 m4 bd fc hd sz el t (fUp (fUp (fUp g 36 (-1)) 37 (-1)) 36 (nI v)) fm hm so si sh ce ca td wa kp la (lsF (bst t m (qN t) (2 ^ qN t))) oo bo pw ow tr)) rfl w65 rfl (by decide) (Nat.le_of_ble_eq_true rfl) rfl rfl rfl w_pt65_36 ?_
          refine E_aload_n rfl rfl ?_
          refine E_aload_n rfl rfl ?_
          refine E_iload_n rfl rfl ?_
          refine E_callV (v := some (.int (nI 0))) (As := [.ref 65, .int (nI 0)]) (r0 := [.ref 65]) (cs2 := (ww im lf s d k ls rf rz ra rn rq lt m1 m2 m3 m4 bd fc hd sz el t (fUp (fUp (fUp g 36 (-1)) 37 (-1)) 36 (nI v)) fm hm so si sh ce ca td wa kp la (lsF (bst t m (qN t) (2 ^ qN t))) oo bo pw ow tr)) rfl rfl rfl (Nat.le_of_ble_eq_true rfl) rfl (ab_rvOf w65 rfl) (Ev.eqI (congrArg nI (qHs_none t _)) (mo_harmOf w_m I (by omega))) (by decide) rfl ?_
          refine E_putfield (cs2 := (ww im lf s d k ls rf rz ra rn rq lt m1 m2 m3 m4 bd fc hd sz el t (fUp (fUp (fUp (fUp g 36 (-1)) 37 (-1)) 36 (nI v)) 37 (nI 0)) fm hm so si sh ce ca td wa kp la (lsF (bst t m (qN t) (2 ^ qN t))) oo bo pw ow tr)) rfl w65 rfl (by decide) (Nat.le_of_ble_eq_true rfl) rfl rfl rfl w_pt65_37 ?_
          refine E_iinc (y := nI (v + 1)) (L2 := [some (.ref 65), some (.int (nI p)), some (.int (nI (v + 1))), some (.int (nI 0))]) at_X6_tellsThrow_81 rfl (nI_1 _) rfl ?_
          refine E_goto (t := 22) at_X6_tellsThrow_84 rfl ?_
          rw [fUp_4]
          exact ih (v + 1) (some (.int (nI 0))) _ _ (by omega) (Or.inr ⟨by omega, congrArg nI (by omega), rfl⟩)
        · have er2 : (qR t).toInt = 0 := by rw [er]; rfl
          have : (qU t).length = 6 := by first | omega | (simp only [List.length_set]; omega)
          have := I2 p (by omega)
          have : (qW t).length = 6 := by first | omega | (simp only [List.length_set]; omega)
          have := qPr_in I p (w := ((qW t).getD p 0)) (by omega)
          refine E_iload_n at_X6_tellsThrow_22 rfl ?_
          refine E_aload_n at_X6_tellsThrow_23 rfl ?_
          refine E_getfield (v := .ref 71) at_X6_tellsThrow_24 w65 rfl (by decide) rfl ?_
          refine E_iload_n at_X6_tellsThrow_27 rfl ?_
          refine E_ialN (l := qU t) (v := (qU t).getD p 0) at_X6_tellsThrow_28 w71 (by omega) (by omega) rfl ?_
          refine E_ic (t := 87) (b := false) at_X6_tellsThrow_29 rfl ((cn_gt (nI_toInt (by omega)) (nI_toInt (by omega))).trans (decide_eq_false (by omega))) ?_
          refine E_aload_n at_X6_tellsThrow_32 rfl ?_
          refine E_iload_n at_X6_tellsThrow_33 rfl ?_
          refine E_iload_n at_X6_tellsThrow_34 rfl ?_
          have e2 : Ev ab_Z0 2 176 [.ref 65, .int (nI p), .int (nI v)] (ww im lf s d k ls rf rz ra rn rq lt m1 m2 m3 m4 bd fc hd sz el t (fUp (fUp g 36 (-1)) 37 (-1)) fm hm so si sh ce ca td wa kp la (lsF (bst t m (qN t) (2 ^ qN t))) oo bo pw ow tr) (some (.int (-1)), (ww im lf s d k ls rf rz ra rn rq lt m1 m2 m3 m4 bd fc hd sz el t (fUp (fUp g 36 (-1)) 37 (-1)) fm hm so si sh ce ca td wa kp la (lsF (bst t m (qN t) (2 ^ qN t))) oo bo pw ow tr)) := by
            refine Ef.in (md := mX6_thrown) (L := [some (.ref 65), some (.int (nI p)), some (.int (nI v)), none]) rfl (Nat.le_of_ble_eq_true rfl) rfl ?_
            refine E_iload_n at_X6_thrown_0 rfl ?_
            refine E_aload_n at_X6_thrown_1 rfl ?_
            refine E_iload_n at_X6_thrown_2 rfl ?_
            refine E_aload_n at_X6_thrown_3 rfl ?_
            refine E_getfield (v := .ref 73) at_X6_thrown_4 w65 rfl (by decide) rfl ?_
            refine E_iload_n at_X6_thrown_7 rfl ?_
            refine E_ialN (l := qW t) (v := (qW t).getD p 0) at_X6_thrown_8 w73 (by omega) (by omega) rfl ?_
            refine E_callV (v := some (.int (nI (qPr t p ((qW t).getD p 0))))) (As := [.ref 65, .int (nI p), .int (nI ((qW t).getD p 0))]) (r0 := [.int (nI v)]) (cs2 := (ww im lf s d k ls rf rz ra rn rq lt m1 m2 m3 m4 bd fc hd sz el t (fUp (fUp g 36 (-1)) 37 (-1)) fm hm so si sh ce ca td wa kp la (lsF (bst t m (qN t) (2 ^ qN t))) oo bo pw ow tr)) at_X6_thrown_9 rfl rfl (Nat.le_of_ble_eq_true rfl) rfl (ab_rvOf w65 rfl) (mo_priceFor w_m I (by omega) (by omega)) (by decide) rfl ?_
            refine E_isub (z := nI v - nI (qPr t p ((qW t).getD p 0))) at_X6_thrown_12 rfl ?_
            refine E_istore_n (L2 := [some (.ref 65), some (.int (nI p)), some (.int (nI v)), some (.int (nI v - nI (qPr t p ((qW t).getD p 0))))]) at_X6_thrown_13 rfl ?_
            refine E_aload_n at_X6_thrown_14 rfl ?_
            refine E_iload_n at_X6_thrown_15 rfl ?_
            refine E_iconst (x := nI 0) at_X6_thrown_16 (by decide) ?_
            refine E_bipush (x := nI 99) at_X6_thrown_17 (by decide) ?_
            have e1 : Ev ab_Z0 1 134 [.ref 65, .int (nI v), .int (nI 0), .int (nI 99)] (ww im lf s d k ls rf rz ra rn rq lt m1 m2 m3 m4 bd fc hd sz el t (fUp (fUp g 36 (-1)) 37 (-1)) fm hm so si sh ce ca td wa kp la (lsF (bst t m (qN t) (2 ^ qN t))) oo bo pw ow tr) (some (.int (nI 1)), (ww im lf s d k ls rf rz ra rn rq lt m1 m2 m3 m4 bd fc hd sz el t (fUp (fUp g 36 (-1)) 37 (-1)) fm hm so si sh ce ca td wa kp la (lsF (bst t m (qN t) (2 ^ qN t))) oo bo pw ow tr)) := by
              refine Ef.in (md := mX6_isFrom) (L := [some (.ref 65), some (.int (nI v)), some (.int (nI 0)), some (.int (nI 99))]) rfl (Nat.le_of_ble_eq_true rfl) rfl ?_
              refine E_iload_n at_X6_isFrom_0 rfl ?_
              refine E_iload_n at_X6_isFrom_1 rfl ?_
              refine E_ic (t := 14) (b := false) at_X6_isFrom_2 rfl ((cn_lt (nI_toInt (by omega)) (nI_toInt (by omega))).trans (decide_eq_false (by omega))) ?_
              refine E_iload_n at_X6_isFrom_5 rfl ?_
              refine E_iload_n at_X6_isFrom_6 rfl ?_
              refine E_ic (t := 14) (b := false) at_X6_isFrom_7 rfl ((cn_gt (nI_toInt (by omega)) (nI_toInt (by omega))).trans (decide_eq_false (by omega))) ?_
              refine E_iconst (x := nI 1) at_X6_isFrom_10 (by decide) ?_
              refine E_goto (t := 15) at_X6_isFrom_11 rfl ?_
              exact E_iret at_X6_isFrom_15 rfl
            refine E_callV (v := some (.int (nI 1))) (As := [.ref 65, .int (nI v), .int (nI 0), .int (nI 99)]) (r0 := []) (cs2 := (ww im lf s d k ls rf rz ra rn rq lt m1 m2 m3 m4 bd fc hd sz el t (fUp (fUp g 36 (-1)) 37 (-1)) fm hm so si sh ce ca td wa kp la (lsF (bst t m (qN t) (2 ^ qN t))) oo bo pw ow tr)) at_X6_thrown_19 rfl rfl (Nat.le_of_ble_eq_true rfl) rfl (ab_rvOf w65 rfl) e1 (by decide) rfl ?_
            refine E_if (t := 39) (b := false) at_X6_thrown_22 rfl (by decide) ?_
            refine E_iload_n at_X6_thrown_25 rfl ?_
            refine E_aload_n at_X6_thrown_26 rfl ?_
            refine E_getfield (v := .ref 71) at_X6_thrown_27 w65 rfl (by decide) rfl ?_
            refine E_iload_n at_X6_thrown_30 rfl ?_
            refine E_ialN (l := qU t) (v := (qU t).getD p 0) at_X6_thrown_31 w71 (by omega) (by omega) rfl ?_
            refine E_ic (t := 39) (b := false) at_X6_thrown_32 rfl ((cn_gt (nI_toInt (by omega)) (nI_toInt (by omega))).trans (decide_eq_false (by omega))) ?_
            refine E_iload_n at_X6_thrown_35 rfl ?_
            refine E_if (t := 43) (b := false) at_X6_thrown_36 rfl ((cn_ge (ab_subI (by omega) (by omega)) (by decide : (0 : Int32).toInt = 0)).trans (decide_eq_false (by omega))) ?_
            refine E_iconst (x := (-1)) at_X6_thrown_39 (by decide) ?_
            refine E_goto (t := 48) at_X6_thrown_40 rfl ?_
            exact E_iret at_X6_thrown_48 rfl
          refine E_callV (v := some (.int (-1))) (As := [.ref 65, .int (nI p), .int (nI v)]) (r0 := []) (cs2 := (ww im lf s d k ls rf rz ra rn rq lt m1 m2 m3 m4 bd fc hd sz el t (fUp (fUp g 36 (-1)) 37 (-1)) fm hm so si sh ce ca td wa kp la (lsF (bst t m (qN t) (2 ^ qN t))) oo bo pw ow tr)) at_X6_tellsThrow_35 rfl rfl (Nat.le_of_ble_eq_true rfl) rfl (ab_rvOf w65 rfl) e2 (by decide) rfl ?_
          refine E_istore_n (L2 := [some (.ref 65), some (.int (nI p)), some (.int (nI v)), some (.int (-1))]) at_X6_tellsThrow_38 rfl ?_
          refine E_iload_n at_X6_tellsThrow_39 rfl ?_
          refine E_iconst (x := (-1)) at_X6_tellsThrow_40 (by decide) ?_
          refine E_ic (t := 81) (b := true) at_X6_tellsThrow_41 rfl (by decide) ?_
          refine E_iinc (y := nI (v + 1)) (L2 := [some (.ref 65), some (.int (nI p)), some (.int (nI (v + 1))), some (.int (-1))]) at_X6_tellsThrow_81 rfl (nI_1 _) rfl ?_
          refine E_goto (t := 22) at_X6_tellsThrow_84 rfl ?_
          exact ih (v + 1) (some (.int (-1))) _ _ (by omega) (Or.inl ⟨by omega, rfl, rfl⟩)
      · by_cases f2 : (qPr t p ((qW t).getD p 0)) ≤ v
        · have er2 : (qR t).toInt = 1 := by rw [er]; rfl
          have : (qU t).length = 6 := by first | omega | (simp only [List.length_set]; omega)
          have := I2 p (by omega)
          have : (qW t).length = 6 := by first | omega | (simp only [List.length_set]; omega)
          have := qPr_in I p (w := ((qW t).getD p 0)) (by omega)
          refine E_iload_n at_X6_tellsThrow_22 rfl ?_
          refine E_aload_n at_X6_tellsThrow_23 rfl ?_
          refine E_getfield (v := .ref 71) at_X6_tellsThrow_24 w65 rfl (by decide) rfl ?_
          refine E_iload_n at_X6_tellsThrow_27 rfl ?_
          refine E_ialN (l := qU t) (v := (qU t).getD p 0) at_X6_tellsThrow_28 w71 (by omega) (by omega) rfl ?_
          refine E_ic (t := 87) (b := false) at_X6_tellsThrow_29 rfl ((cn_gt (nI_toInt (by omega)) (nI_toInt (by omega))).trans (decide_eq_false (by omega))) ?_
          refine E_aload_n at_X6_tellsThrow_32 rfl ?_
          refine E_iload_n at_X6_tellsThrow_33 rfl ?_
          refine E_iload_n at_X6_tellsThrow_34 rfl ?_
          have e3 : Ev ab_Z0 4 176 [.ref 65, .int (nI p), .int (nI v)] (ww im lf s d k ls rf rz ra rn rq lt m1 m2 m3 m4 bd fc hd sz el t (fUp (fUp g 36 (-1)) 37 (-1)) fm hm so si sh ce ca td wa kp la (lsF (bst t m (qN t) (2 ^ qN t))) oo bo pw ow tr) (some (.int (nI 0)), (ww im lf s d k ls rf rz ra rn rq lt m1 m2 m3 m4 bd fc hd sz el t (fUp (fUp g 36 (-1)) 37 (-1)) fm hm so si sh ce ca td wa kp la (lsF (bst t m (qN t) (2 ^ qN t))) oo bo pw ow tr)) := by
            refine Ef.in (md := mX6_thrown) (L := [some (.ref 65), some (.int (nI p)), some (.int (nI v)), none]) rfl (Nat.le_of_ble_eq_true rfl) rfl ?_
            refine E_iload_n at_X6_thrown_0 rfl ?_
            refine E_aload_n at_X6_thrown_1 rfl ?_
            refine E_iload_n at_X6_thrown_2 rfl ?_
            refine E_aload_n at_X6_thrown_3 rfl ?_
            refine E_getfield (v := .ref 73) at_X6_thrown_4 w65 rfl (by decide) rfl ?_
            refine E_iload_n at_X6_thrown_7 rfl ?_
            refine E_ialN (l := qW t) (v := (qW t).getD p 0) at_X6_thrown_8 w73 (by omega) (by omega) rfl ?_
            refine E_callV (v := some (.int (nI (qPr t p ((qW t).getD p 0))))) (As := [.ref 65, .int (nI p), .int (nI ((qW t).getD p 0))]) (r0 := [.int (nI v)]) (cs2 := (ww im lf s d k ls rf rz ra rn rq lt m1 m2 m3 m4 bd fc hd sz el t (fUp (fUp g 36 (-1)) 37 (-1)) fm hm so si sh ce ca td wa kp la (lsF (bst t m (qN t) (2 ^ qN t))) oo bo pw ow tr)) at_X6_thrown_9 rfl rfl (Nat.le_of_ble_eq_true rfl) rfl (ab_rvOf w65 rfl) (mo_priceFor w_m I (by omega) (by omega)) (by decide) rfl ?_
            refine E_isub (z := nI (v - (qPr t p ((qW t).getD p 0)))) at_X6_thrown_12 (pk_sub (by omega)) ?_
            refine E_istore_n (L2 := [some (.ref 65), some (.int (nI p)), some (.int (nI v)), some (.int (nI (v - (qPr t p ((qW t).getD p 0)))))]) at_X6_thrown_13 rfl ?_
            refine E_aload_n at_X6_thrown_14 rfl ?_
            refine E_iload_n at_X6_thrown_15 rfl ?_
            refine E_iconst (x := nI 0) at_X6_thrown_16 (by decide) ?_
            refine E_bipush (x := nI 99) at_X6_thrown_17 (by decide) ?_
            have e1 : Ev ab_Z0 1 134 [.ref 65, .int (nI v), .int (nI 0), .int (nI 99)] (ww im lf s d k ls rf rz ra rn rq lt m1 m2 m3 m4 bd fc hd sz el t (fUp (fUp g 36 (-1)) 37 (-1)) fm hm so si sh ce ca td wa kp la (lsF (bst t m (qN t) (2 ^ qN t))) oo bo pw ow tr) (some (.int (nI 1)), (ww im lf s d k ls rf rz ra rn rq lt m1 m2 m3 m4 bd fc hd sz el t (fUp (fUp g 36 (-1)) 37 (-1)) fm hm so si sh ce ca td wa kp la (lsF (bst t m (qN t) (2 ^ qN t))) oo bo pw ow tr)) := by
              refine Ef.in (md := mX6_isFrom) (L := [some (.ref 65), some (.int (nI v)), some (.int (nI 0)), some (.int (nI 99))]) rfl (Nat.le_of_ble_eq_true rfl) rfl ?_
              refine E_iload_n at_X6_isFrom_0 rfl ?_
              refine E_iload_n at_X6_isFrom_1 rfl ?_
              refine E_ic (t := 14) (b := false) at_X6_isFrom_2 rfl ((cn_lt (nI_toInt (by omega)) (nI_toInt (by omega))).trans (decide_eq_false (by omega))) ?_
              refine E_iload_n at_X6_isFrom_5 rfl ?_
              refine E_iload_n at_X6_isFrom_6 rfl ?_
              refine E_ic (t := 14) (b := false) at_X6_isFrom_7 rfl ((cn_gt (nI_toInt (by omega)) (nI_toInt (by omega))).trans (decide_eq_false (by omega))) ?_
              refine E_iconst (x := nI 1) at_X6_isFrom_10 (by decide) ?_
              refine E_goto (t := 15) at_X6_isFrom_11 rfl ?_
              exact E_iret at_X6_isFrom_15 rfl
            refine E_callV (v := some (.int (nI 1))) (As := [.ref 65, .int (nI v), .int (nI 0), .int (nI 99)]) (r0 := []) (cs2 := (ww im lf s d k ls rf rz ra rn rq lt m1 m2 m3 m4 bd fc hd sz el t (fUp (fUp g 36 (-1)) 37 (-1)) fm hm so si sh ce ca td wa kp la (lsF (bst t m (qN t) (2 ^ qN t))) oo bo pw ow tr)) at_X6_thrown_19 rfl rfl (Nat.le_of_ble_eq_true rfl) rfl (ab_rvOf w65 rfl) e1 (by decide) rfl ?_
            refine E_if (t := 39) (b := false) at_X6_thrown_22 rfl (by decide) ?_
            refine E_iload_n at_X6_thrown_25 rfl ?_
            refine E_aload_n at_X6_thrown_26 rfl ?_
            refine E_getfield (v := .ref 71) at_X6_thrown_27 w65 rfl (by decide) rfl ?_
            refine E_iload_n at_X6_thrown_30 rfl ?_
            refine E_ialN (l := qU t) (v := (qU t).getD p 0) at_X6_thrown_31 w71 (by omega) (by omega) rfl ?_
            refine E_ic (t := 39) (b := false) at_X6_thrown_32 rfl ((cn_gt (nI_toInt (by omega)) (nI_toInt (by omega))).trans (decide_eq_false (by omega))) ?_
            refine E_iload_n at_X6_thrown_35 rfl ?_
            refine E_if (t := 43) (b := true) at_X6_thrown_36 rfl ((cn_ge (nI_toInt (by omega)) (by decide : (0 : Int32).toInt = 0)).trans (decide_eq_true (by omega))) ?_
            refine E_aload_n at_X6_thrown_43 rfl ?_
            refine E_iload_n at_X6_thrown_44 rfl ?_
            have e2 : Ev ab_Z0 3 172 [.ref 65, .int (nI (v - (qPr t p ((qW t).getD p 0))))] (ww im lf s d k ls rf rz ra rn rq lt m1 m2 m3 m4 bd fc hd sz el t (fUp (fUp g 36 (-1)) 37 (-1)) fm hm so si sh ce ca td wa kp la (lsF (bst t m (qN t) (2 ^ qN t))) oo bo pw ow tr) (some (.int (nI 0)), (ww im lf s d k ls rf rz ra rn rq lt m1 m2 m3 m4 bd fc hd sz el t (fUp (fUp g 36 (-1)) 37 (-1)) fm hm so si sh ce ca td wa kp la (lsF (bst t m (qN t) (2 ^ qN t))) oo bo pw ow tr)) := by
              refine Ef.in (md := mX6_changeFor) (L := [some (.ref 65), some (.int (nI (v - (qPr t p ((qW t).getD p 0)))))]) rfl (Nat.le_of_ble_eq_true rfl) rfl ?_
              refine E_aload_n at_X6_changeFor_0 rfl ?_
              refine E_getfield (v := .int (qR t)) at_X6_changeFor_1 w65 rfl (by decide) rfl ?_
              refine E_if (t := 16) (b := true) at_X6_changeFor_4 rfl ((cn_ne rfl (by decide : (0 : Int32).toInt = 0)).trans (decide_eq_true (by omega))) ?_
              refine E_aload_n at_X6_changeFor_16 rfl ?_
              refine E_iload_n at_X6_changeFor_17 rfl ?_
              refine E_callV (v := some (.int (nI 0))) (As := [.ref 65, .int (nI (v - (qPr t p ((qW t).getD p 0))))]) (r0 := []) (cs2 := (ww im lf s d k ls rf rz ra rn rq lt m1 m2 m3 m4 bd fc hd sz el t (fUp (fUp g 36 (-1)) 37 (-1)) fm hm so si sh ce ca td wa kp la (lsF (bst t m (qN t) (2 ^ qN t))) oo bo pw ow tr)) at_X6_changeFor_18 rfl rfl (Nat.le_of_ble_eq_true rfl) rfl (ab_rvOf w65 rfl) (Ev.g1 (X := qGreedy t (v - (qPr t p ((qW t).getD p 0)))) (by rw [show v - (qPr t p ((qW t).getD p 0)) = 0 by omega]; exact qGd_z _ _ _ _) (mo_greedyFor w_m I (by omega))) (by decide) rfl ?_
              exact E_iret at_X6_changeFor_21 rfl
            refine E_callV (v := some (.int (nI 0))) (As := [.ref 65, .int (nI (v - (qPr t p ((qW t).getD p 0))))]) (r0 := []) (cs2 := (ww im lf s d k ls rf rz ra rn rq lt m1 m2 m3 m4 bd fc hd sz el t (fUp (fUp g 36 (-1)) 37 (-1)) fm hm so si sh ce ca td wa kp la (lsF (bst t m (qN t) (2 ^ qN t))) oo bo pw ow tr)) at_X6_thrown_45 rfl rfl (Nat.le_of_ble_eq_true rfl) rfl (ab_rvOf w65 rfl) e2 (by decide) rfl ?_
            exact E_iret at_X6_thrown_48 rfl
          refine E_callV (v := some (.int (nI 0))) (As := [.ref 65, .int (nI p), .int (nI v)]) (r0 := []) (cs2 := (ww im lf s d k ls rf rz ra rn rq lt m1 m2 m3 m4 bd fc hd sz el t (fUp (fUp g 36 (-1)) 37 (-1)) fm hm so si sh ce ca td wa kp la (lsF (bst t m (qN t) (2 ^ qN t))) oo bo pw ow tr)) at_X6_tellsThrow_35 rfl rfl (Nat.le_of_ble_eq_true rfl) rfl (ab_rvOf w65 rfl) e3 (by decide) rfl ?_
          refine E_istore_n (L2 := [some (.ref 65), some (.int (nI p)), some (.int (nI v)), some (.int (nI 0))]) at_X6_tellsThrow_38 rfl ?_
          refine E_iload_n at_X6_tellsThrow_39 rfl ?_
          refine E_iconst (x := (-1)) at_X6_tellsThrow_40 (by decide) ?_
          refine E_ic (t := 81) (b := false) at_X6_tellsThrow_41 rfl (by decide) ?_
          refine E_aload_n at_X6_tellsThrow_44 rfl ?_
          refine E_getfield (v := .int (-1)) at_X6_tellsThrow_45 w65 rfl (by decide) rfl ?_
          refine E_iconst (x := (-1)) at_X6_tellsThrow_48 (by decide) ?_
          refine E_ic (t := 67) (b := true) at_X6_tellsThrow_49 rfl (by decide) ?_
          refine E_aload_n rfl rfl ?_
          refine E_iload_n rfl rfl ?_
          refine E_putfield (cs2 := (ww im lf s d k ls rf rz ra rn rq lt m1 m2 m3 m4 bd fc hd sz el t (fUp (fUp (fUp g 36 (-1)) 37 (-1)) 36 (nI v)) fm hm so si sh ce ca td wa kp la (lsF (bst t m (qN t) (2 ^ qN t))) oo bo pw ow tr)) rfl w65 rfl (by decide) (Nat.le_of_ble_eq_true rfl) rfl rfl rfl w_pt65_36 ?_
          refine E_aload_n rfl rfl ?_
          refine E_aload_n rfl rfl ?_
          refine E_iload_n rfl rfl ?_
          refine E_callV (v := some (.int (nI 0))) (As := [.ref 65, .int (nI 0)]) (r0 := [.ref 65]) (cs2 := (ww im lf s d k ls rf rz ra rn rq lt m1 m2 m3 m4 bd fc hd sz el t (fUp (fUp (fUp g 36 (-1)) 37 (-1)) 36 (nI v)) fm hm so si sh ce ca td wa kp la (lsF (bst t m (qN t) (2 ^ qN t))) oo bo pw ow tr)) rfl rfl rfl (Nat.le_of_ble_eq_true rfl) rfl (ab_rvOf w65 rfl) (Ev.eqI (congrArg nI (qHs_none t _)) (mo_harmOf w_m I (by omega))) (by decide) rfl ?_
          refine E_putfield (cs2 := (ww im lf s d k ls rf rz ra rn rq lt m1 m2 m3 m4 bd fc hd sz el t (fUp (fUp (fUp (fUp g 36 (-1)) 37 (-1)) 36 (nI v)) 37 (nI 0)) fm hm so si sh ce ca td wa kp la (lsF (bst t m (qN t) (2 ^ qN t))) oo bo pw ow tr)) rfl w65 rfl (by decide) (Nat.le_of_ble_eq_true rfl) rfl rfl rfl w_pt65_37 ?_
          refine E_iinc (y := nI (v + 1)) (L2 := [some (.ref 65), some (.int (nI p)), some (.int (nI (v + 1))), some (.int (nI 0))]) at_X6_tellsThrow_81 rfl (nI_1 _) rfl ?_
          refine E_goto (t := 22) at_X6_tellsThrow_84 rfl ?_
          rw [fUp_4]
          exact ih (v + 1) (some (.int (nI 0))) _ _ (by omega) (Or.inr ⟨by omega, congrArg nI (by omega), rfl⟩)
        · have er2 : (qR t).toInt = 1 := by rw [er]; rfl
          have : (qU t).length = 6 := by first | omega | (simp only [List.length_set]; omega)
          have := I2 p (by omega)
          have : (qW t).length = 6 := by first | omega | (simp only [List.length_set]; omega)
          have := qPr_in I p (w := ((qW t).getD p 0)) (by omega)
          refine E_iload_n at_X6_tellsThrow_22 rfl ?_
          refine E_aload_n at_X6_tellsThrow_23 rfl ?_
          refine E_getfield (v := .ref 71) at_X6_tellsThrow_24 w65 rfl (by decide) rfl ?_
          refine E_iload_n at_X6_tellsThrow_27 rfl ?_
          refine E_ialN (l := qU t) (v := (qU t).getD p 0) at_X6_tellsThrow_28 w71 (by omega) (by omega) rfl ?_
          refine E_ic (t := 87) (b := false) at_X6_tellsThrow_29 rfl ((cn_gt (nI_toInt (by omega)) (nI_toInt (by omega))).trans (decide_eq_false (by omega))) ?_
          refine E_aload_n at_X6_tellsThrow_32 rfl ?_
          refine E_iload_n at_X6_tellsThrow_33 rfl ?_
          refine E_iload_n at_X6_tellsThrow_34 rfl ?_
          have e2 : Ev ab_Z0 2 176 [.ref 65, .int (nI p), .int (nI v)] (ww im lf s d k ls rf rz ra rn rq lt m1 m2 m3 m4 bd fc hd sz el t (fUp (fUp g 36 (-1)) 37 (-1)) fm hm so si sh ce ca td wa kp la (lsF (bst t m (qN t) (2 ^ qN t))) oo bo pw ow tr) (some (.int (-1)), (ww im lf s d k ls rf rz ra rn rq lt m1 m2 m3 m4 bd fc hd sz el t (fUp (fUp g 36 (-1)) 37 (-1)) fm hm so si sh ce ca td wa kp la (lsF (bst t m (qN t) (2 ^ qN t))) oo bo pw ow tr)) := by
            refine Ef.in (md := mX6_thrown) (L := [some (.ref 65), some (.int (nI p)), some (.int (nI v)), none]) rfl (Nat.le_of_ble_eq_true rfl) rfl ?_
            refine E_iload_n at_X6_thrown_0 rfl ?_
            refine E_aload_n at_X6_thrown_1 rfl ?_
            refine E_iload_n at_X6_thrown_2 rfl ?_
            refine E_aload_n at_X6_thrown_3 rfl ?_
            refine E_getfield (v := .ref 73) at_X6_thrown_4 w65 rfl (by decide) rfl ?_
            refine E_iload_n at_X6_thrown_7 rfl ?_
            refine E_ialN (l := qW t) (v := (qW t).getD p 0) at_X6_thrown_8 w73 (by omega) (by omega) rfl ?_
            refine E_callV (v := some (.int (nI (qPr t p ((qW t).getD p 0))))) (As := [.ref 65, .int (nI p), .int (nI ((qW t).getD p 0))]) (r0 := [.int (nI v)]) (cs2 := (ww im lf s d k ls rf rz ra rn rq lt m1 m2 m3 m4 bd fc hd sz el t (fUp (fUp g 36 (-1)) 37 (-1)) fm hm so si sh ce ca td wa kp la (lsF (bst t m (qN t) (2 ^ qN t))) oo bo pw ow tr)) at_X6_thrown_9 rfl rfl (Nat.le_of_ble_eq_true rfl) rfl (ab_rvOf w65 rfl) (mo_priceFor w_m I (by omega) (by omega)) (by decide) rfl ?_
            refine E_isub (z := nI v - nI (qPr t p ((qW t).getD p 0))) at_X6_thrown_12 rfl ?_
            refine E_istore_n (L2 := [some (.ref 65), some (.int (nI p)), some (.int (nI v)), some (.int (nI v - nI (qPr t p ((qW t).getD p 0))))]) at_X6_thrown_13 rfl ?_
            refine E_aload_n at_X6_thrown_14 rfl ?_
            refine E_iload_n at_X6_thrown_15 rfl ?_
            refine E_iconst (x := nI 0) at_X6_thrown_16 (by decide) ?_
            refine E_bipush (x := nI 99) at_X6_thrown_17 (by decide) ?_
            have e1 : Ev ab_Z0 1 134 [.ref 65, .int (nI v), .int (nI 0), .int (nI 99)] (ww im lf s d k ls rf rz ra rn rq lt m1 m2 m3 m4 bd fc hd sz el t (fUp (fUp g 36 (-1)) 37 (-1)) fm hm so si sh ce ca td wa kp la (lsF (bst t m (qN t) (2 ^ qN t))) oo bo pw ow tr) (some (.int (nI 1)), (ww im lf s d k ls rf rz ra rn rq lt m1 m2 m3 m4 bd fc hd sz el t (fUp (fUp g 36 (-1)) 37 (-1)) fm hm so si sh ce ca td wa kp la (lsF (bst t m (qN t) (2 ^ qN t))) oo bo pw ow tr)) := by
              refine Ef.in (md := mX6_isFrom) (L := [some (.ref 65), some (.int (nI v)), some (.int (nI 0)), some (.int (nI 99))]) rfl (Nat.le_of_ble_eq_true rfl) rfl ?_
              refine E_iload_n at_X6_isFrom_0 rfl ?_
              refine E_iload_n at_X6_isFrom_1 rfl ?_
              refine E_ic (t := 14) (b := false) at_X6_isFrom_2 rfl ((cn_lt (nI_toInt (by omega)) (nI_toInt (by omega))).trans (decide_eq_false (by omega))) ?_
              refine E_iload_n at_X6_isFrom_5 rfl ?_
              refine E_iload_n at_X6_isFrom_6 rfl ?_
              refine E_ic (t := 14) (b := false) at_X6_isFrom_7 rfl ((cn_gt (nI_toInt (by omega)) (nI_toInt (by omega))).trans (decide_eq_false (by omega))) ?_
              refine E_iconst (x := nI 1) at_X6_isFrom_10 (by decide) ?_
              refine E_goto (t := 15) at_X6_isFrom_11 rfl ?_
              exact E_iret at_X6_isFrom_15 rfl
            refine E_callV (v := some (.int (nI 1))) (As := [.ref 65, .int (nI v), .int (nI 0), .int (nI 99)]) (r0 := []) (cs2 := (ww im lf s d k ls rf rz ra rn rq lt m1 m2 m3 m4 bd fc hd sz el t (fUp (fUp g 36 (-1)) 37 (-1)) fm hm so si sh ce ca td wa kp la (lsF (bst t m (qN t) (2 ^ qN t))) oo bo pw ow tr)) at_X6_thrown_19 rfl rfl (Nat.le_of_ble_eq_true rfl) rfl (ab_rvOf w65 rfl) e1 (by decide) rfl ?_
            refine E_if (t := 39) (b := false) at_X6_thrown_22 rfl (by decide) ?_
            refine E_iload_n at_X6_thrown_25 rfl ?_
            refine E_aload_n at_X6_thrown_26 rfl ?_
            refine E_getfield (v := .ref 71) at_X6_thrown_27 w65 rfl (by decide) rfl ?_
            refine E_iload_n at_X6_thrown_30 rfl ?_
            refine E_ialN (l := qU t) (v := (qU t).getD p 0) at_X6_thrown_31 w71 (by omega) (by omega) rfl ?_
            refine E_ic (t := 39) (b := false) at_X6_thrown_32 rfl ((cn_gt (nI_toInt (by omega)) (nI_toInt (by omega))).trans (decide_eq_false (by omega))) ?_
            refine E_iload_n at_X6_thrown_35 rfl ?_
            refine E_if (t := 43) (b := false) at_X6_thrown_36 rfl ((cn_ge (ab_subI (by omega) (by omega)) (by decide : (0 : Int32).toInt = 0)).trans (decide_eq_false (by omega))) ?_
            refine E_iconst (x := (-1)) at_X6_thrown_39 (by decide) ?_
            refine E_goto (t := 48) at_X6_thrown_40 rfl ?_
            exact E_iret at_X6_thrown_48 rfl
          refine E_callV (v := some (.int (-1))) (As := [.ref 65, .int (nI p), .int (nI v)]) (r0 := []) (cs2 := (ww im lf s d k ls rf rz ra rn rq lt m1 m2 m3 m4 bd fc hd sz el t (fUp (fUp g 36 (-1)) 37 (-1)) fm hm so si sh ce ca td wa kp la (lsF (bst t m (qN t) (2 ^ qN t))) oo bo pw ow tr)) at_X6_tellsThrow_35 rfl rfl (Nat.le_of_ble_eq_true rfl) rfl (ab_rvOf w65 rfl) e2 (by decide) rfl ?_
          refine E_istore_n (L2 := [some (.ref 65), some (.int (nI p)), some (.int (nI v)), some (.int (-1))]) at_X6_tellsThrow_38 rfl ?_
          refine E_iload_n at_X6_tellsThrow_39 rfl ?_
          refine E_iconst (x := (-1)) at_X6_tellsThrow_40 (by decide) ?_
          refine E_ic (t := 81) (b := true) at_X6_tellsThrow_41 rfl (by decide) ?_
          refine E_iinc (y := nI (v + 1)) (L2 := [some (.ref 65), some (.int (nI p)), some (.int (nI (v + 1))), some (.int (-1))]) at_X6_tellsThrow_81 rfl (nI_1 _) rfl ?_
          refine E_goto (t := 22) at_X6_tellsThrow_84 rfl ?_
          exact ih (v + 1) (some (.int (-1))) _ _ (by omega) (Or.inl ⟨by omega, rfl, rfl⟩)
    · rcases I4 with er | er
      · rcases wgh_bst t m (qN t) (v - (qPr t p ((qW t).getD p 0))) with ⟨eb0, fb0⟩ | ⟨B0, hB0, hs0, hw0, hb0, hk0⟩
        · have er2 : (qR t).toInt = 0 := by rw [er]; rfl
          have : (qU t).length = 6 := by first | omega | (simp only [List.length_set]; omega)
          have := I2 p (by omega)
          have : (qW t).length = 6 := by first | omega | (simp only [List.length_set]; omega)
          have := qPr_in I p (w := ((qW t).getD p 0)) (by omega)
          have := lsF_len (bst t m (qN t) (2 ^ qN t))
          refine E_iload_n at_X6_tellsThrow_22 rfl ?_
          refine E_aload_n at_X6_tellsThrow_23 rfl ?_
          refine E_getfield (v := .ref 71) at_X6_tellsThrow_24 w65 rfl (by decide) rfl ?_
          refine E_iload_n at_X6_tellsThrow_27 rfl ?_
          refine E_ialN (l := qU t) (v := (qU t).getD p 0) at_X6_tellsThrow_28 w71 (by omega) (by omega) rfl ?_
          refine E_ic (t := 87) (b := false) at_X6_tellsThrow_29 rfl ((cn_gt (nI_toInt (by omega)) (nI_toInt (by omega))).trans (decide_eq_false (by omega))) ?_
          refine E_aload_n at_X6_tellsThrow_32 rfl ?_
          refine E_iload_n at_X6_tellsThrow_33 rfl ?_
          refine E_iload_n at_X6_tellsThrow_34 rfl ?_
          have e3 : Ev ab_Z0 2 176 [.ref 65, .int (nI p), .int (nI v)] (ww im lf s d k ls rf rz ra rn rq lt m1 m2 m3 m4 bd fc hd sz el t (fUp (fUp g 36 (nI (qPr t p ((qW t).getD p 0)))) 37 (nI 0)) fm hm so si sh ce ca td wa kp la (lsF (bst t m (qN t) (2 ^ qN t))) oo bo pw ow tr) (some (.int (-1)), (ww im lf s d k ls rf rz ra rn rq lt m1 m2 m3 m4 bd fc hd sz el t (fUp (fUp g 36 (nI (qPr t p ((qW t).getD p 0)))) 37 (nI 0)) fm hm so si sh ce ca td wa kp la (lsF (bst t m (qN t) (2 ^ qN t))) oo bo pw ow tr)) := by
            refine Ef.in (md := mX6_thrown) (L := [some (.ref 65), some (.int (nI p)), some (.int (nI v)), none]) rfl (Nat.le_of_ble_eq_true rfl) rfl ?_
            refine E_iload_n at_X6_thrown_0 rfl ?_
            refine E_aload_n at_X6_thrown_1 rfl ?_
            refine E_iload_n at_X6_thrown_2 rfl ?_
            refine E_aload_n at_X6_thrown_3 rfl ?_
            refine E_getfield (v := .ref 73) at_X6_thrown_4 w65 rfl (by decide) rfl ?_
            refine E_iload_n at_X6_thrown_7 rfl ?_
            refine E_ialN (l := qW t) (v := (qW t).getD p 0) at_X6_thrown_8 w73 (by omega) (by omega) rfl ?_
            refine E_callV (v := some (.int (nI (qPr t p ((qW t).getD p 0))))) (As := [.ref 65, .int (nI p), .int (nI ((qW t).getD p 0))]) (r0 := [.int (nI v)]) (cs2 := (ww im lf s d k ls rf rz ra rn rq lt m1 m2 m3 m4 bd fc hd sz el t (fUp (fUp g 36 (nI (qPr t p ((qW t).getD p 0)))) 37 (nI 0)) fm hm so si sh ce ca td wa kp la (lsF (bst t m (qN t) (2 ^ qN t))) oo bo pw ow tr)) at_X6_thrown_9 rfl rfl (Nat.le_of_ble_eq_true rfl) rfl (ab_rvOf w65 rfl) (mo_priceFor w_m I (by omega) (by omega)) (by decide) rfl ?_
            refine E_isub (z := nI (v - (qPr t p ((qW t).getD p 0)))) at_X6_thrown_12 (pk_sub (by omega)) ?_
            refine E_istore_n (L2 := [some (.ref 65), some (.int (nI p)), some (.int (nI v)), some (.int (nI (v - (qPr t p ((qW t).getD p 0)))))]) at_X6_thrown_13 rfl ?_
            refine E_aload_n at_X6_thrown_14 rfl ?_
            refine E_iload_n at_X6_thrown_15 rfl ?_
            refine E_iconst (x := nI 0) at_X6_thrown_16 (by decide) ?_
            refine E_bipush (x := nI 99) at_X6_thrown_17 (by decide) ?_
            have e1 : Ev ab_Z0 1 134 [.ref 65, .int (nI v), .int (nI 0), .int (nI 99)] (ww im lf s d k ls rf rz ra rn rq lt m1 m2 m3 m4 bd fc hd sz el t (fUp (fUp g 36 (nI (qPr t p ((qW t).getD p 0)))) 37 (nI 0)) fm hm so si sh ce ca td wa kp la (lsF (bst t m (qN t) (2 ^ qN t))) oo bo pw ow tr) (some (.int (nI 1)), (ww im lf s d k ls rf rz ra rn rq lt m1 m2 m3 m4 bd fc hd sz el t (fUp (fUp g 36 (nI (qPr t p ((qW t).getD p 0)))) 37 (nI 0)) fm hm so si sh ce ca td wa kp la (lsF (bst t m (qN t) (2 ^ qN t))) oo bo pw ow tr)) := by
              refine Ef.in (md := mX6_isFrom) (L := [some (.ref 65), some (.int (nI v)), some (.int (nI 0)), some (.int (nI 99))]) rfl (Nat.le_of_ble_eq_true rfl) rfl ?_
              refine E_iload_n at_X6_isFrom_0 rfl ?_
              refine E_iload_n at_X6_isFrom_1 rfl ?_
              refine E_ic (t := 14) (b := false) at_X6_isFrom_2 rfl ((cn_lt (nI_toInt (by omega)) (nI_toInt (by omega))).trans (decide_eq_false (by omega))) ?_
              refine E_iload_n at_X6_isFrom_5 rfl ?_
              refine E_iload_n at_X6_isFrom_6 rfl ?_
              refine E_ic (t := 14) (b := false) at_X6_isFrom_7 rfl ((cn_gt (nI_toInt (by omega)) (nI_toInt (by omega))).trans (decide_eq_false (by omega))) ?_
              refine E_iconst (x := nI 1) at_X6_isFrom_10 (by decide) ?_
              refine E_goto (t := 15) at_X6_isFrom_11 rfl ?_
              exact E_iret at_X6_isFrom_15 rfl
            refine E_callV (v := some (.int (nI 1))) (As := [.ref 65, .int (nI v), .int (nI 0), .int (nI 99)]) (r0 := []) (cs2 := (ww im lf s d k ls rf rz ra rn rq lt m1 m2 m3 m4 bd fc hd sz el t (fUp (fUp g 36 (nI (qPr t p ((qW t).getD p 0)))) 37 (nI 0)) fm hm so si sh ce ca td wa kp la (lsF (bst t m (qN t) (2 ^ qN t))) oo bo pw ow tr)) at_X6_thrown_19 rfl rfl (Nat.le_of_ble_eq_true rfl) rfl (ab_rvOf w65 rfl) e1 (by decide) rfl ?_
            refine E_if (t := 39) (b := false) at_X6_thrown_22 rfl (by decide) ?_
            refine E_iload_n at_X6_thrown_25 rfl ?_
            refine E_aload_n at_X6_thrown_26 rfl ?_
            refine E_getfield (v := .ref 71) at_X6_thrown_27 w65 rfl (by decide) rfl ?_
            refine E_iload_n at_X6_thrown_30 rfl ?_
            refine E_ialN (l := qU t) (v := (qU t).getD p 0) at_X6_thrown_31 w71 (by omega) (by omega) rfl ?_
            refine E_ic (t := 39) (b := false) at_X6_thrown_32 rfl ((cn_gt (nI_toInt (by omega)) (nI_toInt (by omega))).trans (decide_eq_false (by omega))) ?_
            refine E_iload_n at_X6_thrown_35 rfl ?_
            refine E_if (t := 43) (b := true) at_X6_thrown_36 rfl ((cn_ge (nI_toInt (by omega)) (by decide : (0 : Int32).toInt = 0)).trans (decide_eq_true (by omega))) ?_
            refine E_aload_n at_X6_thrown_43 rfl ?_
            refine E_iload_n at_X6_thrown_44 rfl ?_
            have e2 : Ev ab_Z0 1 172 [.ref 65, .int (nI (v - (qPr t p ((qW t).getD p 0))))] (ww im lf s d k ls rf rz ra rn rq lt m1 m2 m3 m4 bd fc hd sz el t (fUp (fUp g 36 (nI (qPr t p ((qW t).getD p 0)))) 37 (nI 0)) fm hm so si sh ce ca td wa kp la (lsF (bst t m (qN t) (2 ^ qN t))) oo bo pw ow tr) (some (.int (-1)), (ww im lf s d k ls rf rz ra rn rq lt m1 m2 m3 m4 bd fc hd sz el t (fUp (fUp g 36 (nI (qPr t p ((qW t).getD p 0)))) 37 (nI 0)) fm hm so si sh ce ca td wa kp la (lsF (bst t m (qN t) (2 ^ qN t))) oo bo pw ow tr)) := by
              refine Ef.in (md := mX6_changeFor) (L := [some (.ref 65), some (.int (nI (v - (qPr t p ((qW t).getD p 0)))))]) rfl (Nat.le_of_ble_eq_true rfl) rfl ?_
              refine E_aload_n at_X6_changeFor_0 rfl ?_
              refine E_getfield (v := .int (qR t)) at_X6_changeFor_1 w65 rfl (by decide) rfl ?_
              refine E_if (t := 16) (b := false) at_X6_changeFor_4 rfl ((cn_ne rfl (by decide : (0 : Int32).toInt = 0)).trans (decide_eq_false (by omega))) ?_
              refine E_aload_n at_X6_changeFor_7 rfl ?_
              refine E_getfield (v := .ref 89) at_X6_changeFor_8 w65 rfl (by decide) rfl ?_
              refine E_iload_n at_X6_changeFor_11 rfl ?_
              refine E_ialI (l := (lsF (bst t m (qN t) (2 ^ qN t)))) (v := (-1)) at_X6_changeFor_12 w89 (by omega) (by omega) (by rw [lsF_get (by omega), fb0]; rfl) ?_
              refine E_goto (t := 21) at_X6_changeFor_13 rfl ?_
              exact E_iret at_X6_changeFor_21 rfl
            refine E_callV (v := some (.int (-1))) (As := [.ref 65, .int (nI (v - (qPr t p ((qW t).getD p 0))))]) (r0 := []) (cs2 := (ww im lf s d k ls rf rz ra rn rq lt m1 m2 m3 m4 bd fc hd sz el t (fUp (fUp g 36 (nI (qPr t p ((qW t).getD p 0)))) 37 (nI 0)) fm hm so si sh ce ca td wa kp la (lsF (bst t m (qN t) (2 ^ qN t))) oo bo pw ow tr)) at_X6_thrown_45 rfl rfl (Nat.le_of_ble_eq_true rfl) rfl (ab_rvOf w65 rfl) e2 (by decide) rfl ?_
            exact E_iret at_X6_thrown_48 rfl
          refine E_callV (v := some (.int (-1))) (As := [.ref 65, .int (nI p), .int (nI v)]) (r0 := []) (cs2 := (ww im lf s d k ls rf rz ra rn rq lt m1 m2 m3 m4 bd fc hd sz el t (fUp (fUp g 36 (nI (qPr t p ((qW t).getD p 0)))) 37 (nI 0)) fm hm so si sh ce ca td wa kp la (lsF (bst t m (qN t) (2 ^ qN t))) oo bo pw ow tr)) at_X6_tellsThrow_35 rfl rfl (Nat.le_of_ble_eq_true rfl) rfl (ab_rvOf w65 rfl) e3 (by decide) rfl ?_
          refine E_istore_n (L2 := [some (.ref 65), some (.int (nI p)), some (.int (nI v)), some (.int (-1))]) at_X6_tellsThrow_38 rfl ?_
          refine E_iload_n at_X6_tellsThrow_39 rfl ?_
          refine E_iconst (x := (-1)) at_X6_tellsThrow_40 (by decide) ?_
          refine E_ic (t := 81) (b := true) at_X6_tellsThrow_41 rfl (by decide) ?_
          refine E_iinc (y := nI (v + 1)) (L2 := [some (.ref 65), some (.int (nI p)), some (.int (nI (v + 1))), some (.int (-1))]) at_X6_tellsThrow_81 rfl (nI_1 _) rfl ?_
          refine E_goto (t := 22) at_X6_tellsThrow_84 rfl ?_
          exact ih (v + 1) (some (.int (-1))) _ _ (by omega) (Or.inr ⟨by omega, rfl, rfl⟩)
        · have er2 : (qR t).toInt = 0 := by rw [er]; rfl
          have : (qU t).length = 6 := by first | omega | (simp only [List.length_set]; omega)
          have := I2 p (by omega)
          have : (qW t).length = 6 := by first | omega | (simp only [List.length_set]; omega)
          have := qPr_in I p (w := ((qW t).getD p 0)) (by omega)
          have := lsF_len (bst t m (qN t) (2 ^ qN t))
          have w9 : 2 ^ qN t ≤ 2 ^ 9 := Nat.pow_le_pow_right (by decide) (by omega)
          have := qHs_le I B0 (qN t) (Nat.le_refl _)
          refine E_iload_n at_X6_tellsThrow_22 rfl ?_
          refine E_aload_n at_X6_tellsThrow_23 rfl ?_
          refine E_getfield (v := .ref 71) at_X6_tellsThrow_24 w65 rfl (by decide) rfl ?_
          refine E_iload_n at_X6_tellsThrow_27 rfl ?_
          refine E_ialN (l := qU t) (v := (qU t).getD p 0) at_X6_tellsThrow_28 w71 (by omega) (by omega) rfl ?_
          refine E_ic (t := 87) (b := false) at_X6_tellsThrow_29 rfl ((cn_gt (nI_toInt (by omega)) (nI_toInt (by omega))).trans (decide_eq_false (by omega))) ?_
          refine E_aload_n at_X6_tellsThrow_32 rfl ?_
          refine E_iload_n at_X6_tellsThrow_33 rfl ?_
          refine E_iload_n at_X6_tellsThrow_34 rfl ?_
          have e3 : Ev ab_Z0 2 176 [.ref 65, .int (nI p), .int (nI v)] (ww im lf s d k ls rf rz ra rn rq lt m1 m2 m3 m4 bd fc hd sz el t (fUp (fUp g 36 (nI (qPr t p ((qW t).getD p 0)))) 37 (nI 0)) fm hm so si sh ce ca td wa kp la (lsF (bst t m (qN t) (2 ^ qN t))) oo bo pw ow tr) (some (.int (nI B0)), (ww im lf s d k ls rf rz ra rn rq lt m1 m2 m3 m4 bd fc hd sz el t (fUp (fUp g 36 (nI (qPr t p ((qW t).getD p 0)))) 37 (nI 0)) fm hm so si sh ce ca td wa kp la (lsF (bst t m (qN t) (2 ^ qN t))) oo bo pw ow tr)) := by
            refine Ef.in (md := mX6_thrown) (L := [some (.ref 65), some (.int (nI p)), some (.int (nI v)), none]) rfl (Nat.le_of_ble_eq_true rfl) rfl ?_
            refine E_iload_n at_X6_thrown_0 rfl ?_
            refine E_aload_n at_X6_thrown_1 rfl ?_
            refine E_iload_n at_X6_thrown_2 rfl ?_
            refine E_aload_n at_X6_thrown_3 rfl ?_
            refine E_getfield (v := .ref 73) at_X6_thrown_4 w65 rfl (by decide) rfl ?_
            refine E_iload_n at_X6_thrown_7 rfl ?_
            refine E_ialN (l := qW t) (v := (qW t).getD p 0) at_X6_thrown_8 w73 (by omega) (by omega) rfl ?_
            refine E_callV (v := some (.int (nI (qPr t p ((qW t).getD p 0))))) (As := [.ref 65, .int (nI p), .int (nI ((qW t).getD p 0))]) (r0 := [.int (nI v)]) (cs2 := (ww im lf s d k ls rf rz ra rn rq lt m1 m2 m3 m4 bd fc hd sz el t (fUp (fUp g 36 (nI (qPr t p ((qW t).getD p 0)))) 37 (nI 0)) fm hm so si sh ce ca td wa kp la (lsF (bst t m (qN t) (2 ^ qN t))) oo bo pw ow tr)) at_X6_thrown_9 rfl rfl (Nat.le_of_ble_eq_true rfl) rfl (ab_rvOf w65 rfl) (mo_priceFor w_m I (by omega) (by omega)) (by decide) rfl ?_
            refine E_isub (z := nI (v - (qPr t p ((qW t).getD p 0)))) at_X6_thrown_12 (pk_sub (by omega)) ?_
            refine E_istore_n (L2 := [some (.ref 65), some (.int (nI p)), some (.int (nI v)), some (.int (nI (v - (qPr t p ((qW t).getD p 0)))))]) at_X6_thrown_13 rfl ?_
            refine E_aload_n at_X6_thrown_14 rfl ?_
            refine E_iload_n at_X6_thrown_15 rfl ?_
            refine E_iconst (x := nI 0) at_X6_thrown_16 (by decide) ?_
            refine E_bipush (x := nI 99) at_X6_thrown_17 (by decide) ?_
            have e1 : Ev ab_Z0 1 134 [.ref 65, .int (nI v), .int (nI 0), .int (nI 99)] (ww im lf s d k ls rf rz ra rn rq lt m1 m2 m3 m4 bd fc hd sz el t (fUp (fUp g 36 (nI (qPr t p ((qW t).getD p 0)))) 37 (nI 0)) fm hm so si sh ce ca td wa kp la (lsF (bst t m (qN t) (2 ^ qN t))) oo bo pw ow tr) (some (.int (nI 1)), (ww im lf s d k ls rf rz ra rn rq lt m1 m2 m3 m4 bd fc hd sz el t (fUp (fUp g 36 (nI (qPr t p ((qW t).getD p 0)))) 37 (nI 0)) fm hm so si sh ce ca td wa kp la (lsF (bst t m (qN t) (2 ^ qN t))) oo bo pw ow tr)) := by
              refine Ef.in (md := mX6_isFrom) (L := [some (.ref 65), some (.int (nI v)), some (.int (nI 0)), some (.int (nI 99))]) rfl (Nat.le_of_ble_eq_true rfl) rfl ?_
              refine E_iload_n at_X6_isFrom_0 rfl ?_
              refine E_iload_n at_X6_isFrom_1 rfl ?_
              refine E_ic (t := 14) (b := false) at_X6_isFrom_2 rfl ((cn_lt (nI_toInt (by omega)) (nI_toInt (by omega))).trans (decide_eq_false (by omega))) ?_
              refine E_iload_n at_X6_isFrom_5 rfl ?_
              refine E_iload_n at_X6_isFrom_6 rfl ?_
              refine E_ic (t := 14) (b := false) at_X6_isFrom_7 rfl ((cn_gt (nI_toInt (by omega)) (nI_toInt (by omega))).trans (decide_eq_false (by omega))) ?_
              refine E_iconst (x := nI 1) at_X6_isFrom_10 (by decide) ?_
              refine E_goto (t := 15) at_X6_isFrom_11 rfl ?_
              exact E_iret at_X6_isFrom_15 rfl
            refine E_callV (v := some (.int (nI 1))) (As := [.ref 65, .int (nI v), .int (nI 0), .int (nI 99)]) (r0 := []) (cs2 := (ww im lf s d k ls rf rz ra rn rq lt m1 m2 m3 m4 bd fc hd sz el t (fUp (fUp g 36 (nI (qPr t p ((qW t).getD p 0)))) 37 (nI 0)) fm hm so si sh ce ca td wa kp la (lsF (bst t m (qN t) (2 ^ qN t))) oo bo pw ow tr)) at_X6_thrown_19 rfl rfl (Nat.le_of_ble_eq_true rfl) rfl (ab_rvOf w65 rfl) e1 (by decide) rfl ?_
            refine E_if (t := 39) (b := false) at_X6_thrown_22 rfl (by decide) ?_
            refine E_iload_n at_X6_thrown_25 rfl ?_
            refine E_aload_n at_X6_thrown_26 rfl ?_
            refine E_getfield (v := .ref 71) at_X6_thrown_27 w65 rfl (by decide) rfl ?_
            refine E_iload_n at_X6_thrown_30 rfl ?_
            refine E_ialN (l := qU t) (v := (qU t).getD p 0) at_X6_thrown_31 w71 (by omega) (by omega) rfl ?_
            refine E_ic (t := 39) (b := false) at_X6_thrown_32 rfl ((cn_gt (nI_toInt (by omega)) (nI_toInt (by omega))).trans (decide_eq_false (by omega))) ?_
            refine E_iload_n at_X6_thrown_35 rfl ?_
            refine E_if (t := 43) (b := true) at_X6_thrown_36 rfl ((cn_ge (nI_toInt (by omega)) (by decide : (0 : Int32).toInt = 0)).trans (decide_eq_true (by omega))) ?_
            refine E_aload_n at_X6_thrown_43 rfl ?_
            refine E_iload_n at_X6_thrown_44 rfl ?_
            have e2 : Ev ab_Z0 1 172 [.ref 65, .int (nI (v - (qPr t p ((qW t).getD p 0))))] (ww im lf s d k ls rf rz ra rn rq lt m1 m2 m3 m4 bd fc hd sz el t (fUp (fUp g 36 (nI (qPr t p ((qW t).getD p 0)))) 37 (nI 0)) fm hm so si sh ce ca td wa kp la (lsF (bst t m (qN t) (2 ^ qN t))) oo bo pw ow tr) (some (.int (nI B0)), (ww im lf s d k ls rf rz ra rn rq lt m1 m2 m3 m4 bd fc hd sz el t (fUp (fUp g 36 (nI (qPr t p ((qW t).getD p 0)))) 37 (nI 0)) fm hm so si sh ce ca td wa kp la (lsF (bst t m (qN t) (2 ^ qN t))) oo bo pw ow tr)) := by
              refine Ef.in (md := mX6_changeFor) (L := [some (.ref 65), some (.int (nI (v - (qPr t p ((qW t).getD p 0)))))]) rfl (Nat.le_of_ble_eq_true rfl) rfl ?_
              refine E_aload_n at_X6_changeFor_0 rfl ?_
              refine E_getfield (v := .int (qR t)) at_X6_changeFor_1 w65 rfl (by decide) rfl ?_
              refine E_if (t := 16) (b := false) at_X6_changeFor_4 rfl ((cn_ne rfl (by decide : (0 : Int32).toInt = 0)).trans (decide_eq_false (by omega))) ?_
              refine E_aload_n at_X6_changeFor_7 rfl ?_
              refine E_getfield (v := .ref 89) at_X6_changeFor_8 w65 rfl (by decide) rfl ?_
              refine E_iload_n at_X6_changeFor_11 rfl ?_
              refine E_ialI (l := (lsF (bst t m (qN t) (2 ^ qN t)))) (v := nI B0) at_X6_changeFor_12 w89 (by omega) (by omega) (by rw [lsF_get (by omega), hb0]; rfl) ?_
              refine E_goto (t := 21) at_X6_changeFor_13 rfl ?_
              exact E_iret at_X6_changeFor_21 rfl
            refine E_callV (v := some (.int (nI B0))) (As := [.ref 65, .int (nI (v - (qPr t p ((qW t).getD p 0))))]) (r0 := []) (cs2 := (ww im lf s d k ls rf rz ra rn rq lt m1 m2 m3 m4 bd fc hd sz el t (fUp (fUp g 36 (nI (qPr t p ((qW t).getD p 0)))) 37 (nI 0)) fm hm so si sh ce ca td wa kp la (lsF (bst t m (qN t) (2 ^ qN t))) oo bo pw ow tr)) at_X6_thrown_45 rfl rfl (Nat.le_of_ble_eq_true rfl) rfl (ab_rvOf w65 rfl) e2 (by decide) rfl ?_
            exact E_iret at_X6_thrown_48 rfl
          refine E_callV (v := some (.int (nI B0))) (As := [.ref 65, .int (nI p), .int (nI v)]) (r0 := []) (cs2 := (ww im lf s d k ls rf rz ra rn rq lt m1 m2 m3 m4 bd fc hd sz el t (fUp (fUp g 36 (nI (qPr t p ((qW t).getD p 0)))) 37 (nI 0)) fm hm so si sh ce ca td wa kp la (lsF (bst t m (qN t) (2 ^ qN t))) oo bo pw ow tr)) at_X6_tellsThrow_35 rfl rfl (Nat.le_of_ble_eq_true rfl) rfl (ab_rvOf w65 rfl) e3 (by decide) rfl ?_
          refine E_istore_n (L2 := [some (.ref 65), some (.int (nI p)), some (.int (nI v)), some (.int (nI B0))]) at_X6_tellsThrow_38 rfl ?_
          refine E_iload_n at_X6_tellsThrow_39 rfl ?_
          refine E_iconst (x := (-1)) at_X6_tellsThrow_40 (by decide) ?_
          refine E_ic (t := 81) (b := false) at_X6_tellsThrow_41 rfl ((cn_eq (nI_toInt (by omega)) (by decide : (-1 : Int32).toInt = -1)).trans (decide_eq_false (by omega))) ?_
          refine E_aload_n at_X6_tellsThrow_44 rfl ?_
          refine E_getfield (v := .int (nI (qPr t p ((qW t).getD p 0)))) at_X6_tellsThrow_45 w65 rfl (by decide) rfl ?_
          refine E_iconst (x := (-1)) at_X6_tellsThrow_48 (by decide) ?_
          refine E_ic (t := 67) (b := false) at_X6_tellsThrow_49 rfl ((cn_eq (nI_toInt (by omega)) (by decide : (-1 : Int32).toInt = -1)).trans (decide_eq_false (by omega))) ?_
          refine E_aload_n rfl rfl ?_
          refine E_iload_n rfl rfl ?_
          refine E_callV (v := some (.int (nI (qHs t B0 (qN t))))) (As := [.ref 65, .int (nI B0)]) (r0 := []) (cs2 := (ww im lf s d k ls rf rz ra rn rq lt m1 m2 m3 m4 bd fc hd sz el t (fUp (fUp g 36 (nI (qPr t p ((qW t).getD p 0)))) 37 (nI 0)) fm hm so si sh ce ca td wa kp la (lsF (bst t m (qN t) (2 ^ qN t))) oo bo pw ow tr)) rfl rfl rfl (Nat.le_of_ble_eq_true rfl) rfl (ab_rvOf w65 rfl) (mo_harmOf w_m I (by omega)) (by decide) rfl ?_
          refine E_aload_n rfl rfl ?_
          refine E_getfield (v := .int (nI 0)) rfl w65 rfl (by decide) rfl ?_
          refine E_ic (t := 67) (b := false) rfl rfl ((cn_lt (nI_toInt (by omega)) (nI_toInt (by omega))).trans (decide_eq_false (by omega))) ?_
          refine E_goto (t := 81) rfl rfl ?_
          refine E_iinc (y := nI (v + 1)) (L2 := [some (.ref 65), some (.int (nI p)), some (.int (nI (v + 1))), some (.int (nI B0))]) at_X6_tellsThrow_81 rfl (nI_1 _) rfl ?_
          refine E_goto (t := 22) at_X6_tellsThrow_84 rfl ?_
          exact ih (v + 1) (some (.int (nI B0))) _ _ (by omega) (Or.inr ⟨by omega, rfl, rfl⟩)
      · rcases hg0 : qGreedy t (v - (qPr t p ((qW t).getD p 0))) with _ | gj0
        · have er2 : (qR t).toInt = 1 := by rw [er]; rfl
          have : (qU t).length = 6 := by first | omega | (simp only [List.length_set]; omega)
          have := I2 p (by omega)
          have : (qW t).length = 6 := by first | omega | (simp only [List.length_set]; omega)
          have := qPr_in I p (w := ((qW t).getD p 0)) (by omega)
          refine E_iload_n at_X6_tellsThrow_22 rfl ?_
          refine E_aload_n at_X6_tellsThrow_23 rfl ?_
          refine E_getfield (v := .ref 71) at_X6_tellsThrow_24 w65 rfl (by decide) rfl ?_
          refine E_iload_n at_X6_tellsThrow_27 rfl ?_
          refine E_ialN (l := qU t) (v := (qU t).getD p 0) at_X6_tellsThrow_28 w71 (by omega) (by omega) rfl ?_
          refine E_ic (t := 87) (b := false) at_X6_tellsThrow_29 rfl ((cn_gt (nI_toInt (by omega)) (nI_toInt (by omega))).trans (decide_eq_false (by omega))) ?_
          refine E_aload_n at_X6_tellsThrow_32 rfl ?_
          refine E_iload_n at_X6_tellsThrow_33 rfl ?_
          refine E_iload_n at_X6_tellsThrow_34 rfl ?_
          have e3 : Ev ab_Z0 4 176 [.ref 65, .int (nI p), .int (nI v)] (ww im lf s d k ls rf rz ra rn rq lt m1 m2 m3 m4 bd fc hd sz el t (fUp (fUp g 36 (nI (qPr t p ((qW t).getD p 0)))) 37 (nI 0)) fm hm so si sh ce ca td wa kp la (lsF (bst t m (qN t) (2 ^ qN t))) oo bo pw ow tr) (some (.int (-1)), (ww im lf s d k ls rf rz ra rn rq lt m1 m2 m3 m4 bd fc hd sz el t (fUp (fUp g 36 (nI (qPr t p ((qW t).getD p 0)))) 37 (nI 0)) fm hm so si sh ce ca td wa kp la (lsF (bst t m (qN t) (2 ^ qN t))) oo bo pw ow tr)) := by
            refine Ef.in (md := mX6_thrown) (L := [some (.ref 65), some (.int (nI p)), some (.int (nI v)), none]) rfl (Nat.le_of_ble_eq_true rfl) rfl ?_
            refine E_iload_n at_X6_thrown_0 rfl ?_
            refine E_aload_n at_X6_thrown_1 rfl ?_
            refine E_iload_n at_X6_thrown_2 rfl ?_
            refine E_aload_n at_X6_thrown_3 rfl ?_
            refine E_getfield (v := .ref 73) at_X6_thrown_4 w65 rfl (by decide) rfl ?_
            refine E_iload_n at_X6_thrown_7 rfl ?_
            refine E_ialN (l := qW t) (v := (qW t).getD p 0) at_X6_thrown_8 w73 (by omega) (by omega) rfl ?_
            refine E_callV (v := some (.int (nI (qPr t p ((qW t).getD p 0))))) (As := [.ref 65, .int (nI p), .int (nI ((qW t).getD p 0))]) (r0 := [.int (nI v)]) (cs2 := (ww im lf s d k ls rf rz ra rn rq lt m1 m2 m3 m4 bd fc hd sz el t (fUp (fUp g 36 (nI (qPr t p ((qW t).getD p 0)))) 37 (nI 0)) fm hm so si sh ce ca td wa kp la (lsF (bst t m (qN t) (2 ^ qN t))) oo bo pw ow tr)) at_X6_thrown_9 rfl rfl (Nat.le_of_ble_eq_true rfl) rfl (ab_rvOf w65 rfl) (mo_priceFor w_m I (by omega) (by omega)) (by decide) rfl ?_
            refine E_isub (z := nI (v - (qPr t p ((qW t).getD p 0)))) at_X6_thrown_12 (pk_sub (by omega)) ?_
            refine E_istore_n (L2 := [some (.ref 65), some (.int (nI p)), some (.int (nI v)), some (.int (nI (v - (qPr t p ((qW t).getD p 0)))))]) at_X6_thrown_13 rfl ?_
            refine E_aload_n at_X6_thrown_14 rfl ?_
            refine E_iload_n at_X6_thrown_15 rfl ?_
            refine E_iconst (x := nI 0) at_X6_thrown_16 (by decide) ?_
            refine E_bipush (x := nI 99) at_X6_thrown_17 (by decide) ?_
            have e1 : Ev ab_Z0 1 134 [.ref 65, .int (nI v), .int (nI 0), .int (nI 99)] (ww im lf s d k ls rf rz ra rn rq lt m1 m2 m3 m4 bd fc hd sz el t (fUp (fUp g 36 (nI (qPr t p ((qW t).getD p 0)))) 37 (nI 0)) fm hm so si sh ce ca td wa kp la (lsF (bst t m (qN t) (2 ^ qN t))) oo bo pw ow tr) (some (.int (nI 1)), (ww im lf s d k ls rf rz ra rn rq lt m1 m2 m3 m4 bd fc hd sz el t (fUp (fUp g 36 (nI (qPr t p ((qW t).getD p 0)))) 37 (nI 0)) fm hm so si sh ce ca td wa kp la (lsF (bst t m (qN t) (2 ^ qN t))) oo bo pw ow tr)) := by
              refine Ef.in (md := mX6_isFrom) (L := [some (.ref 65), some (.int (nI v)), some (.int (nI 0)), some (.int (nI 99))]) rfl (Nat.le_of_ble_eq_true rfl) rfl ?_
              refine E_iload_n at_X6_isFrom_0 rfl ?_
              refine E_iload_n at_X6_isFrom_1 rfl ?_
              refine E_ic (t := 14) (b := false) at_X6_isFrom_2 rfl ((cn_lt (nI_toInt (by omega)) (nI_toInt (by omega))).trans (decide_eq_false (by omega))) ?_
              refine E_iload_n at_X6_isFrom_5 rfl ?_
              refine E_iload_n at_X6_isFrom_6 rfl ?_
              refine E_ic (t := 14) (b := false) at_X6_isFrom_7 rfl ((cn_gt (nI_toInt (by omega)) (nI_toInt (by omega))).trans (decide_eq_false (by omega))) ?_
              refine E_iconst (x := nI 1) at_X6_isFrom_10 (by decide) ?_
              refine E_goto (t := 15) at_X6_isFrom_11 rfl ?_
              exact E_iret at_X6_isFrom_15 rfl
            refine E_callV (v := some (.int (nI 1))) (As := [.ref 65, .int (nI v), .int (nI 0), .int (nI 99)]) (r0 := []) (cs2 := (ww im lf s d k ls rf rz ra rn rq lt m1 m2 m3 m4 bd fc hd sz el t (fUp (fUp g 36 (nI (qPr t p ((qW t).getD p 0)))) 37 (nI 0)) fm hm so si sh ce ca td wa kp la (lsF (bst t m (qN t) (2 ^ qN t))) oo bo pw ow tr)) at_X6_thrown_19 rfl rfl (Nat.le_of_ble_eq_true rfl) rfl (ab_rvOf w65 rfl) e1 (by decide) rfl ?_
            refine E_if (t := 39) (b := false) at_X6_thrown_22 rfl (by decide) ?_
            refine E_iload_n at_X6_thrown_25 rfl ?_
            refine E_aload_n at_X6_thrown_26 rfl ?_
            refine E_getfield (v := .ref 71) at_X6_thrown_27 w65 rfl (by decide) rfl ?_
            refine E_iload_n at_X6_thrown_30 rfl ?_
            refine E_ialN (l := qU t) (v := (qU t).getD p 0) at_X6_thrown_31 w71 (by omega) (by omega) rfl ?_
            refine E_ic (t := 39) (b := false) at_X6_thrown_32 rfl ((cn_gt (nI_toInt (by omega)) (nI_toInt (by omega))).trans (decide_eq_false (by omega))) ?_
            refine E_iload_n at_X6_thrown_35 rfl ?_
            refine E_if (t := 43) (b := true) at_X6_thrown_36 rfl ((cn_ge (nI_toInt (by omega)) (by decide : (0 : Int32).toInt = 0)).trans (decide_eq_true (by omega))) ?_
            refine E_aload_n at_X6_thrown_43 rfl ?_
            refine E_iload_n at_X6_thrown_44 rfl ?_
            have e2 : Ev ab_Z0 3 172 [.ref 65, .int (nI (v - (qPr t p ((qW t).getD p 0))))] (ww im lf s d k ls rf rz ra rn rq lt m1 m2 m3 m4 bd fc hd sz el t (fUp (fUp g 36 (nI (qPr t p ((qW t).getD p 0)))) 37 (nI 0)) fm hm so si sh ce ca td wa kp la (lsF (bst t m (qN t) (2 ^ qN t))) oo bo pw ow tr) (some (.int (-1)), (ww im lf s d k ls rf rz ra rn rq lt m1 m2 m3 m4 bd fc hd sz el t (fUp (fUp g 36 (nI (qPr t p ((qW t).getD p 0)))) 37 (nI 0)) fm hm so si sh ce ca td wa kp la (lsF (bst t m (qN t) (2 ^ qN t))) oo bo pw ow tr)) := by
              refine Ef.in (md := mX6_changeFor) (L := [some (.ref 65), some (.int (nI (v - (qPr t p ((qW t).getD p 0)))))]) rfl (Nat.le_of_ble_eq_true rfl) rfl ?_
              refine E_aload_n at_X6_changeFor_0 rfl ?_
              refine E_getfield (v := .int (qR t)) at_X6_changeFor_1 w65 rfl (by decide) rfl ?_
              refine E_if (t := 16) (b := true) at_X6_changeFor_4 rfl ((cn_ne rfl (by decide : (0 : Int32).toInt = 0)).trans (decide_eq_true (by omega))) ?_
              refine E_aload_n at_X6_changeFor_16 rfl ?_
              refine E_iload_n at_X6_changeFor_17 rfl ?_
              refine E_callV (v := some (.int (-1))) (As := [.ref 65, .int (nI (v - (qPr t p ((qW t).getD p 0))))]) (r0 := []) (cs2 := (ww im lf s d k ls rf rz ra rn rq lt m1 m2 m3 m4 bd fc hd sz el t (fUp (fUp g 36 (nI (qPr t p ((qW t).getD p 0)))) 37 (nI 0)) fm hm so si sh ce ca td wa kp la (lsF (bst t m (qN t) (2 ^ qN t))) oo bo pw ow tr)) at_X6_changeFor_18 rfl rfl (Nat.le_of_ble_eq_true rfl) rfl (ab_rvOf w65 rfl) (Ev.g0 hg0 (mo_greedyFor w_m I (by omega))) (by decide) rfl ?_
              exact E_iret at_X6_changeFor_21 rfl
            refine E_callV (v := some (.int (-1))) (As := [.ref 65, .int (nI (v - (qPr t p ((qW t).getD p 0))))]) (r0 := []) (cs2 := (ww im lf s d k ls rf rz ra rn rq lt m1 m2 m3 m4 bd fc hd sz el t (fUp (fUp g 36 (nI (qPr t p ((qW t).getD p 0)))) 37 (nI 0)) fm hm so si sh ce ca td wa kp la (lsF (bst t m (qN t) (2 ^ qN t))) oo bo pw ow tr)) at_X6_thrown_45 rfl rfl (Nat.le_of_ble_eq_true rfl) rfl (ab_rvOf w65 rfl) e2 (by decide) rfl ?_
            exact E_iret at_X6_thrown_48 rfl
          refine E_callV (v := some (.int (-1))) (As := [.ref 65, .int (nI p), .int (nI v)]) (r0 := []) (cs2 := (ww im lf s d k ls rf rz ra rn rq lt m1 m2 m3 m4 bd fc hd sz el t (fUp (fUp g 36 (nI (qPr t p ((qW t).getD p 0)))) 37 (nI 0)) fm hm so si sh ce ca td wa kp la (lsF (bst t m (qN t) (2 ^ qN t))) oo bo pw ow tr)) at_X6_tellsThrow_35 rfl rfl (Nat.le_of_ble_eq_true rfl) rfl (ab_rvOf w65 rfl) e3 (by decide) rfl ?_
          refine E_istore_n (L2 := [some (.ref 65), some (.int (nI p)), some (.int (nI v)), some (.int (-1))]) at_X6_tellsThrow_38 rfl ?_
          refine E_iload_n at_X6_tellsThrow_39 rfl ?_
          refine E_iconst (x := (-1)) at_X6_tellsThrow_40 (by decide) ?_
          refine E_ic (t := 81) (b := true) at_X6_tellsThrow_41 rfl (by decide) ?_
          refine E_iinc (y := nI (v + 1)) (L2 := [some (.ref 65), some (.int (nI p)), some (.int (nI (v + 1))), some (.int (-1))]) at_X6_tellsThrow_81 rfl (nI_1 _) rfl ?_
          refine E_goto (t := 22) at_X6_tellsThrow_84 rfl ?_
          exact ih (v + 1) (some (.int (-1))) _ _ (by omega) (Or.inr ⟨by omega, rfl, rfl⟩)
        · have er2 : (qR t).toInt = 1 := by rw [er]; rfl
          have : (qU t).length = 6 := by first | omega | (simp only [List.length_set]; omega)
          have := I2 p (by omega)
          have : (qW t).length = 6 := by first | omega | (simp only [List.length_set]; omega)
          have := qPr_in I p (w := ((qW t).getD p 0)) (by omega)
          have hh0 : gj0 + 1 ≤ 512 := hg0 ▸ qGr_512 I (v - (qPr t p ((qW t).getD p 0)))
          have := qHs_le I gj0 (qN t) (Nat.le_refl _)
          refine E_iload_n at_X6_tellsThrow_22 rfl ?_
          refine E_aload_n at_X6_tellsThrow_23 rfl ?_
          refine E_getfield (v := .ref 71) at_X6_tellsThrow_24 w65 rfl (by decide) rfl ?_
          refine E_iload_n at_X6_tellsThrow_27 rfl ?_
          refine E_ialN (l := qU t) (v := (qU t).getD p 0) at_X6_tellsThrow_28 w71 (by omega) (by omega) rfl ?_
          refine E_ic (t := 87) (b := false) at_X6_tellsThrow_29 rfl ((cn_gt (nI_toInt (by omega)) (nI_toInt (by omega))).trans (decide_eq_false (by omega))) ?_
          refine E_aload_n at_X6_tellsThrow_32 rfl ?_
          refine E_iload_n at_X6_tellsThrow_33 rfl ?_
          refine E_iload_n at_X6_tellsThrow_34 rfl ?_
          have e3 : Ev ab_Z0 4 176 [.ref 65, .int (nI p), .int (nI v)] (ww im lf s d k ls rf rz ra rn rq lt m1 m2 m3 m4 bd fc hd sz el t (fUp (fUp g 36 (nI (qPr t p ((qW t).getD p 0)))) 37 (nI 0)) fm hm so si sh ce ca td wa kp la (lsF (bst t m (qN t) (2 ^ qN t))) oo bo pw ow tr) (some (.int (nI gj0)), (ww im lf s d k ls rf rz ra rn rq lt m1 m2 m3 m4 bd fc hd sz el t (fUp (fUp g 36 (nI (qPr t p ((qW t).getD p 0)))) 37 (nI 0)) fm hm so si sh ce ca td wa kp la (lsF (bst t m (qN t) (2 ^ qN t))) oo bo pw ow tr)) := by
            refine Ef.in (md := mX6_thrown) (L := [some (.ref 65), some (.int (nI p)), some (.int (nI v)), none]) rfl (Nat.le_of_ble_eq_true rfl) rfl ?_
            refine E_iload_n at_X6_thrown_0 rfl ?_
            refine E_aload_n at_X6_thrown_1 rfl ?_
            refine E_iload_n at_X6_thrown_2 rfl ?_
            refine E_aload_n at_X6_thrown_3 rfl ?_
            refine E_getfield (v := .ref 73) at_X6_thrown_4 w65 rfl (by decide) rfl ?_
            refine E_iload_n at_X6_thrown_7 rfl ?_
            refine E_ialN (l := qW t) (v := (qW t).getD p 0) at_X6_thrown_8 w73 (by omega) (by omega) rfl ?_
            refine E_callV (v := some (.int (nI (qPr t p ((qW t).getD p 0))))) (As := [.ref 65, .int (nI p), .int (nI ((qW t).getD p 0))]) (r0 := [.int (nI v)]) (cs2 := (ww im lf s d k ls rf rz ra rn rq lt m1 m2 m3 m4 bd fc hd sz el t (fUp (fUp g 36 (nI (qPr t p ((qW t).getD p 0)))) 37 (nI 0)) fm hm so si sh ce ca td wa kp la (lsF (bst t m (qN t) (2 ^ qN t))) oo bo pw ow tr)) at_X6_thrown_9 rfl rfl (Nat.le_of_ble_eq_true rfl) rfl (ab_rvOf w65 rfl) (mo_priceFor w_m I (by omega) (by omega)) (by decide) rfl ?_
            refine E_isub (z := nI (v - (qPr t p ((qW t).getD p 0)))) at_X6_thrown_12 (pk_sub (by omega)) ?_
            refine E_istore_n (L2 := [some (.ref 65), some (.int (nI p)), some (.int (nI v)), some (.int (nI (v - (qPr t p ((qW t).getD p 0)))))]) at_X6_thrown_13 rfl ?_
            refine E_aload_n at_X6_thrown_14 rfl ?_
            refine E_iload_n at_X6_thrown_15 rfl ?_
            refine E_iconst (x := nI 0) at_X6_thrown_16 (by decide) ?_
            refine E_bipush (x := nI 99) at_X6_thrown_17 (by decide) ?_
            have e1 : Ev ab_Z0 1 134 [.ref 65, .int (nI v), .int (nI 0), .int (nI 99)] (ww im lf s d k ls rf rz ra rn rq lt m1 m2 m3 m4 bd fc hd sz el t (fUp (fUp g 36 (nI (qPr t p ((qW t).getD p 0)))) 37 (nI 0)) fm hm so si sh ce ca td wa kp la (lsF (bst t m (qN t) (2 ^ qN t))) oo bo pw ow tr) (some (.int (nI 1)), (ww im lf s d k ls rf rz ra rn rq lt m1 m2 m3 m4 bd fc hd sz el t (fUp (fUp g 36 (nI (qPr t p ((qW t).getD p 0)))) 37 (nI 0)) fm hm so si sh ce ca td wa kp la (lsF (bst t m (qN t) (2 ^ qN t))) oo bo pw ow tr)) := by
              refine Ef.in (md := mX6_isFrom) (L := [some (.ref 65), some (.int (nI v)), some (.int (nI 0)), some (.int (nI 99))]) rfl (Nat.le_of_ble_eq_true rfl) rfl ?_
              refine E_iload_n at_X6_isFrom_0 rfl ?_
              refine E_iload_n at_X6_isFrom_1 rfl ?_
              refine E_ic (t := 14) (b := false) at_X6_isFrom_2 rfl ((cn_lt (nI_toInt (by omega)) (nI_toInt (by omega))).trans (decide_eq_false (by omega))) ?_
              refine E_iload_n at_X6_isFrom_5 rfl ?_
              refine E_iload_n at_X6_isFrom_6 rfl ?_
              refine E_ic (t := 14) (b := false) at_X6_isFrom_7 rfl ((cn_gt (nI_toInt (by omega)) (nI_toInt (by omega))).trans (decide_eq_false (by omega))) ?_
              refine E_iconst (x := nI 1) at_X6_isFrom_10 (by decide) ?_
              refine E_goto (t := 15) at_X6_isFrom_11 rfl ?_
              exact E_iret at_X6_isFrom_15 rfl
            refine E_callV (v := some (.int (nI 1))) (As := [.ref 65, .int (nI v), .int (nI 0), .int (nI 99)]) (r0 := []) (cs2 := (ww im lf s d k ls rf rz ra rn rq lt m1 m2 m3 m4 bd fc hd sz el t (fUp (fUp g 36 (nI (qPr t p ((qW t).getD p 0)))) 37 (nI 0)) fm hm so si sh ce ca td wa kp la (lsF (bst t m (qN t) (2 ^ qN t))) oo bo pw ow tr)) at_X6_thrown_19 rfl rfl (Nat.le_of_ble_eq_true rfl) rfl (ab_rvOf w65 rfl) e1 (by decide) rfl ?_
            refine E_if (t := 39) (b := false) at_X6_thrown_22 rfl (by decide) ?_
            refine E_iload_n at_X6_thrown_25 rfl ?_
            refine E_aload_n at_X6_thrown_26 rfl ?_
            refine E_getfield (v := .ref 71) at_X6_thrown_27 w65 rfl (by decide) rfl ?_
            refine E_iload_n at_X6_thrown_30 rfl ?_
            refine E_ialN (l := qU t) (v := (qU t).getD p 0) at_X6_thrown_31 w71 (by omega) (by omega) rfl ?_
            refine E_ic (t := 39) (b := false) at_X6_thrown_32 rfl ((cn_gt (nI_toInt (by omega)) (nI_toInt (by omega))).trans (decide_eq_false (by omega))) ?_
            refine E_iload_n at_X6_thrown_35 rfl ?_
            refine E_if (t := 43) (b := true) at_X6_thrown_36 rfl ((cn_ge (nI_toInt (by omega)) (by decide : (0 : Int32).toInt = 0)).trans (decide_eq_true (by omega))) ?_
            refine E_aload_n at_X6_thrown_43 rfl ?_
            refine E_iload_n at_X6_thrown_44 rfl ?_
            have e2 : Ev ab_Z0 3 172 [.ref 65, .int (nI (v - (qPr t p ((qW t).getD p 0))))] (ww im lf s d k ls rf rz ra rn rq lt m1 m2 m3 m4 bd fc hd sz el t (fUp (fUp g 36 (nI (qPr t p ((qW t).getD p 0)))) 37 (nI 0)) fm hm so si sh ce ca td wa kp la (lsF (bst t m (qN t) (2 ^ qN t))) oo bo pw ow tr) (some (.int (nI gj0)), (ww im lf s d k ls rf rz ra rn rq lt m1 m2 m3 m4 bd fc hd sz el t (fUp (fUp g 36 (nI (qPr t p ((qW t).getD p 0)))) 37 (nI 0)) fm hm so si sh ce ca td wa kp la (lsF (bst t m (qN t) (2 ^ qN t))) oo bo pw ow tr)) := by
              refine Ef.in (md := mX6_changeFor) (L := [some (.ref 65), some (.int (nI (v - (qPr t p ((qW t).getD p 0)))))]) rfl (Nat.le_of_ble_eq_true rfl) rfl ?_
              refine E_aload_n at_X6_changeFor_0 rfl ?_
              refine E_getfield (v := .int (qR t)) at_X6_changeFor_1 w65 rfl (by decide) rfl ?_
              refine E_if (t := 16) (b := true) at_X6_changeFor_4 rfl ((cn_ne rfl (by decide : (0 : Int32).toInt = 0)).trans (decide_eq_true (by omega))) ?_
              refine E_aload_n at_X6_changeFor_16 rfl ?_
              refine E_iload_n at_X6_changeFor_17 rfl ?_
              refine E_callV (v := some (.int (nI gj0))) (As := [.ref 65, .int (nI (v - (qPr t p ((qW t).getD p 0))))]) (r0 := []) (cs2 := (ww im lf s d k ls rf rz ra rn rq lt m1 m2 m3 m4 bd fc hd sz el t (fUp (fUp g 36 (nI (qPr t p ((qW t).getD p 0)))) 37 (nI 0)) fm hm so si sh ce ca td wa kp la (lsF (bst t m (qN t) (2 ^ qN t))) oo bo pw ow tr)) at_X6_changeFor_18 rfl rfl (Nat.le_of_ble_eq_true rfl) rfl (ab_rvOf w65 rfl) (Ev.g1 hg0 (mo_greedyFor w_m I (by omega))) (by decide) rfl ?_
              exact E_iret at_X6_changeFor_21 rfl
            refine E_callV (v := some (.int (nI gj0))) (As := [.ref 65, .int (nI (v - (qPr t p ((qW t).getD p 0))))]) (r0 := []) (cs2 := (ww im lf s d k ls rf rz ra rn rq lt m1 m2 m3 m4 bd fc hd sz el t (fUp (fUp g 36 (nI (qPr t p ((qW t).getD p 0)))) 37 (nI 0)) fm hm so si sh ce ca td wa kp la (lsF (bst t m (qN t) (2 ^ qN t))) oo bo pw ow tr)) at_X6_thrown_45 rfl rfl (Nat.le_of_ble_eq_true rfl) rfl (ab_rvOf w65 rfl) e2 (by decide) rfl ?_
            exact E_iret at_X6_thrown_48 rfl
          refine E_callV (v := some (.int (nI gj0))) (As := [.ref 65, .int (nI p), .int (nI v)]) (r0 := []) (cs2 := (ww im lf s d k ls rf rz ra rn rq lt m1 m2 m3 m4 bd fc hd sz el t (fUp (fUp g 36 (nI (qPr t p ((qW t).getD p 0)))) 37 (nI 0)) fm hm so si sh ce ca td wa kp la (lsF (bst t m (qN t) (2 ^ qN t))) oo bo pw ow tr)) at_X6_tellsThrow_35 rfl rfl (Nat.le_of_ble_eq_true rfl) rfl (ab_rvOf w65 rfl) e3 (by decide) rfl ?_
          refine E_istore_n (L2 := [some (.ref 65), some (.int (nI p)), some (.int (nI v)), some (.int (nI gj0))]) at_X6_tellsThrow_38 rfl ?_
          refine E_iload_n at_X6_tellsThrow_39 rfl ?_
          refine E_iconst (x := (-1)) at_X6_tellsThrow_40 (by decide) ?_
          refine E_ic (t := 81) (b := false) at_X6_tellsThrow_41 rfl ((cn_eq (nI_toInt (by omega)) (by decide : (-1 : Int32).toInt = -1)).trans (decide_eq_false (by omega))) ?_
          refine E_aload_n at_X6_tellsThrow_44 rfl ?_
          refine E_getfield (v := .int (nI (qPr t p ((qW t).getD p 0)))) at_X6_tellsThrow_45 w65 rfl (by decide) rfl ?_
          refine E_iconst (x := (-1)) at_X6_tellsThrow_48 (by decide) ?_
          refine E_ic (t := 67) (b := false) at_X6_tellsThrow_49 rfl ((cn_eq (nI_toInt (by omega)) (by decide : (-1 : Int32).toInt = -1)).trans (decide_eq_false (by omega))) ?_
          refine E_aload_n rfl rfl ?_
          refine E_iload_n rfl rfl ?_
          refine E_callV (v := some (.int (nI (qHs t gj0 (qN t))))) (As := [.ref 65, .int (nI gj0)]) (r0 := []) (cs2 := (ww im lf s d k ls rf rz ra rn rq lt m1 m2 m3 m4 bd fc hd sz el t (fUp (fUp g 36 (nI (qPr t p ((qW t).getD p 0)))) 37 (nI 0)) fm hm so si sh ce ca td wa kp la (lsF (bst t m (qN t) (2 ^ qN t))) oo bo pw ow tr)) rfl rfl rfl (Nat.le_of_ble_eq_true rfl) rfl (ab_rvOf w65 rfl) (mo_harmOf w_m I (by omega)) (by decide) rfl ?_
          refine E_aload_n rfl rfl ?_
          refine E_getfield (v := .int (nI 0)) rfl w65 rfl (by decide) rfl ?_
          refine E_ic (t := 67) (b := false) rfl rfl ((cn_lt (nI_toInt (by omega)) (nI_toInt (by omega))).trans (decide_eq_false (by omega))) ?_
          refine E_goto (t := 81) rfl rfl ?_
          refine E_iinc (y := nI (v + 1)) (L2 := [some (.ref 65), some (.int (nI p)), some (.int (nI (v + 1))), some (.int (nI gj0))]) at_X6_tellsThrow_81 rfl (nI_1 _) rfl ?_
          refine E_goto (t := 22) at_X6_tellsThrow_84 rfl ?_
          exact ih (v + 1) (some (.int (nI gj0))) _ _ (by omega) (Or.inr ⟨by omega, rfl, rfl⟩)
theorem w_throw {p : Nat} (I : qI t) (hp : p < qM t) (l_bf : bf.length = 100) : Ev ab_Z0 5 177 [.ref 65, .int (nI p)] (ww im lf s d k ls rf rz ra rn rq lt m1 m2 m3 m4 bd fc hd sz el t g fm hm so si sh ce ca td wa kp la bf oo bo pw ow tr) (none, (ww im lf s d k ls rf rz ra rn rq lt m1 m2 m3 m4 bd fc hd sz el t (fUp (fUp g 36 (thA t p)) 37 (thB t p)) fm hm so si sh ce ca td wa kp la (lsF (bst t (qPs t 99 (qN t)) (qN t) (2 ^ qN t))) oo bo pw ow tr)) := by
  obtain ⟨⟨i0, i1, i2, i3⟩, ⟨i4, i5, i6, i7, i8⟩, ⟨i9, i10⟩, I1, I2, I3, I4⟩ := id I
  have wp := (I2 p hp).2.2
  have up := (I2 p hp).1
  have pi := qPr_in I p (w := (qW t).getD p 0) (by omega)
  refine Ef.in (md := mX6_tellsThrow) (L := [some (.ref 65), some (.int (nI p)), none, none]) rfl (Nat.le_of_ble_eq_true rfl) rfl ?_
  have := qPs_in t 99 (i := qN t) (by omega)
  refine E_aload_n rfl rfl ?_
  refine E_aload_n rfl rfl ?_
  refine E_bipush (x := nI 99) rfl (by decide) ?_
  refine E_callV (v := some (.int (nI (qPs t 99 (qN t))))) (As := [.ref 65, .int (nI 99)]) (r0 := [.ref 65]) (cs2 := (ww im lf s d k ls rf rz ra rn rq lt m1 m2 m3 m4 bd fc hd sz el t g fm hm so si sh ce ca td wa kp la bf oo bo pw ow tr)) rfl rfl rfl (Nat.le_of_ble_eq_true rfl) rfl (ab_rvOf w65 rfl) (mo_piecesOf w_m I (by omega)) (by decide) rfl ?_
  refine E_callV (v := none) (As := [.ref 65, .int (nI (qPs t 99 (qN t)))]) (r0 := []) (cs2 := (ww im lf s d k ls rf rz ra rn rq lt m1 m2 m3 m4 bd fc hd sz el t g fm hm so si sh ce ca td wa kp la (lsF (bst t (qPs t 99 (qN t)) (qN t) (2 ^ qN t))) oo bo pw ow tr)) rfl rfl rfl (Nat.le_of_ble_eq_true rfl) rfl (ab_rvOf w65 rfl) (w_best (m := qPs t 99 (qN t)) I (by omega) l_bf) (by decide) w_lens ?_
  refine E_aload_n rfl rfl ?_
  refine E_iconst (x := (-1)) rfl (by decide) ?_
  refine E_putfield (cs2 := (ww im lf s d k ls rf rz ra rn rq lt m1 m2 m3 m4 bd fc hd sz el t (fUp g 36 (-1)) fm hm so si sh ce ca td wa kp la (lsF (bst t (qPs t 99 (qN t)) (qN t) (2 ^ qN t))) oo bo pw ow tr)) rfl w65 rfl (by decide) (Nat.le_of_ble_eq_true rfl) rfl rfl rfl w_pt65_36 ?_
  refine E_aload_n rfl rfl ?_
  refine E_iconst (x := (-1)) rfl (by decide) ?_
  refine E_putfield (cs2 := (ww im lf s d k ls rf rz ra rn rq lt m1 m2 m3 m4 bd fc hd sz el t (fUp (fUp g 36 (-1)) 37 (-1)) fm hm so si sh ce ca td wa kp la (lsF (bst t (qPs t 99 (qN t)) (qN t) (2 ^ qN t))) oo bo pw ow tr)) rfl w65 rfl (by decide) (Nat.le_of_ble_eq_true rfl) rfl rfl rfl w_pt65_37 ?_
  refine E_iconst (x := nI 0) rfl (by decide) ?_
  refine E_istore_n (L2 := [some (.ref 65), some (.int (nI p)), some (.int (nI 0)), none]) rfl rfl ?_
  exact throw_l I hp ((qU t).getD p 0 + 1) 0 none _ _ (Nat.zero_add _) (Or.inl ⟨Nat.zero_le _, rfl, rfl⟩)
end TT
