/-! the reference weighs set by set; by program (wip/tools/mk68.py) -/
theorem nI_and (a b : Nat) : nI a &&& nI b = nI (a &&& b) := by
  apply Int32.toBitVec_inj.mp
  apply BitVec.eq_of_getLsbD_eq
  intro i hi
  show (BitVec.ofNat 32 a &&& BitVec.ofNat 32 b).getLsbD i = (BitVec.ofNat 32 (a &&& b)).getLsbD i
  rw [BitVec.getLsbD_and, BitVec.getLsbD_ofNat, BitVec.getLsbD_ofNat, BitVec.getLsbD_ofNat, Nat.testBit_and, decide_eq_true hi, Bool.true_and, Bool.true_and, Bool.true_and]
theorem qWs_le {s : ab_q} (I : qI s) (S : Nat) : ∀ i, i ≤ qN s → qWs s S i ≤ 59 * i
  | 0, _ => Nat.le_refl _
  | i + 1, h => by
    have ih := qWs_le I S i (by omega)
    have := qWorth_in I (x := i) (by omega)
    show qWs s S i + (if _ then _ else _) ≤ _
    split <;> omega
theorem qMany_hi {S n : Nat} (h : S < 2 ^ n) : ∀ k, qMany S (n + k) = qMany S n
  | 0 => rfl
  | k + 1 => by
    show qMany S (n + k) + qBit S (n + k) = _
    rw [qMany_hi h k, qBit_0 (Nat.lt_of_lt_of_le h (Nat.pow_le_pow_right (by decide) (Nat.le_add_right n k))), Nat.add_zero]
theorem bst_skip {s : ab_q} {m n S : Nat} (h : ∀ c, c < 100 → S &&& m = S → qWs s S n = c → ¬ (bst s m n S c = 0 ∨ kAt s S n < kAt s (bst s m n S c - 1) n)) : lsF (bst s m n (S + 1)) = lsF (bst s m n S) := lsF_ext (fun c hc => if_neg (fun q => h c hc q.1 q.2.1 q.2.2))
theorem bst_put {s : ab_q} {m n S : Nat} (h9 : qWs s S n < 100) (h1 : S &&& m = S) (h2 : bst s m n S (qWs s S n) = 0 ∨ kAt s S n < kAt s (bst s m n S (qWs s S n) - 1) n) : (lsF (bst s m n S)).set (qWs s S n) (nI S) = lsF (bst s m n (S + 1)) := by
  have e : bst s m n (S + 1) (qWs s S n) = S + 1 := if_pos ⟨h1, rfl, h2⟩
  have := lsF_set (f := bst s m n S) (h := bst s m n (S + 1)) h9 (fun c _ hc => (if_neg (fun q => hc q.2.1.symm)).symm)
  rw [e] at this
  exact this
theorem kAt_and {s : ab_q} (I : qI s) {B : Nat} (h : B < 2 ^ qN s) : nI (kAt s B (qN s)) &&& nI 1023 = nI B := by
  rw [nI_and, Nat.and_two_pow_sub_one_eq_mod _ 10]
  exact congrArg nI (kAt_bits I h).1
theorem bst_z {s : ab_q} {m n : Nat} : List.replicate 100 (-1 : Int32) = lsF (bst s m n 0) := by
  show _ = (List.range 100).map (fun c => qE 0)
  decide
section TB
variable {im : Int32} {lf : Int32} {s : ab_q} {d : ab_q} {k : ab_q} {ls : List Int32} {rf : Int32} {rz : Int32} {ra : Int32} {rn : Int32} {rq : ab_q} {lt : List Int32} {m1 : Int32} {m2 : Int32} {m3 : Int32} {m4 : Int32} {bd : List Int32} {fc : List Int32} {hd : Nat → Int32} {sz : Nat → Int32} {el : Nat → List Int64} {t : ab_q} {g : Nat → Int32} {fm : List Int32} {hm : List Nat} {so : List Nat} {si : List Nat} {sh : List Int32} {ce : List Int64} {ca : List Int64} {td : List Int32} {wa : List Int32} {kp : List Int32} {la : List Int32} {bf : List Int32} {oo : List Int32} {bo : List Int32} {pw : List Int32} {ow : List Int32} {tr : List Int32}
set_option maxHeartbeats 2000000 in
theorem best_l {m : Nat} (I : qI t) (hM : m < 2147483648) : ∀ n0 S x3 x4 x5, S + n0 = 2 ^ qN t → Ef ab_Z0 2 mX6_tellsBest (23, [some (.ref 65), some (.int (nI m)), some (.int (nI S)), x3, x4, x5], [], (ww im lf s d k ls rf rz ra rn rq lt m1 m2 m3 m4 bd fc hd sz el t g fm hm so si sh ce ca td wa kp la (lsF (bst t m (qN t) S)) oo bo pw ow tr)) (none, (ww im lf s d k ls rf rz ra rn rq lt m1 m2 m3 m4 bd fc hd sz el t g fm hm so si sh ce ca td wa kp la (lsF (bst t m (qN t) (2 ^ qN t))) oo bo pw ow tr)) := by
  intro n0
  induction n0 with
  | zero =>
    intro S x3 x4 x5 hi
    have hi : S = 2 ^ qN t := hi
    rw [hi]
    have h9 := I.2.2.1.1
    have p9 : 2 ^ qN t ≤ 2 ^ 9 := Nat.pow_le_pow_right (by decide) h9
    refine E_iload_n at_X6_tellsBest_23 rfl ?_
    refine E_iconst (x := nI 1) at_X6_tellsBest_24 (by decide) ?_
    refine E_aload_n at_X6_tellsBest_25 rfl ?_
    refine E_getfield (v := .int (nI (qN t))) at_X6_tellsBest_26 w65 rfl (by decide) rfl ?_
    refine E_ishl (z := nI (2 ^ qN t)) at_X6_tellsBest_29 (ab_shl (by omega)) ?_
    refine E_ic (t := 127) (b := true) at_X6_tellsBest_30 rfl ((cn_ge (nI_toInt (by omega)) (nI_toInt (by omega))).trans (decide_eq_true (by omega))) ?_
    exact E_vret rfl rfl
  | succ n0 ih =>
    intro S x3 x4 x5 hi
    by_cases f0 : (S &&& m) = S
    · by_cases f1 : 99 < (qWs t S (qN t))
      · have h9 := I.2.2.1.1
        have p9 : 2 ^ qN t ≤ 2 ^ 9 := Nat.pow_le_pow_right (by decide) h9
        have a0 := Nat.and_le_left (n := S) (m := m)
        have := qWs_le I S (qN t) (Nat.le_refl _)
        refine E_iload_n at_X6_tellsBest_23 rfl ?_
        refine E_iconst (x := nI 1) at_X6_tellsBest_24 (by decide) ?_
        refine E_aload_n at_X6_tellsBest_25 rfl ?_
        refine E_getfield (v := .int (nI (qN t))) at_X6_tellsBest_26 w65 rfl (by decide) rfl ?_
        refine E_ishl (z := nI (2 ^ qN t)) at_X6_tellsBest_29 (ab_shl (by omega)) ?_
        refine E_ic (t := 127) (b := false) at_X6_tellsBest_30 rfl ((cn_ge (nI_toInt (by omega)) (nI_toInt (by omega))).trans (decide_eq_false (by omega))) ?_
        refine E_iload_n at_X6_tellsBest_33 rfl ?_
        refine E_iload_n at_X6_tellsBest_34 rfl ?_
        refine E_iand (z := nI (S &&& m)) at_X6_tellsBest_35 (nI_and _ _) ?_
        refine E_iload_n at_X6_tellsBest_36 rfl ?_
        refine E_ic (t := 43) (b := true) at_X6_tellsBest_37 rfl ((cn_eq (nI_toInt (by omega)) (nI_toInt (by omega))).trans (decide_eq_true (by omega))) ?_
        refine E_aload_n at_X6_tellsBest_43 rfl ?_
        refine E_iload_n at_X6_tellsBest_44 rfl ?_
        refine E_callV (v := some (.int (nI (qWs t S (qN t))))) (As := [.ref 65, .int (nI S)]) (r0 := []) (cs2 := (ww im lf s d k ls rf rz ra rn rq lt m1 m2 m3 m4 bd fc hd sz el t g fm hm so si sh ce ca td wa kp la (lsF (bst t m (qN t) S)) oo bo pw ow tr)) at_X6_tellsBest_45 rfl rfl (Nat.le_of_ble_eq_true rfl) rfl (ab_rvOf w65 rfl) (mo_worthOf w_m I (by omega)) (by decide) rfl ?_
        refine E_istore_n (L2 := [some (.ref 65), some (.int (nI m)), some (.int (nI S)), some (.int (nI (qWs t S (qN t)))), x4, x5]) at_X6_tellsBest_48 rfl ?_
        refine E_iload_n at_X6_tellsBest_49 rfl ?_
        refine E_bipush (x := nI 99) at_X6_tellsBest_50 (by decide) ?_
        refine E_ic (t := 58) (b := false) at_X6_tellsBest_52 rfl ((cn_le (nI_toInt (by omega)) (nI_toInt (by omega))).trans (decide_eq_false (by omega))) ?_
        refine E_goto (t := 121) rfl rfl ?_
        refine E_iinc (y := nI (S + 1)) (L2 := [some (.ref 65), some (.int (nI m)), some (.int (nI (S + 1))), some (.int (nI (qWs t S (qN t)))), x4, x5]) at_X6_tellsBest_121 rfl (nI_1 _) rfl ?_
        refine E_goto (t := 23) at_X6_tellsBest_124 rfl ?_
        have X := ih (S + 1) (some (.int (nI (qWs t S (qN t))))) (x4) (x5) (by omega)
        rw [bst_skip (fun c hc a b => by omega)] at X
        exact X
      · rcases h0 : bst t m (qN t) S (qWs t S (qN t)) with _ | j
        · have h9 := I.2.2.1.1
          have p9 : 2 ^ qN t ≤ 2 ^ 9 := Nat.pow_le_pow_right (by decide) h9
          have a0 := Nat.and_le_left (n := S) (m := m)
          have := qWs_le I S (qN t) (Nat.le_refl _)
          have := lsF_len (bst t m (qN t) S)
          refine E_iload_n at_X6_tellsBest_23 rfl ?_
          refine E_iconst (x := nI 1) at_X6_tellsBest_24 (by decide) ?_
          refine E_aload_n at_X6_tellsBest_25 rfl ?_
          refine E_getfield (v := .int (nI (qN t))) at_X6_tellsBest_26 w65 rfl (by decide) rfl ?_
          refine E_ishl (z := nI (2 ^ qN t)) at_X6_tellsBest_29 (ab_shl (by omega)) ?_
          refine E_ic (t := 127) (b := false) at_X6_tellsBest_30 rfl ((cn_ge (nI_toInt (by omega)) (nI_toInt (by omega))).trans (decide_eq_false (by omega))) ?_
          refine E_iload_n at_X6_tellsBest_33 rfl ?_
          refine E_iload_n at_X6_tellsBest_34 rfl ?_
          refine E_iand (z := nI (S &&& m)) at_X6_tellsBest_35 (nI_and _ _) ?_
          refine E_iload_n at_X6_tellsBest_36 rfl ?_
          refine E_ic (t := 43) (b := true) at_X6_tellsBest_37 rfl ((cn_eq (nI_toInt (by omega)) (nI_toInt (by omega))).trans (decide_eq_true (by omega))) ?_
          refine E_aload_n at_X6_tellsBest_43 rfl ?_
          refine E_iload_n at_X6_tellsBest_44 rfl ?_
          refine E_callV (v := some (.int (nI (qWs t S (qN t))))) (As := [.ref 65, .int (nI S)]) (r0 := []) (cs2 := (ww im lf s d k ls rf rz ra rn rq lt m1 m2 m3 m4 bd fc hd sz el t g fm hm so si sh ce ca td wa kp la (lsF (bst t m (qN t) S)) oo bo pw ow tr)) at_X6_tellsBest_45 rfl rfl (Nat.le_of_ble_eq_true rfl) rfl (ab_rvOf w65 rfl) (mo_worthOf w_m I (by omega)) (by decide) rfl ?_
          refine E_istore_n (L2 := [some (.ref 65), some (.int (nI m)), some (.int (nI S)), some (.int (nI (qWs t S (qN t)))), x4, x5]) at_X6_tellsBest_48 rfl ?_
          refine E_iload_n at_X6_tellsBest_49 rfl ?_
          refine E_bipush (x := nI 99) at_X6_tellsBest_50 (by decide) ?_
          refine E_ic (t := 58) (b := true) at_X6_tellsBest_52 rfl ((cn_le (nI_toInt (by omega)) (nI_toInt (by omega))).trans (decide_eq_true (by omega))) ?_
          refine E_aload_n at_X6_tellsBest_58 rfl ?_
          refine E_getfield (v := .ref 89) at_X6_tellsBest_59 w65 rfl (by decide) rfl ?_
          refine E_iload_n at_X6_tellsBest_62 rfl ?_
          refine E_ialI (l := (lsF (bst t m (qN t) S))) (v := (-1)) at_X6_tellsBest_63 w89 (by omega) (by omega) (by rw [lsF_get (by omega), h0]; rfl) ?_
          refine E_istore (L2 := [some (.ref 65), some (.int (nI m)), some (.int (nI S)), some (.int (nI (qWs t S (qN t)))), some (.int (-1)), x5]) at_X6_tellsBest_64 rfl ?_
          refine E_iload at_X6_tellsBest_66 rfl ?_
          refine E_iconst (x := (-1)) at_X6_tellsBest_68 (by decide) ?_
          refine E_ic (t := 76) (b := false) at_X6_tellsBest_69 rfl (by decide) ?_
          refine E_iconst (x := nI 1) rfl (by decide) ?_
          refine E_goto (t := 88) rfl rfl ?_
          refine E_istore (L2 := [some (.ref 65), some (.int (nI m)), some (.int (nI S)), some (.int (nI (qWs t S (qN t)))), some (.int (-1)), some (.int (nI 1))]) at_X6_tellsBest_88 rfl ?_
          refine E_iload at_X6_tellsBest_90 rfl ?_
          refine E_if (t := 114) (b := true) at_X6_tellsBest_92 rfl (by decide) ?_
          refine E_aload_n rfl rfl ?_
          refine E_getfield (v := .ref 89) rfl w65 rfl (by decide) rfl ?_
          refine E_iload_n rfl rfl ?_
          refine E_iload_n rfl rfl ?_
          refine E_iasI (l := (lsF (bst t m (qN t) S))) (cs2 := (ww im lf s d k ls rf rz ra rn rq lt m1 m2 m3 m4 bd fc hd sz el t g fm hm so si sh ce ca td wa kp la ((lsF (bst t m (qN t) S)).set (qWs t S (qN t)) (nI S)) oo bo pw ow tr)) rfl w89 (by omega) (by omega) rfl ?_
          refine E_iinc (y := nI (S + 1)) (L2 := [some (.ref 65), some (.int (nI m)), some (.int (nI (S + 1))), some (.int (nI (qWs t S (qN t)))), some (.int (-1)), some (.int (nI 1))]) at_X6_tellsBest_121 rfl (nI_1 _) rfl ?_
          refine E_goto (t := 23) at_X6_tellsBest_124 rfl ?_
          have X := ih (S + 1) (some (.int (nI (qWs t S (qN t))))) (some (.int (-1))) (some (.int (nI 1))) (by omega)
          rw [← bst_put (by omega) (by omega) (Or.inl h0)] at X
          exact X
        · by_cases f3 : (qMany S 9) < (qMany j 9)
          · have h9 := I.2.2.1.1
            have p9 : 2 ^ qN t ≤ 2 ^ 9 := Nat.pow_le_pow_right (by decide) h9
            have a0 := Nat.and_le_left (n := S) (m := m)
            have := qWs_le I S (qN t) (Nat.le_refl _)
            have := lsF_len (bst t m (qN t) S)
            have b0 := bst_in _ _ _ h0
            have := qMany_in j 9
            have := qMany_in S 9
            refine E_iload_n at_X6_tellsBest_23 rfl ?_
            refine E_iconst (x := nI 1) at_X6_tellsBest_24 (by decide) ?_
            refine E_aload_n at_X6_tellsBest_25 rfl ?_
            refine E_getfield (v := .int (nI (qN t))) at_X6_tellsBest_26 w65 rfl (by decide) rfl ?_
            refine E_ishl (z := nI (2 ^ qN t)) at_X6_tellsBest_29 (ab_shl (by omega)) ?_
            refine E_ic (t := 127) (b := false) at_X6_tellsBest_30 rfl ((cn_ge (nI_toInt (by omega)) (nI_toInt (by omega))).trans (decide_eq_false (by omega))) ?_
            refine E_iload_n at_X6_tellsBest_33 rfl ?_
            refine E_iload_n at_X6_tellsBest_34 rfl ?_
            refine E_iand (z := nI (S &&& m)) at_X6_tellsBest_35 (nI_and _ _) ?_
            refine E_iload_n at_X6_tellsBest_36 rfl ?_
            refine E_ic (t := 43) (b := true) at_X6_tellsBest_37 rfl ((cn_eq (nI_toInt (by omega)) (nI_toInt (by omega))).trans (decide_eq_true (by omega))) ?_
            refine E_aload_n at_X6_tellsBest_43 rfl ?_
            refine E_iload_n at_X6_tellsBest_44 rfl ?_
            refine E_callV (v := some (.int (nI (qWs t S (qN t))))) (As := [.ref 65, .int (nI S)]) (r0 := []) (cs2 := (ww im lf s d k ls rf rz ra rn rq lt m1 m2 m3 m4 bd fc hd sz el t g fm hm so si sh ce ca td wa kp la (lsF (bst t m (qN t) S)) oo bo pw ow tr)) at_X6_tellsBest_45 rfl rfl (Nat.le_of_ble_eq_true rfl) rfl (ab_rvOf w65 rfl) (mo_worthOf w_m I (by omega)) (by decide) rfl ?_
            refine E_istore_n (L2 := [some (.ref 65), some (.int (nI m)), some (.int (nI S)), some (.int (nI (qWs t S (qN t)))), x4, x5]) at_X6_tellsBest_48 rfl ?_
            refine E_iload_n at_X6_tellsBest_49 rfl ?_
            refine E_bipush (x := nI 99) at_X6_tellsBest_50 (by decide) ?_
            refine E_ic (t := 58) (b := true) at_X6_tellsBest_52 rfl ((cn_le (nI_toInt (by omega)) (nI_toInt (by omega))).trans (decide_eq_true (by omega))) ?_
            refine E_aload_n at_X6_tellsBest_58 rfl ?_
            refine E_getfield (v := .ref 89) at_X6_tellsBest_59 w65 rfl (by decide) rfl ?_
            refine E_iload_n at_X6_tellsBest_62 rfl ?_
            refine E_ialI (l := (lsF (bst t m (qN t) S))) (v := nI j) at_X6_tellsBest_63 w89 (by omega) (by omega) (by rw [lsF_get (by omega), h0]; rfl) ?_
            refine E_istore (L2 := [some (.ref 65), some (.int (nI m)), some (.int (nI S)), some (.int (nI (qWs t S (qN t)))), some (.int (nI j)), x5]) at_X6_tellsBest_64 rfl ?_
            refine E_iload at_X6_tellsBest_66 rfl ?_
            refine E_iconst (x := (-1)) at_X6_tellsBest_68 (by decide) ?_
            refine E_ic (t := 76) (b := true) at_X6_tellsBest_69 rfl ((cn_ne (nI_toInt (by omega)) (by decide : (-1 : Int32).toInt = -1)).trans (decide_eq_true (by omega))) ?_
            refine E_aload_n at_X6_tellsBest_76 rfl ?_
            refine E_iload at_X6_tellsBest_77 rfl ?_
            refine E_callV (v := some (.int (nI (qMany j 9)))) (As := [.ref 65, .int (nI j)]) (r0 := []) (cs2 := (ww im lf s d k ls rf rz ra rn rq lt m1 m2 m3 m4 bd fc hd sz el t g fm hm so si sh ce ca td wa kp la (lsF (bst t m (qN t) S)) oo bo pw ow tr)) at_X6_tellsBest_79 rfl rfl (Nat.le_of_ble_eq_true rfl) rfl (ab_rvOf w65 rfl) (mo_many w_m I (by omega)) (by decide) rfl ?_
            refine E_aload_n at_X6_tellsBest_82 rfl ?_
            refine E_iload_n at_X6_tellsBest_83 rfl ?_
            refine E_callV (v := some (.int (nI (qMany S 9)))) (As := [.ref 65, .int (nI S)]) (r0 := [.int (nI (qMany j 9))]) (cs2 := (ww im lf s d k ls rf rz ra rn rq lt m1 m2 m3 m4 bd fc hd sz el t g fm hm so si sh ce ca td wa kp la (lsF (bst t m (qN t) S)) oo bo pw ow tr)) at_X6_tellsBest_84 rfl rfl (Nat.le_of_ble_eq_true rfl) rfl (ab_rvOf w65 rfl) (mo_many w_m I (by omega)) (by decide) rfl ?_
            refine E_isub (z := nI ((qMany j 9) - (qMany S 9))) at_X6_tellsBest_87 (pk_sub (by omega)) ?_
            refine E_istore (L2 := [some (.ref 65), some (.int (nI m)), some (.int (nI S)), some (.int (nI (qWs t S (qN t)))), some (.int (nI j)), some (.int (nI ((qMany j 9) - (qMany S 9))))]) at_X6_tellsBest_88 rfl ?_
            refine E_iload at_X6_tellsBest_90 rfl ?_
            refine E_if (t := 114) (b := true) at_X6_tellsBest_92 rfl ((cn_gt (nI_toInt (by omega)) (by decide : (0 : Int32).toInt = 0)).trans (decide_eq_true (by omega))) ?_
            refine E_aload_n rfl rfl ?_
            refine E_getfield (v := .ref 89) rfl w65 rfl (by decide) rfl ?_
            refine E_iload_n rfl rfl ?_
            refine E_iload_n rfl rfl ?_
            refine E_iasI (l := (lsF (bst t m (qN t) S))) (cs2 := (ww im lf s d k ls rf rz ra rn rq lt m1 m2 m3 m4 bd fc hd sz el t g fm hm so si sh ce ca td wa kp la ((lsF (bst t m (qN t) S)).set (qWs t S (qN t)) (nI S)) oo bo pw ow tr)) rfl w89 (by omega) (by omega) rfl ?_
            refine E_iinc (y := nI (S + 1)) (L2 := [some (.ref 65), some (.int (nI m)), some (.int (nI (S + 1))), some (.int (nI (qWs t S (qN t)))), some (.int (nI j)), some (.int (nI ((qMany j 9) - (qMany S 9))))]) at_X6_tellsBest_121 rfl (nI_1 _) rfl ?_
            refine E_goto (t := 23) at_X6_tellsBest_124 rfl ?_
            have X := ih (S + 1) (some (.int (nI (qWs t S (qN t))))) (some (.int (nI j))) (some (.int (nI ((qMany j 9) - (qMany S 9))))) (by omega)
            have v1 := qHs_le I S (qN t) (Nat.le_refl _)
            have v2 := qHs_le I j (qN t) (Nat.le_refl _)
            have u1 : qMany S 9 = qMany S (qN t) := (congrArg (qMany S) (show 9 = qN t + (9 - qN t) by omega)).trans (qMany_hi (by omega) _)
            have u2 : qMany j 9 = qMany j (qN t) := (congrArg (qMany j) (show 9 = qN t + (9 - qN t) by omega)).trans (qMany_hi (by omega) _)
            rw [← bst_put (by omega) (by omega) (Or.inr (by rw [h0, Nat.add_sub_cancel]; unfold kAt; omega))] at X
            exact X
          · by_cases f4 : (qMany j 9) = (qMany S 9)
            · by_cases f5 : (qHs t S (qN t)) < (qHs t j (qN t))
              · have h9 := I.2.2.1.1
                have p9 : 2 ^ qN t ≤ 2 ^ 9 := Nat.pow_le_pow_right (by decide) h9
                have a0 := Nat.and_le_left (n := S) (m := m)
                have := qWs_le I S (qN t) (Nat.le_refl _)
                have := lsF_len (bst t m (qN t) S)
                have b0 := bst_in _ _ _ h0
                have := qMany_in j 9
                have := qMany_in S 9
                have := qHs_le I S (qN t) (Nat.le_refl _)
                have := qHs_le I j (qN t) (Nat.le_refl _)
                refine E_iload_n at_X6_tellsBest_23 rfl ?_
                refine E_iconst (x := nI 1) at_X6_tellsBest_24 (by decide) ?_
                refine E_aload_n at_X6_tellsBest_25 rfl ?_
                refine E_getfield (v := .int (nI (qN t))) at_X6_tellsBest_26 w65 rfl (by decide) rfl ?_
                refine E_ishl (z := nI (2 ^ qN t)) at_X6_tellsBest_29 (ab_shl (by omega)) ?_
                refine E_ic (t := 127) (b := false) at_X6_tellsBest_30 rfl ((cn_ge (nI_toInt (by omega)) (nI_toInt (by omega))).trans (decide_eq_false (by omega))) ?_
                refine E_iload_n at_X6_tellsBest_33 rfl ?_
                refine E_iload_n at_X6_tellsBest_34 rfl ?_
                refine E_iand (z := nI (S &&& m)) at_X6_tellsBest_35 (nI_and _ _) ?_
                refine E_iload_n at_X6_tellsBest_36 rfl ?_
                refine E_ic (t := 43) (b := true) at_X6_tellsBest_37 rfl ((cn_eq (nI_toInt (by omega)) (nI_toInt (by omega))).trans (decide_eq_true (by omega))) ?_
                refine E_aload_n at_X6_tellsBest_43 rfl ?_
                refine E_iload_n at_X6_tellsBest_44 rfl ?_
                refine E_callV (v := some (.int (nI (qWs t S (qN t))))) (As := [.ref 65, .int (nI S)]) (r0 := []) (cs2 := (ww im lf s d k ls rf rz ra rn rq lt m1 m2 m3 m4 bd fc hd sz el t g fm hm so si sh ce ca td wa kp la (lsF (bst t m (qN t) S)) oo bo pw ow tr)) at_X6_tellsBest_45 rfl rfl (Nat.le_of_ble_eq_true rfl) rfl (ab_rvOf w65 rfl) (mo_worthOf w_m I (by omega)) (by decide) rfl ?_
                refine E_istore_n (L2 := [some (.ref 65), some (.int (nI m)), some (.int (nI S)), some (.int (nI (qWs t S (qN t)))), x4, x5]) at_X6_tellsBest_48 rfl ?_
                refine E_iload_n at_X6_tellsBest_49 rfl ?_
                refine E_bipush (x := nI 99) at_X6_tellsBest_50 (by decide) ?_
                refine E_ic (t := 58) (b := true) at_X6_tellsBest_52 rfl ((cn_le (nI_toInt (by omega)) (nI_toInt (by omega))).trans (decide_eq_true (by omega))) ?_
                refine E_aload_n at_X6_tellsBest_58 rfl ?_
                refine E_getfield (v := .ref 89) at_X6_tellsBest_59 w65 rfl (by decide) rfl ?_
                refine E_iload_n at_X6_tellsBest_62 rfl ?_
                refine E_ialI (l := (lsF (bst t m (qN t) S))) (v := nI j) at_X6_tellsBest_63 w89 (by omega) (by omega) (by rw [lsF_get (by omega), h0]; rfl) ?_
                refine E_istore (L2 := [some (.ref 65), some (.int (nI m)), some (.int (nI S)), some (.int (nI (qWs t S (qN t)))), some (.int (nI j)), x5]) at_X6_tellsBest_64 rfl ?_
                refine E_iload at_X6_tellsBest_66 rfl ?_
                refine E_iconst (x := (-1)) at_X6_tellsBest_68 (by decide) ?_
                refine E_ic (t := 76) (b := true) at_X6_tellsBest_69 rfl ((cn_ne (nI_toInt (by omega)) (by decide : (-1 : Int32).toInt = -1)).trans (decide_eq_true (by omega))) ?_
                refine E_aload_n at_X6_tellsBest_76 rfl ?_
                refine E_iload at_X6_tellsBest_77 rfl ?_
                refine E_callV (v := some (.int (nI (qMany j 9)))) (As := [.ref 65, .int (nI j)]) (r0 := []) (cs2 := (ww im lf s d k ls rf rz ra rn rq lt m1 m2 m3 m4 bd fc hd sz el t g fm hm so si sh ce ca td wa kp la (lsF (bst t m (qN t) S)) oo bo pw ow tr)) at_X6_tellsBest_79 rfl rfl (Nat.le_of_ble_eq_true rfl) rfl (ab_rvOf w65 rfl) (mo_many w_m I (by omega)) (by decide) rfl ?_
                refine E_aload_n at_X6_tellsBest_82 rfl ?_
                refine E_iload_n at_X6_tellsBest_83 rfl ?_
                refine E_callV (v := some (.int (nI (qMany S 9)))) (As := [.ref 65, .int (nI S)]) (r0 := [.int (nI (qMany j 9))]) (cs2 := (ww im lf s d k ls rf rz ra rn rq lt m1 m2 m3 m4 bd fc hd sz el t g fm hm so si sh ce ca td wa kp la (lsF (bst t m (qN t) S)) oo bo pw ow tr)) at_X6_tellsBest_84 rfl rfl (Nat.le_of_ble_eq_true rfl) rfl (ab_rvOf w65 rfl) (mo_many w_m I (by omega)) (by decide) rfl ?_
                refine E_isub (z := nI ((qMany j 9) - (qMany S 9))) at_X6_tellsBest_87 (pk_sub (by omega)) ?_
                refine E_istore (L2 := [some (.ref 65), some (.int (nI m)), some (.int (nI S)), some (.int (nI (qWs t S (qN t)))), some (.int (nI j)), some (.int (nI ((qMany j 9) - (qMany S 9))))]) at_X6_tellsBest_88 rfl ?_
                refine E_iload at_X6_tellsBest_90 rfl ?_
                refine E_if (t := 114) (b := false) at_X6_tellsBest_92 rfl ((cn_gt (nI_toInt (by omega)) (by decide : (0 : Int32).toInt = 0)).trans (decide_eq_false (by omega))) ?_
                refine E_iload rfl rfl ?_
                refine E_if (t := 121) (b := false) rfl rfl ((cn_ne (nI_toInt (by omega)) (by decide : (0 : Int32).toInt = 0)).trans (decide_eq_false (by omega))) ?_
                refine E_aload_n rfl rfl ?_
                refine E_iload_n rfl rfl ?_
                refine E_callV (v := some (.int (nI (qHs t S (qN t))))) (As := [.ref 65, .int (nI S)]) (r0 := []) (cs2 := (ww im lf s d k ls rf rz ra rn rq lt m1 m2 m3 m4 bd fc hd sz el t g fm hm so si sh ce ca td wa kp la (lsF (bst t m (qN t) S)) oo bo pw ow tr)) rfl rfl rfl (Nat.le_of_ble_eq_true rfl) rfl (ab_rvOf w65 rfl) (mo_harmOf w_m I (by omega)) (by decide) rfl ?_
                refine E_aload_n rfl rfl ?_
                refine E_iload rfl rfl ?_
                refine E_callV (v := some (.int (nI (qHs t j (qN t))))) (As := [.ref 65, .int (nI j)]) (r0 := [.int (nI (qHs t S (qN t)))]) (cs2 := (ww im lf s d k ls rf rz ra rn rq lt m1 m2 m3 m4 bd fc hd sz el t g fm hm so si sh ce ca td wa kp la (lsF (bst t m (qN t) S)) oo bo pw ow tr)) rfl rfl rfl (Nat.le_of_ble_eq_true rfl) rfl (ab_rvOf w65 rfl) (mo_harmOf w_m I (by omega)) (by decide) rfl ?_
                refine E_ic (t := 121) (b := false) rfl rfl ((cn_ge (nI_toInt (by omega)) (nI_toInt (by omega))).trans (decide_eq_false (by omega))) ?_
                refine E_aload_n rfl rfl ?_
                refine E_getfield (v := .ref 89) rfl w65 rfl (by decide) rfl ?_
                refine E_iload_n rfl rfl ?_
                refine E_iload_n rfl rfl ?_
                refine E_iasI (l := (lsF (bst t m (qN t) S))) (cs2 := (ww im lf s d k ls rf rz ra rn rq lt m1 m2 m3 m4 bd fc hd sz el t g fm hm so si sh ce ca td wa kp la ((lsF (bst t m (qN t) S)).set (qWs t S (qN t)) (nI S)) oo bo pw ow tr)) rfl w89 (by omega) (by omega) rfl ?_
                refine E_iinc (y := nI (S + 1)) (L2 := [some (.ref 65), some (.int (nI m)), some (.int (nI (S + 1))), some (.int (nI (qWs t S (qN t)))), some (.int (nI j)), some (.int (nI ((qMany j 9) - (qMany S 9))))]) at_X6_tellsBest_121 rfl (nI_1 _) rfl ?_
                refine E_goto (t := 23) at_X6_tellsBest_124 rfl ?_
                have X := ih (S + 1) (some (.int (nI (qWs t S (qN t))))) (some (.int (nI j))) (some (.int (nI ((qMany j 9) - (qMany S 9))))) (by omega)
                have v1 := qHs_le I S (qN t) (Nat.le_refl _)
                have v2 := qHs_le I j (qN t) (Nat.le_refl _)
                have u1 : qMany S 9 = qMany S (qN t) := (congrArg (qMany S) (show 9 = qN t + (9 - qN t) by omega)).trans (qMany_hi (by omega) _)
                have u2 : qMany j 9 = qMany j (qN t) := (congrArg (qMany j) (show 9 = qN t + (9 - qN t) by omega)).trans (qMany_hi (by omega) _)
                rw [← bst_put (by omega) (by omega) (Or.inr (by rw [h0, Nat.add_sub_cancel]; unfold kAt; omega))] at X
                exact X
              · have h9 := I.2.2.1.1
                have p9 : 2 ^ qN t ≤ 2 ^ 9 := Nat.pow_le_pow_right (by decide) h9
                have a0 := Nat.and_le_left (n := S) (m := m)
                have := qWs_le I S (qN t) (Nat.le_refl _)
                have := lsF_len (bst t m (qN t) S)
                have b0 := bst_in _ _ _ h0
                have := qMany_in j 9
                have := qMany_in S 9
                have := qHs_le I S (qN t) (Nat.le_refl _)
                have := qHs_le I j (qN t) (Nat.le_refl _)
                refine E_iload_n at_X6_tellsBest_23 rfl ?_
                refine E_iconst (x := nI 1) at_X6_tellsBest_24 (by decide) ?_
                refine E_aload_n at_X6_tellsBest_25 rfl ?_
                refine E_getfield (v := .int (nI (qN t))) at_X6_tellsBest_26 w65 rfl (by decide) rfl ?_
                refine E_ishl (z := nI (2 ^ qN t)) at_X6_tellsBest_29 (ab_shl (by omega)) ?_
                refine E_ic (t := 127) (b := false) at_X6_tellsBest_30 rfl ((cn_ge (nI_toInt (by omega)) (nI_toInt (by omega))).trans (decide_eq_false (by omega))) ?_
                refine E_iload_n at_X6_tellsBest_33 rfl ?_
                refine E_iload_n at_X6_tellsBest_34 rfl ?_
                refine E_iand (z := nI (S &&& m)) at_X6_tellsBest_35 (nI_and _ _) ?_
                refine E_iload_n at_X6_tellsBest_36 rfl ?_
                refine E_ic (t := 43) (b := true) at_X6_tellsBest_37 rfl ((cn_eq (nI_toInt (by omega)) (nI_toInt (by omega))).trans (decide_eq_true (by omega))) ?_
                refine E_aload_n at_X6_tellsBest_43 rfl ?_
                refine E_iload_n at_X6_tellsBest_44 rfl ?_
                refine E_callV (v := some (.int (nI (qWs t S (qN t))))) (As := [.ref 65, .int (nI S)]) (r0 := []) (cs2 := (ww im lf s d k ls rf rz ra rn rq lt m1 m2 m3 m4 bd fc hd sz el t g fm hm so si sh ce ca td wa kp la (lsF (bst t m (qN t) S)) oo bo pw ow tr)) at_X6_tellsBest_45 rfl rfl (Nat.le_of_ble_eq_true rfl) rfl (ab_rvOf w65 rfl) (mo_worthOf w_m I (by omega)) (by decide) rfl ?_
                refine E_istore_n (L2 := [some (.ref 65), some (.int (nI m)), some (.int (nI S)), some (.int (nI (qWs t S (qN t)))), x4, x5]) at_X6_tellsBest_48 rfl ?_
                refine E_iload_n at_X6_tellsBest_49 rfl ?_
                refine E_bipush (x := nI 99) at_X6_tellsBest_50 (by decide) ?_
                refine E_ic (t := 58) (b := true) at_X6_tellsBest_52 rfl ((cn_le (nI_toInt (by omega)) (nI_toInt (by omega))).trans (decide_eq_true (by omega))) ?_
                refine E_aload_n at_X6_tellsBest_58 rfl ?_
                refine E_getfield (v := .ref 89) at_X6_tellsBest_59 w65 rfl (by decide) rfl ?_
                refine E_iload_n at_X6_tellsBest_62 rfl ?_
                refine E_ialI (l := (lsF (bst t m (qN t) S))) (v := nI j) at_X6_tellsBest_63 w89 (by omega) (by omega) (by rw [lsF_get (by omega), h0]; rfl) ?_
                refine E_istore (L2 := [some (.ref 65), some (.int (nI m)), some (.int (nI S)), some (.int (nI (qWs t S (qN t)))), some (.int (nI j)), x5]) at_X6_tellsBest_64 rfl ?_
                refine E_iload at_X6_tellsBest_66 rfl ?_
                refine E_iconst (x := (-1)) at_X6_tellsBest_68 (by decide) ?_
                refine E_ic (t := 76) (b := true) at_X6_tellsBest_69 rfl ((cn_ne (nI_toInt (by omega)) (by decide : (-1 : Int32).toInt = -1)).trans (decide_eq_true (by omega))) ?_
                refine E_aload_n at_X6_tellsBest_76 rfl ?_
                refine E_iload at_X6_tellsBest_77 rfl ?_
                refine E_callV (v := some (.int (nI (qMany j 9)))) (As := [.ref 65, .int (nI j)]) (r0 := []) (cs2 := (ww im lf s d k ls rf rz ra rn rq lt m1 m2 m3 m4 bd fc hd sz el t g fm hm so si sh ce ca td wa kp la (lsF (bst t m (qN t) S)) oo bo pw ow tr)) at_X6_tellsBest_79 rfl rfl (Nat.le_of_ble_eq_true rfl) rfl (ab_rvOf w65 rfl) (mo_many w_m I (by omega)) (by decide) rfl ?_
                refine E_aload_n at_X6_tellsBest_82 rfl ?_
                refine E_iload_n at_X6_tellsBest_83 rfl ?_
                refine E_callV (v := some (.int (nI (qMany S 9)))) (As := [.ref 65, .int (nI S)]) (r0 := [.int (nI (qMany j 9))]) (cs2 := (ww im lf s d k ls rf rz ra rn rq lt m1 m2 m3 m4 bd fc hd sz el t g fm hm so si sh ce ca td wa kp la (lsF (bst t m (qN t) S)) oo bo pw ow tr)) at_X6_tellsBest_84 rfl rfl (Nat.le_of_ble_eq_true rfl) rfl (ab_rvOf w65 rfl) (mo_many w_m I (by omega)) (by decide) rfl ?_
                refine E_isub (z := nI ((qMany j 9) - (qMany S 9))) at_X6_tellsBest_87 (pk_sub (by omega)) ?_
                refine E_istore (L2 := [some (.ref 65), some (.int (nI m)), some (.int (nI S)), some (.int (nI (qWs t S (qN t)))), some (.int (nI j)), some (.int (nI ((qMany j 9) - (qMany S 9))))]) at_X6_tellsBest_88 rfl ?_
                refine E_iload at_X6_tellsBest_90 rfl ?_
                refine E_if (t := 114) (b := false) at_X6_tellsBest_92 rfl ((cn_gt (nI_toInt (by omega)) (by decide : (0 : Int32).toInt = 0)).trans (decide_eq_false (by omega))) ?_
                refine E_iload rfl rfl ?_
                refine E_if (t := 121) (b := false) rfl rfl ((cn_ne (nI_toInt (by omega)) (by decide : (0 : Int32).toInt = 0)).trans (decide_eq_false (by omega))) ?_
                refine E_aload_n rfl rfl ?_
                refine E_iload_n rfl rfl ?_
                refine E_callV (v := some (.int (nI (qHs t S (qN t))))) (As := [.ref 65, .int (nI S)]) (r0 := []) (cs2 := (ww im lf s d k ls rf rz ra rn rq lt m1 m2 m3 m4 bd fc hd sz el t g fm hm so si sh ce ca td wa kp la (lsF (bst t m (qN t) S)) oo bo pw ow tr)) rfl rfl rfl (Nat.le_of_ble_eq_true rfl) rfl (ab_rvOf w65 rfl) (mo_harmOf w_m I (by omega)) (by decide) rfl ?_
                refine E_aload_n rfl rfl ?_
                refine E_iload rfl rfl ?_
                refine E_callV (v := some (.int (nI (qHs t j (qN t))))) (As := [.ref 65, .int (nI j)]) (r0 := [.int (nI (qHs t S (qN t)))]) (cs2 := (ww im lf s d k ls rf rz ra rn rq lt m1 m2 m3 m4 bd fc hd sz el t g fm hm so si sh ce ca td wa kp la (lsF (bst t m (qN t) S)) oo bo pw ow tr)) rfl rfl rfl (Nat.le_of_ble_eq_true rfl) rfl (ab_rvOf w65 rfl) (mo_harmOf w_m I (by omega)) (by decide) rfl ?_
                refine E_ic (t := 121) (b := true) rfl rfl ((cn_ge (nI_toInt (by omega)) (nI_toInt (by omega))).trans (decide_eq_true (by omega))) ?_
                refine E_iinc (y := nI (S + 1)) (L2 := [some (.ref 65), some (.int (nI m)), some (.int (nI (S + 1))), some (.int (nI (qWs t S (qN t)))), some (.int (nI j)), some (.int (nI ((qMany j 9) - (qMany S 9))))]) at_X6_tellsBest_121 rfl (nI_1 _) rfl ?_
                refine E_goto (t := 23) at_X6_tellsBest_124 rfl ?_
                have X := ih (S + 1) (some (.int (nI (qWs t S (qN t))))) (some (.int (nI j))) (some (.int (nI ((qMany j 9) - (qMany S 9))))) (by omega)
                have v1 := qHs_le I S (qN t) (Nat.le_refl _)
                have v2 := qHs_le I j (qN t) (Nat.le_refl _)
                have u1 : qMany S 9 = qMany S (qN t) := (congrArg (qMany S) (show 9 = qN t + (9 - qN t) by omega)).trans (qMany_hi (by omega) _)
                have u2 : qMany j 9 = qMany j (qN t) := (congrArg (qMany j) (show 9 = qN t + (9 - qN t) by omega)).trans (qMany_hi (by omega) _)
                rw [bst_skip (fun c hc a b => by rw [← b, h0, Nat.add_sub_cancel]; unfold kAt; omega)] at X
                exact X
            · have h9 := I.2.2.1.1
              have p9 : 2 ^ qN t ≤ 2 ^ 9 := Nat.pow_le_pow_right (by decide) h9
              have a0 := Nat.and_le_left (n := S) (m := m)
              have := qWs_le I S (qN t) (Nat.le_refl _)
              have := lsF_len (bst t m (qN t) S)
              have b0 := bst_in _ _ _ h0
              have := qMany_in j 9
              have := qMany_in S 9
              refine E_iload_n at_X6_tellsBest_23 rfl ?_
              refine E_iconst (x := nI 1) at_X6_tellsBest_24 (by decide) ?_
              refine E_aload_n at_X6_tellsBest_25 rfl ?_
              refine E_getfield (v := .int (nI (qN t))) at_X6_tellsBest_26 w65 rfl (by decide) rfl ?_
              refine E_ishl (z := nI (2 ^ qN t)) at_X6_tellsBest_29 (ab_shl (by omega)) ?_
              refine E_ic (t := 127) (b := false) at_X6_tellsBest_30 rfl ((cn_ge (nI_toInt (by omega)) (nI_toInt (by omega))).trans (decide_eq_false (by omega))) ?_
              refine E_iload_n at_X6_tellsBest_33 rfl ?_
              refine E_iload_n at_X6_tellsBest_34 rfl ?_
              refine E_iand (z := nI (S &&& m)) at_X6_tellsBest_35 (nI_and _ _) ?_
              refine E_iload_n at_X6_tellsBest_36 rfl ?_
              refine E_ic (t := 43) (b := true) at_X6_tellsBest_37 rfl ((cn_eq (nI_toInt (by omega)) (nI_toInt (by omega))).trans (decide_eq_true (by omega))) ?_
              refine E_aload_n at_X6_tellsBest_43 rfl ?_
              refine E_iload_n at_X6_tellsBest_44 rfl ?_
              refine E_callV (v := some (.int (nI (qWs t S (qN t))))) (As := [.ref 65, .int (nI S)]) (r0 := []) (cs2 := (ww im lf s d k ls rf rz ra rn rq lt m1 m2 m3 m4 bd fc hd sz el t g fm hm so si sh ce ca td wa kp la (lsF (bst t m (qN t) S)) oo bo pw ow tr)) at_X6_tellsBest_45 rfl rfl (Nat.le_of_ble_eq_true rfl) rfl (ab_rvOf w65 rfl) (mo_worthOf w_m I (by omega)) (by decide) rfl ?_
              refine E_istore_n (L2 := [some (.ref 65), some (.int (nI m)), some (.int (nI S)), some (.int (nI (qWs t S (qN t)))), x4, x5]) at_X6_tellsBest_48 rfl ?_
              refine E_iload_n at_X6_tellsBest_49 rfl ?_
              refine E_bipush (x := nI 99) at_X6_tellsBest_50 (by decide) ?_
              refine E_ic (t := 58) (b := true) at_X6_tellsBest_52 rfl ((cn_le (nI_toInt (by omega)) (nI_toInt (by omega))).trans (decide_eq_true (by omega))) ?_
              refine E_aload_n at_X6_tellsBest_58 rfl ?_
              refine E_getfield (v := .ref 89) at_X6_tellsBest_59 w65 rfl (by decide) rfl ?_
              refine E_iload_n at_X6_tellsBest_62 rfl ?_
              refine E_ialI (l := (lsF (bst t m (qN t) S))) (v := nI j) at_X6_tellsBest_63 w89 (by omega) (by omega) (by rw [lsF_get (by omega), h0]; rfl) ?_
              refine E_istore (L2 := [some (.ref 65), some (.int (nI m)), some (.int (nI S)), some (.int (nI (qWs t S (qN t)))), some (.int (nI j)), x5]) at_X6_tellsBest_64 rfl ?_
              refine E_iload at_X6_tellsBest_66 rfl ?_
              refine E_iconst (x := (-1)) at_X6_tellsBest_68 (by decide) ?_
              refine E_ic (t := 76) (b := true) at_X6_tellsBest_69 rfl ((cn_ne (nI_toInt (by omega)) (by decide : (-1 : Int32).toInt = -1)).trans (decide_eq_true (by omega))) ?_
              refine E_aload_n at_X6_tellsBest_76 rfl ?_
              refine E_iload at_X6_tellsBest_77 rfl ?_
              refine E_callV (v := some (.int (nI (qMany j 9)))) (As := [.ref 65, .int (nI j)]) (r0 := []) (cs2 := (ww im lf s d k ls rf rz ra rn rq lt m1 m2 m3 m4 bd fc hd sz el t g fm hm so si sh ce ca td wa kp la (lsF (bst t m (qN t) S)) oo bo pw ow tr)) at_X6_tellsBest_79 rfl rfl (Nat.le_of_ble_eq_true rfl) rfl (ab_rvOf w65 rfl) (mo_many w_m I (by omega)) (by decide) rfl ?_
              refine E_aload_n at_X6_tellsBest_82 rfl ?_
              refine E_iload_n at_X6_tellsBest_83 rfl ?_
              refine E_callV (v := some (.int (nI (qMany S 9)))) (As := [.ref 65, .int (nI S)]) (r0 := [.int (nI (qMany j 9))]) (cs2 := (ww im lf s d k ls rf rz ra rn rq lt m1 m2 m3 m4 bd fc hd sz el t g fm hm so si sh ce ca td wa kp la (lsF (bst t m (qN t) S)) oo bo pw ow tr)) at_X6_tellsBest_84 rfl rfl (Nat.le_of_ble_eq_true rfl) rfl (ab_rvOf w65 rfl) (mo_many w_m I (by omega)) (by decide) rfl ?_
              refine E_isub (z := nI (qMany j 9) - nI (qMany S 9)) at_X6_tellsBest_87 rfl ?_
              refine E_istore (L2 := [some (.ref 65), some (.int (nI m)), some (.int (nI S)), some (.int (nI (qWs t S (qN t)))), some (.int (nI j)), some (.int (nI (qMany j 9) - nI (qMany S 9)))]) at_X6_tellsBest_88 rfl ?_
              refine E_iload at_X6_tellsBest_90 rfl ?_
              refine E_if (t := 114) (b := false) at_X6_tellsBest_92 rfl ((cn_gt (ab_subI (by omega) (by omega)) (by decide : (0 : Int32).toInt = 0)).trans (decide_eq_false (by omega))) ?_
              refine E_iload rfl rfl ?_
              refine E_if (t := 121) (b := true) rfl rfl ((cn_ne (ab_subI (by omega) (by omega)) (by decide : (0 : Int32).toInt = 0)).trans (decide_eq_true (by omega))) ?_
              refine E_iinc (y := nI (S + 1)) (L2 := [some (.ref 65), some (.int (nI m)), some (.int (nI (S + 1))), some (.int (nI (qWs t S (qN t)))), some (.int (nI j)), some (.int (nI (qMany j 9) - nI (qMany S 9)))]) at_X6_tellsBest_121 rfl (nI_1 _) rfl ?_
              refine E_goto (t := 23) at_X6_tellsBest_124 rfl ?_
              have X := ih (S + 1) (some (.int (nI (qWs t S (qN t))))) (some (.int (nI j))) (some (.int (nI (qMany j 9) - nI (qMany S 9)))) (by omega)
              have v1 := qHs_le I S (qN t) (Nat.le_refl _)
              have v2 := qHs_le I j (qN t) (Nat.le_refl _)
              have u1 : qMany S 9 = qMany S (qN t) := (congrArg (qMany S) (show 9 = qN t + (9 - qN t) by omega)).trans (qMany_hi (by omega) _)
              have u2 : qMany j 9 = qMany j (qN t) := (congrArg (qMany j) (show 9 = qN t + (9 - qN t) by omega)).trans (qMany_hi (by omega) _)
              rw [bst_skip (fun c hc a b => by rw [← b, h0, Nat.add_sub_cancel]; unfold kAt; omega)] at X
              exact X
    · have h9 := I.2.2.1.1
      have p9 : 2 ^ qN t ≤ 2 ^ 9 := Nat.pow_le_pow_right (by decide) h9
      have a0 := Nat.and_le_left (n := S) (m := m)
      refine E_iload_n at_X6_tellsBest_23 rfl ?_
      refine E_iconst (x := nI 1) at_X6_tellsBest_24 (by decide) ?_
      refine E_aload_n at_X6_tellsBest_25 rfl ?_
      refine E_getfield (v := .int (nI (qN t))) at_X6_tellsBest_26 w65 rfl (by decide) rfl ?_
      refine E_ishl (z := nI (2 ^ qN t)) at_X6_tellsBest_29 (ab_shl (by omega)) ?_
      refine E_ic (t := 127) (b := false) at_X6_tellsBest_30 rfl ((cn_ge (nI_toInt (by omega)) (nI_toInt (by omega))).trans (decide_eq_false (by omega))) ?_
      refine E_iload_n at_X6_tellsBest_33 rfl ?_
      refine E_iload_n at_X6_tellsBest_34 rfl ?_
      refine E_iand (z := nI (S &&& m)) at_X6_tellsBest_35 (nI_and _ _) ?_
      refine E_iload_n at_X6_tellsBest_36 rfl ?_
      refine E_ic (t := 43) (b := false) at_X6_tellsBest_37 rfl ((cn_eq (nI_toInt (by omega)) (nI_toInt (by omega))).trans (decide_eq_false (by omega))) ?_
      refine E_goto (t := 121) rfl rfl ?_
      refine E_iinc (y := nI (S + 1)) (L2 := [some (.ref 65), some (.int (nI m)), some (.int (nI (S + 1))), x3, x4, x5]) at_X6_tellsBest_121 rfl (nI_1 _) rfl ?_
      refine E_goto (t := 23) at_X6_tellsBest_124 rfl ?_
      have X := ih (S + 1) (x3) (x4) (x5) (by omega)
      rw [bst_skip (fun c hc a b => by omega)] at X
      exact X
set_option maxHeartbeats 1000000 in
theorem best_f {m : Nat} (I : qI t) (hM : m < 2147483648) (lb : bf.length = 100) : ∀ n0 i x3 x4 x5, i + n0 = 100 → Ef ab_Z0 2 mX6_tellsBest (2, [some (.ref 65), some (.int (nI m)), some (.int (nI i)), x3, x4, x5], [], (ww im lf s d k ls rf rz ra rn rq lt m1 m2 m3 m4 bd fc hd sz el t g fm hm so si sh ce ca td wa kp la (List.replicate i (-1) ++ bf.drop i) oo bo pw ow tr)) (none, (ww im lf s d k ls rf rz ra rn rq lt m1 m2 m3 m4 bd fc hd sz el t g fm hm so si sh ce ca td wa kp la (lsF (bst t m (qN t) (2 ^ qN t))) oo bo pw ow tr)) := by
  intro n0
  induction n0 with
  | zero =>
    intro i x3 x4 x5 hi
    have hi : i = 100 := hi
    rw [hi]
    refine E_iload_n rfl rfl ?_
    refine E_bipush (x := nI 100) rfl (by decide) ?_
    refine E_ic (t := 21) (b := true) rfl rfl (by decide) ?_
    refine E_iconst (x := nI 0) rfl (by decide) ?_
    refine E_istore_n (L2 := [some (.ref 65), some (.int (nI m)), some (.int (nI 0)), x3, x4, x5]) rfl rfl ?_
    have e : List.replicate 100 (-1) ++ bf.drop 100 = lsF (bst t m (qN t) 0) := by rw [List.drop_of_length_le (by omega), List.append_nil]; exact bst_z
    rw [e]
    exact best_l I hM (2 ^ qN t) 0 x3 x4 x5 (Nat.zero_add _)
  | succ n0 ih =>
    intro i x3 x4 x5 hi
    have : (List.replicate i (-1) ++ bf.drop i).length = 100 := by rw [List.length_append, List.length_replicate, List.length_drop]; omega
    refine E_iload_n rfl rfl ?_
    refine E_bipush (x := nI 100) rfl (by decide) ?_
    refine E_ic (t := 21) (b := false) rfl rfl ((cn_ge (nI_toInt (by omega)) (nI_toInt (by omega))).trans (decide_eq_false (by omega))) ?_
    refine E_aload_n rfl rfl ?_
    refine E_getfield (v := .ref 89) rfl w65 rfl (by decide) rfl ?_
    refine E_iload_n rfl rfl ?_
    refine E_iconst (x := (-1)) rfl (by decide) ?_
    refine E_iasI (l := (List.replicate i (-1) ++ bf.drop i)) (cs2 := (ww im lf s d k ls rf rz ra rn rq lt m1 m2 m3 m4 bd fc hd sz el t g fm hm so si sh ce ca td wa kp la ((List.replicate i (-1) ++ bf.drop i).set i (-1)) oo bo pw ow tr)) rfl w89 (by omega) (by omega) rfl ?_
    refine E_iinc (y := nI (i + 1)) (L2 := [some (.ref 65), some (.int (nI m)), some (.int (nI (i + 1))), x3, x4, x5]) rfl rfl (nI_1 _) rfl ?_
    refine E_goto (t := 2) rfl rfl ?_
    have Y := ih (i + 1) x3 x4 x5 (by omega)
    rw [← ab_rep_set (by omega)] at Y
    exact Y
theorem w_best {m : Nat} (I : qI t) (hM : m < 2147483648) (lb : bf.length = 100) : Ev ab_Z0 3 170 [.ref 65, .int (nI m)] (ww im lf s d k ls rf rz ra rn rq lt m1 m2 m3 m4 bd fc hd sz el t g fm hm so si sh ce ca td wa kp la bf oo bo pw ow tr) (none, (ww im lf s d k ls rf rz ra rn rq lt m1 m2 m3 m4 bd fc hd sz el t g fm hm so si sh ce ca td wa kp la (lsF (bst t m (qN t) (2 ^ qN t))) oo bo pw ow tr)) := by
  refine Ef.in (md := mX6_tellsBest) (L := [some (.ref 65), some (.int (nI m)), none, none, none, none]) rfl (Nat.le_of_ble_eq_true rfl) rfl ?_
  refine E_iconst (x := nI 0) rfl (by decide) ?_
  refine E_istore_n (L2 := [some (.ref 65), some (.int (nI m)), some (.int (nI 0)), none, none, none]) rfl rfl ?_
  exact best_f I hM lb 100 0 none none none (Nat.zero_add _)
end TB
