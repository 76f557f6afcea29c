/-! told rows of twos; by program (wip/tools/mktwos.py) -/
/-- the q-th told one is below b -/
def isB (e : List Int64) (b q : Nat) : Prop := ∃ c, c < b ∧ tw e (2 * q) = nI c
theorem isB_all (e : List Int64) (b n : Nat) : (∀ q, q < n → isB e b q) ∨ ∃ q, q < n ∧ ¬ isB e b q := by
  rcases Classical.em (∀ q, q < n → isB e b q) with h | h
  · exact Or.inl h
  · refine Or.inr (Classical.byContradiction fun z => h fun q hq => Classical.byContradiction fun y => z ⟨q, hq, y⟩)
theorem isB_next {e : List Int64} {b n v : Nat} (hq : ∃ q, v ≤ q ∧ q < n ∧ ¬ isB e b q) (h : isB e b v) : ∃ q, v + 1 ≤ q ∧ q < n ∧ ¬ isB e b q := by
  obtain ⟨q, h1, h2, h3⟩ := hq
  refine ⟨q, ?_, h2, h3⟩
  rcases Nat.eq_or_lt_of_le h1 with z | z
  · exact absurd (z ▸ h) h3
  · exact z
/-- so far so good: 1, 0 -/
def ruF (P : Nat → Bool) : Nat → Nat
  | 0 => 1
  | v + 1 => if P v = true then ruF P v else 0
theorem ruF_t {P : Nat → Bool} {v : Nat} (h : P v = true) : ruF P (v + 1) = ruF P v := if_pos h
theorem ruF_f {P : Nat → Bool} {v : Nat} (h : ¬ P v = true) : ruF P (v + 1) = 0 := if_neg h
theorem ruF_0 {P : Nat → Bool} {v : Nat} (h : ruF P v = 0) : ruF P (v + 1) = 0 := by
  show (if P v = true then ruF P v else 0) = 0
  rw [h]
  split <;> rfl
theorem ruF_01 (P : Nat → Bool) : ∀ v, ruF P v = 0 ∨ ruF P v = 1
  | 0 => Or.inr rfl
  | v + 1 => by
    show (if P v = true then ruF P v else 0) = 0 ∨ (if P v = true then ruF P v else 0) = 1
    split
    · exact ruF_01 P v
    · exact Or.inl rfl
def ruP (f : Nat → Nat) (e : List Int64) (v : Nat) : Bool := decide (qE (f (tw e (2 * v)).toNatClampNeg) = tw e (2 * v + 1))
theorem ruP_t {f : Nat → Nat} {e : List Int64} {v c : Nat} {x : Int32} (hc : c < 2 ^ 31) (ec : tw e (2 * v) = nI c) (hf : qE (f c) = x) (h : x.toInt = (tw e (2 * v + 1)).toInt) : ruP f e v = true := by
  unfold ruP
  rw [ec, nI_clamp hc, hf]
  exact decide_eq_true (Int32.toInt_inj.mp h)
theorem ruP_f {f : Nat → Nat} {e : List Int64} {v c : Nat} {x : Int32} (hc : c < 2 ^ 31) (ec : tw e (2 * v) = nI c) (hf : qE (f c) = x) (h : ¬ x.toInt = (tw e (2 * v + 1)).toInt) : ¬ ruP f e v = true := by
  unfold ruP
  rw [ec, nI_clamp hc, hf]
  exact fun z => h (congrArg Int32.toInt (of_decide_eq_true z))
section TW
variable {im : Int32} {lf : Int32} {s : ab_q} {d : ab_q} {k : ab_q} {ls : List Int32} {rf : Int32} {rz : Int32} {ra : Int32} {rn : Int32} {rq : ab_q} {lt : List Int32} {m1 : Int32} {m2 : Int32} {m3 : Int32} {m4 : Int32} {bd : List Int32} {fc : List Int32} {hd : Nat → Int32} {sz : Nat → Int32} {el : Nat → List Int64} {t : ab_q} {g : Nat → Int32} {fm : List Int32} {hm : List Nat} {so : List Nat} {si : List Nat} {sh : List Int32} {ce : List Int64} {ca : List Int64} {td : List Int32} {wa : List Int32} {kp : List Int32} {la : List Int32} {bf : List Int32} {oo : List Int32} {bo : List Int32} {pw : List Int32} {ow : List Int32} {tr : List Int32}
theorem w_first {j x n1 : Nat} (hj : j < 8) (hz : sz j = nI n1) (hx : 2 * x < n1) (hn1 : n1 ≤ 160) (le : (el j).length = 160) : Ev ab_Z0 4 43 [.ref (49 + 2 * j), .int (nI x)] (ww im lf s d k ls rf rz ra rn rq lt m1 m2 m3 m4 bd fc hd sz el t g fm hm so si sh ce ca td wa kp la bf oo bo pw ow tr) (some (.int (tw (el j) (2 * x))), (ww im lf s d k ls rf rz ra rn rq lt m1 m2 m3 m4 bd fc hd sz el t g fm hm so si sh ce ca td wa kp la bf oo bo pw ow tr)) := by
  refine Ef.in (md := mX3_first) (L := [some (.ref (49 + 2 * j)), some (.int (nI x))]) rfl (Nat.le_of_ble_eq_true rfl) rfl ?_
  refine E_aload_n rfl rfl ?_
  refine E_iconst (x := nI 2) rfl (by decide) ?_
  refine E_iload_n rfl rfl ?_
  refine E_imul (z := nI (2 * x)) rfl (pk_mul _ _) ?_
  have e3 : Ev ab_Z0 3 41 [.ref (49 + 2 * j), .int (nI (2 * x))] (ww im lf s d k ls rf rz ra rn rq lt m1 m2 m3 m4 bd fc hd sz el t g fm hm so si sh ce ca td wa kp la bf oo bo pw ow tr) (some (.int (((el j).getD (2 * x) 0).toInt32)), (ww im lf s d k ls rf rz ra rn rq lt m1 m2 m3 m4 bd fc hd sz el t g fm hm so si sh ce ca td wa kp la bf oo bo pw ow tr)) := by
    refine Ef.in (md := mX3_read) (L := [some (.ref (49 + 2 * j)), some (.int (nI (2 * x)))]) rfl (Nat.le_of_ble_eq_true rfl) rfl ?_
    refine E_aload_n rfl rfl ?_
    refine E_iload_n rfl rfl ?_
    have e2 : Ev ab_Z0 2 40 [.ref (49 + 2 * j), .int (nI (2 * x))] (ww im lf s d k ls rf rz ra rn rq lt m1 m2 m3 m4 bd fc hd sz el t g fm hm so si sh ce ca td wa kp la bf oo bo pw ow tr) (some (.long ((el j).getD (2 * x) 0)), (ww im lf s d k ls rf rz ra rn rq lt m1 m2 m3 m4 bd fc hd sz el t g fm hm so si sh ce ca td wa kp la bf oo bo pw ow tr)) := by
      refine Ef.in (md := mX3_whole) (L := [some (.ref (49 + 2 * j)), some (.int (nI (2 * x)))]) rfl (Nat.le_of_ble_eq_true rfl) rfl ?_
      refine E_aload_n at_X3_whole_0 rfl ?_
      refine E_iload_n at_X3_whole_1 rfl ?_
      have e1 : Ev ab_Z0 1 35 [.ref (49 + 2 * j), .int (nI (2 * x))] (ww im lf s d k ls rf rz ra rn rq lt m1 m2 m3 m4 bd fc hd sz el t g fm hm so si sh ce ca td wa kp la bf oo bo pw ow tr) (some (.int (nI 1)), (ww im lf s d k ls rf rz ra rn rq lt m1 m2 m3 m4 bd fc hd sz el t g fm hm so si sh ce ca td wa kp la bf oo bo pw ow tr)) := by
        refine Ef.in (md := mX3_hasElement) (L := [some (.ref (49 + 2 * j)), some (.int (nI (2 * x)))]) rfl (Nat.le_of_ble_eq_true rfl) rfl ?_
        refine E_iload_n at_X3_hasElement_0 rfl ?_
        refine E_if (t := 16) (b := false) at_X3_hasElement_1 rfl ((cn_lt (nI_toInt (by omega)) (by decide : (0 : Int32).toInt = 0)).trans (decide_eq_false (by omega))) ?_
        refine E_iload_n at_X3_hasElement_4 rfl ?_
        refine E_aload_n at_X3_hasElement_5 rfl ?_
        refine E_getfield (v := .int (nI n1)) at_X3_hasElement_6 (w_shv (j := j) (by omega) rfl hz) rfl (by decide) rfl ?_
        refine E_ic (t := 16) (b := false) at_X3_hasElement_9 rfl ((cn_ge (nI_toInt (by omega)) (nI_toInt (by omega))).trans (decide_eq_false (by omega))) ?_
        refine E_iconst (x := nI 1) at_X3_hasElement_12 (by decide) ?_
        refine E_goto (t := 17) at_X3_hasElement_13 rfl ?_
        exact E_iret at_X3_hasElement_17 rfl
      refine E_callV (v := some (.int (nI 1))) (As := [.ref (49 + 2 * j), .int (nI (2 * x))]) (r0 := []) (cs2 := (ww im lf s d k ls rf rz ra rn rq lt m1 m2 m3 m4 bd fc hd sz el t g fm hm so si sh ce ca td wa kp la bf oo bo pw ow tr)) at_X3_whole_2 rfl rfl (Nat.le_of_ble_eq_true rfl) rfl (ab_rvOf (w_shv (j := j) (by omega) rfl hz) rfl) e1 (by decide) rfl ?_
      refine E_if (t := 17) (b := false) at_X3_whole_5 rfl (by decide) ?_
      refine E_aload_n at_X3_whole_8 rfl ?_
      refine E_getfield (v := .ref (50 + 2 * j)) at_X3_whole_9 (w_shv (j := j) (by omega) rfl hz) rfl (by decide) rfl ?_
      refine E_iload_n at_X3_whole_12 rfl ?_
      refine E_lalL (l := el j) (v := (el j).getD (2 * x) 0) at_X3_whole_13 (w_el (j := j) (by omega)) (by omega) (by omega) rfl ?_
      refine E_goto (t := 18) at_X3_whole_14 rfl ?_
      exact E_lret at_X3_whole_18 rfl
    refine E_callV (v := some (.long ((el j).getD (2 * x) 0))) (As := [.ref (49 + 2 * j), .int (nI (2 * x))]) (r0 := []) (cs2 := (ww im lf s d k ls rf rz ra rn rq lt m1 m2 m3 m4 bd fc hd sz el t g fm hm so si sh ce ca td wa kp la bf oo bo pw ow tr)) rfl rfl rfl (Nat.le_of_ble_eq_true rfl) rfl (ab_rvOf (w_shv (j := j) (by omega) rfl hz) rfl) e2 (by decide) rfl ?_
    refine E_l2i (z := ((el j).getD (2 * x) 0).toInt32) rfl rfl ?_
    exact E_iret rfl rfl
  refine E_callV (v := some (.int (((el j).getD (2 * x) 0).toInt32))) (As := [.ref (49 + 2 * j), .int (nI (2 * x))]) (r0 := []) (cs2 := (ww im lf s d k ls rf rz ra rn rq lt m1 m2 m3 m4 bd fc hd sz el t g fm hm so si sh ce ca td wa kp la bf oo bo pw ow tr)) rfl rfl rfl (Nat.le_of_ble_eq_true rfl) rfl (ab_rvOf (w_shv (j := j) (by omega) rfl hz) rfl) e3 (by decide) rfl ?_
  exact E_iret rfl rfl
theorem w_second {j x n1 : Nat} (hj : j < 8) (hz : sz j = nI n1) (hx : 2 * x + 1 < n1) (hn1 : n1 ≤ 160) (le : (el j).length = 160) : Ev ab_Z0 4 44 [.ref (49 + 2 * j), .int (nI x)] (ww im lf s d k ls rf rz ra rn rq lt m1 m2 m3 m4 bd fc hd sz el t g fm hm so si sh ce ca td wa kp la bf oo bo pw ow tr) (some (.int (tw (el j) (2 * x + 1))), (ww im lf s d k ls rf rz ra rn rq lt m1 m2 m3 m4 bd fc hd sz el t g fm hm so si sh ce ca td wa kp la bf oo bo pw ow tr)) := by
  refine Ef.in (md := mX3_second) (L := [some (.ref (49 + 2 * j)), some (.int (nI x))]) rfl (Nat.le_of_ble_eq_true rfl) rfl ?_
  refine E_aload_n rfl rfl ?_
  refine E_iconst (x := nI 2) rfl (by decide) ?_
  refine E_iload_n rfl rfl ?_
  refine E_imul (z := nI (2 * x)) rfl (pk_mul _ _) ?_
  refine E_iconst (x := nI 1) rfl (by decide) ?_
  refine E_iadd (z := nI ((2 * x) + 1)) rfl (nI_add _ _) ?_
  have e3 : Ev ab_Z0 3 41 [.ref (49 + 2 * j), .int (nI ((2 * x) + 1))] (ww im lf s d k ls rf rz ra rn rq lt m1 m2 m3 m4 bd fc hd sz el t g fm hm so si sh ce ca td wa kp la bf oo bo pw ow tr) (some (.int (((el j).getD ((2 * x) + 1) 0).toInt32)), (ww im lf s d k ls rf rz ra rn rq lt m1 m2 m3 m4 bd fc hd sz el t g fm hm so si sh ce ca td wa kp la bf oo bo pw ow tr)) := by
    refine Ef.in (md := mX3_read) (L := [some (.ref (49 + 2 * j)), some (.int (nI ((2 * x) + 1)))]) rfl (Nat.le_of_ble_eq_true rfl) rfl ?_
    refine E_aload_n rfl rfl ?_
    refine E_iload_n rfl rfl ?_
    have e2 : Ev ab_Z0 2 40 [.ref (49 + 2 * j), .int (nI ((2 * x) + 1))] (ww im lf s d k ls rf rz ra rn rq lt m1 m2 m3 m4 bd fc hd sz el t g fm hm so si sh ce ca td wa kp la bf oo bo pw ow tr) (some (.long ((el j).getD ((2 * x) + 1) 0)), (ww im lf s d k ls rf rz ra rn rq lt m1 m2 m3 m4 bd fc hd sz el t g fm hm so si sh ce ca td wa kp la bf oo bo pw ow tr)) := by
      refine Ef.in (md := mX3_whole) (L := [some (.ref (49 + 2 * j)), some (.int (nI ((2 * x) + 1)))]) rfl (Nat.le_of_ble_eq_true rfl) rfl ?_
      refine E_aload_n at_X3_whole_0 rfl ?_
      refine E_iload_n at_X3_whole_1 rfl ?_
      have e1 : Ev ab_Z0 1 35 [.ref (49 + 2 * j), .int (nI ((2 * x) + 1))] (ww im lf s d k ls rf rz ra rn rq lt m1 m2 m3 m4 bd fc hd sz el t g fm hm so si sh ce ca td wa kp la bf oo bo pw ow tr) (some (.int (nI 1)), (ww im lf s d k ls rf rz ra rn rq lt m1 m2 m3 m4 bd fc hd sz el t g fm hm so si sh ce ca td wa kp la bf oo bo pw ow tr)) := by
        refine Ef.in (md := mX3_hasElement) (L := [some (.ref (49 + 2 * j)), some (.int (nI ((2 * x) + 1)))]) rfl (Nat.le_of_ble_eq_true rfl) rfl ?_
        refine E_iload_n at_X3_hasElement_0 rfl ?_
        refine E_if (t := 16) (b := false) at_X3_hasElement_1 rfl ((cn_lt (nI_toInt (by omega)) (by decide : (0 : Int32).toInt = 0)).trans (decide_eq_false (by omega))) ?_
        refine E_iload_n at_X3_hasElement_4 rfl ?_
        refine E_aload_n at_X3_hasElement_5 rfl ?_
        refine E_getfield (v := .int (nI n1)) at_X3_hasElement_6 (w_shv (j := j) (by omega) rfl hz) rfl (by decide) rfl ?_
        refine E_ic (t := 16) (b := false) at_X3_hasElement_9 rfl ((cn_ge (nI_toInt (by omega)) (nI_toInt (by omega))).trans (decide_eq_false (by omega))) ?_
        refine E_iconst (x := nI 1) at_X3_hasElement_12 (by decide) ?_
        refine E_goto (t := 17) at_X3_hasElement_13 rfl ?_
        exact E_iret at_X3_hasElement_17 rfl
      refine E_callV (v := some (.int (nI 1))) (As := [.ref (49 + 2 * j), .int (nI ((2 * x) + 1))]) (r0 := []) (cs2 := (ww im lf s d k ls rf rz ra rn rq lt m1 m2 m3 m4 bd fc hd sz el t g fm hm so si sh ce ca td wa kp la bf oo bo pw ow tr)) at_X3_whole_2 rfl rfl (Nat.le_of_ble_eq_true rfl) rfl (ab_rvOf (w_shv (j := j) (by omega) rfl hz) rfl) e1 (by decide) rfl ?_
      refine E_if (t := 17) (b := false) at_X3_whole_5 rfl (by decide) ?_
      refine E_aload_n at_X3_whole_8 rfl ?_
      refine E_getfield (v := .ref (50 + 2 * j)) at_X3_whole_9 (w_shv (j := j) (by omega) rfl hz) rfl (by decide) rfl ?_
      refine E_iload_n at_X3_whole_12 rfl ?_
      refine E_lalL (l := el j) (v := (el j).getD ((2 * x) + 1) 0) at_X3_whole_13 (w_el (j := j) (by omega)) (by omega) (by omega) rfl ?_
      refine E_goto (t := 18) at_X3_whole_14 rfl ?_
      exact E_lret at_X3_whole_18 rfl
    refine E_callV (v := some (.long ((el j).getD ((2 * x) + 1) 0))) (As := [.ref (49 + 2 * j), .int (nI ((2 * x) + 1))]) (r0 := []) (cs2 := (ww im lf s d k ls rf rz ra rn rq lt m1 m2 m3 m4 bd fc hd sz el t g fm hm so si sh ce ca td wa kp la bf oo bo pw ow tr)) rfl rfl rfl (Nat.le_of_ble_eq_true rfl) rfl (ab_rvOf (w_shv (j := j) (by omega) rfl hz) rfl) e2 (by decide) rfl ?_
    refine E_l2i (z := ((el j).getD ((2 * x) + 1) 0).toInt32) rfl rfl ?_
    exact E_iret rfl rfl
  refine E_callV (v := some (.int (((el j).getD ((2 * x) + 1) 0).toInt32))) (As := [.ref (49 + 2 * j), .int (nI ((2 * x) + 1))]) (r0 := []) (cs2 := (ww im lf s d k ls rf rz ra rn rq lt m1 m2 m3 m4 bd fc hd sz el t g fm hm so si sh ce ca td wa kp la bf oo bo pw ow tr)) rfl rfl rfl (Nat.le_of_ble_eq_true rfl) rfl (ab_rvOf (w_shv (j := j) (by omega) rfl hz) rfl) e3 (by decide) rfl ?_
  exact E_iret rfl rfl
theorem m_intAt {j q : Nat} (hj : j < 8) (hq : q < 160) (l_ce : ce.length = 1280) (hce : ∀ q, q < 160 → (el j).getD q 0 = ce.getD (160 * j + q) 0) : Ev ab_Z0 1 143 [.ref 65, .int (nI j), .int (nI q)] (ww im lf s d k ls rf rz ra rn rq lt m1 m2 m3 m4 bd fc hd sz el t g fm hm so si sh ce ca td wa kp la bf oo bo pw ow tr) (some (.int (tw (el j) q)), (ww im lf s d k ls rf rz ra rn rq lt m1 m2 m3 m4 bd fc hd sz el t g fm hm so si sh ce ca td wa kp la bf oo bo pw ow tr)) := by
  unfold tw
  rw [hce q hq]
  refine Ef.in (md := mX6_intAt) (L := [some (.ref 65), some (.int (nI j)), some (.int (nI q))]) rfl (Nat.le_of_ble_eq_true rfl) rfl ?_
  refine E_aload_n rfl rfl ?_
  refine E_getfield (v := .ref 80) rfl w65 rfl (by decide) rfl ?_
  refine E_sipush (x := nI 160) rfl (by decide) ?_
  refine E_iload_n rfl rfl ?_
  refine E_imul (z := nI (160 * j)) rfl (pk_mul _ _) ?_
  refine E_iload_n rfl rfl ?_
  refine E_iadd (z := nI ((160 * j) + q)) rfl (nI_add _ _) ?_
  refine E_lalL (l := ce) (v := ce.getD ((160 * j) + q) 0) rfl w80 (by omega) (by omega) rfl ?_
  refine E_l2i (z := (ce.getD ((160 * j) + q) 0).toInt32) rfl rfl ?_
  exact E_iret rfl rfl
end TW
section RU
variable {im : Int32} {lf : Int32} {s : ab_q} {d : ab_q} {k : ab_q} {ls : List Int32} {rf : Int32} {rz : Int32} {ra : Int32} {rn : Int32} {rq : ab_q} {lt : List Int32} {m1 : Int32} {m2 : Int32} {m3 : Int32} {m4 : Int32} {bd : List Int32} {fc : List Int32} {hd : Nat → Int32} {sz : Nat → Int32} {el : Nat → List Int64} {t : ab_q} {g : Nat → Int32} {fm : List Int32} {hm : List Nat} {so : List Nat} {si : List Nat} {sh : List Int32} {ce : List Int64} {ca : List Int64} {td : List Int32} {wa : List Int32} {kp : List Int32} {la : List Int32} {bf : List Int32} {oo : List Int32} {bo : List Int32} {pw : List Int32} {ow : List Int32} {tr : List Int32}
theorem w_few {c m : Nat} (I : qI s) (hc : c < 100) : Ev ab_Z0 2 4 [.ref 32, .int (nI c)] (ww im lf s d k (lsF (wgh s m (qN s))) rf rz ra rn rq lt m1 m2 m3 m4 bd fc hd sz el t g fm hm so si sh ce ca td wa kp la bf oo bo pw ow tr) (some (.int (qE (bst s m (qN s) (2 ^ qN s) c))), (ww im lf s d k (lsF (wgh s m (qN s))) rf rz ra rn rq lt m1 m2 m3 m4 bd fc hd sz el t g fm hm so si sh ce ca td wa kp la bf oo bo pw ow tr)) := by
  have h9 := I.2.2.1.1
  rcases wgh_bst s m (qN s) c with ⟨eb0, fb0⟩ | ⟨B0, hB0, hs0, hw0, hb0, hk0⟩
  · have w9 : 2 ^ qN s ≤ 2 ^ 9 := Nat.pow_le_pow_right (by decide) (by omega)
    have := lsF_len (wgh s m (qN s))
    rw [show qE (bst s m (qN s) (2 ^ qN s) c) = (-1) from by rw [fb0]; rfl]
    refine Ef.in (md := mX0_fewestFor) (L := [some (.ref 32), some (.int (nI c))]) rfl (Nat.le_of_ble_eq_true rfl) rfl ?_
    refine E_iload_n at_X0_fewestFor_0 rfl ?_
    have e1 : Ev ab_Z0 1 48 [.int (nI c)] (ww im lf s d k (lsF (wgh s m (qN s))) rf rz ra rn rq lt m1 m2 m3 m4 bd fc hd sz el t g fm hm so si sh ce ca td wa kp la bf oo bo pw ow tr) (some (.int (nI 1)), (ww im lf s d k (lsF (wgh s m (qN s))) rf rz ra rn rq lt m1 m2 m3 m4 bd fc hd sz el t g fm hm so si sh ce ca td wa kp la bf oo bo pw ow tr)) := by
      refine Ef.in (md := mX4_isAmount) (L := [some (.int (nI c))]) rfl (Nat.le_of_ble_eq_true rfl) rfl ?_
      refine E_iload_n at_X4_isAmount_0 rfl ?_
      refine E_if (t := 14) (b := false) at_X4_isAmount_1 rfl ((cn_lt (nI_toInt (by omega)) (by decide : (0 : Int32).toInt = 0)).trans (decide_eq_false (by omega))) ?_
      refine E_iload_n at_X4_isAmount_4 rfl ?_
      refine E_bipush (x := nI 100) at_X4_isAmount_5 (by decide) ?_
      refine E_ic (t := 14) (b := false) at_X4_isAmount_7 rfl ((cn_ge (nI_toInt (by omega)) (nI_toInt (by omega))).trans (decide_eq_false (by omega))) ?_
      refine E_iconst (x := nI 1) at_X4_isAmount_10 (by decide) ?_
      refine E_goto (t := 15) at_X4_isAmount_11 rfl ?_
      exact E_iret at_X4_isAmount_15 rfl
    refine E_callS (v := some (.int (nI 1))) (As := [.int (nI c)]) (r0 := []) (cs2 := (ww im lf s d k (lsF (wgh s m (qN s))) rf rz ra rn rq lt m1 m2 m3 m4 bd fc hd sz el t g fm hm so si sh ce ca td wa kp la bf oo bo pw ow tr)) at_X0_fewestFor_1 rfl rfl (Nat.le_of_ble_eq_true rfl) rfl e1 (by decide) rfl ?_
    refine E_if (t := 17) (b := false) at_X0_fewestFor_4 rfl (by decide) ?_
    refine E_aload_n at_X0_fewestFor_7 rfl ?_
    refine E_getfield (v := .ref 33) at_X0_fewestFor_8 w32 rfl (by decide) rfl ?_
    refine E_iload_n at_X0_fewestFor_11 rfl ?_
    refine E_ialI (l := (lsF (wgh s m (qN s)))) (v := (-1)) at_X0_fewestFor_12 w33 (by omega) (by omega) (by rw [lsF_get (by omega), eb0]; rfl) ?_
    refine E_iconst (x := (-1)) at_X0_fewestFor_13 (by decide) ?_
    refine E_ic (t := 19) (b := false) at_X0_fewestFor_14 rfl (by decide) ?_
    refine E_iconst (x := (-1)) at_X0_fewestFor_17 (by decide) ?_
    exact E_iret at_X0_fewestFor_18 rfl
  · have w9 : 2 ^ qN s ≤ 2 ^ 9 := Nat.pow_le_pow_right (by decide) (by omega)
    have := lsF_len (wgh s m (qN s))
    have kb0 := kAt_bits I hB0
    rw [show qE (bst s m (qN s) (2 ^ qN s) c) = nI B0 from by rw [hb0]; rfl]
    refine Ef.in (md := mX0_fewestFor) (L := [some (.ref 32), some (.int (nI c))]) rfl (Nat.le_of_ble_eq_true rfl) rfl ?_
    refine E_iload_n at_X0_fewestFor_0 rfl ?_
    have e1 : Ev ab_Z0 1 48 [.int (nI c)] (ww im lf s d k (lsF (wgh s m (qN s))) rf rz ra rn rq lt m1 m2 m3 m4 bd fc hd sz el t g fm hm so si sh ce ca td wa kp la bf oo bo pw ow tr) (some (.int (nI 1)), (ww im lf s d k (lsF (wgh s m (qN s))) rf rz ra rn rq lt m1 m2 m3 m4 bd fc hd sz el t g fm hm so si sh ce ca td wa kp la bf oo bo pw ow tr)) := by
      refine Ef.in (md := mX4_isAmount) (L := [some (.int (nI c))]) rfl (Nat.le_of_ble_eq_true rfl) rfl ?_
      refine E_iload_n at_X4_isAmount_0 rfl ?_
      refine E_if (t := 14) (b := false) at_X4_isAmount_1 rfl ((cn_lt (nI_toInt (by omega)) (by decide : (0 : Int32).toInt = 0)).trans (decide_eq_false (by omega))) ?_
      refine E_iload_n at_X4_isAmount_4 rfl ?_
      refine E_bipush (x := nI 100) at_X4_isAmount_5 (by decide) ?_
      refine E_ic (t := 14) (b := false) at_X4_isAmount_7 rfl ((cn_ge (nI_toInt (by omega)) (nI_toInt (by omega))).trans (decide_eq_false (by omega))) ?_
      refine E_iconst (x := nI 1) at_X4_isAmount_10 (by decide) ?_
      refine E_goto (t := 15) at_X4_isAmount_11 rfl ?_
      exact E_iret at_X4_isAmount_15 rfl
    refine E_callS (v := some (.int (nI 1))) (As := [.int (nI c)]) (r0 := []) (cs2 := (ww im lf s d k (lsF (wgh s m (qN s))) rf rz ra rn rq lt m1 m2 m3 m4 bd fc hd sz el t g fm hm so si sh ce ca td wa kp la bf oo bo pw ow tr)) at_X0_fewestFor_1 rfl rfl (Nat.le_of_ble_eq_true rfl) rfl e1 (by decide) rfl ?_
    refine E_if (t := 17) (b := false) at_X0_fewestFor_4 rfl (by decide) ?_
    refine E_aload_n at_X0_fewestFor_7 rfl ?_
    refine E_getfield (v := .ref 33) at_X0_fewestFor_8 w32 rfl (by decide) rfl ?_
    refine E_iload_n at_X0_fewestFor_11 rfl ?_
    refine E_ialI (l := (lsF (wgh s m (qN s)))) (v := nI (kAt s B0 (qN s))) at_X0_fewestFor_12 w33 (by omega) (by omega) (by rw [lsF_get (by omega), hk0]; exact qE_s _) ?_
    refine E_iconst (x := (-1)) at_X0_fewestFor_13 (by decide) ?_
    refine E_ic (t := 19) (b := true) at_X0_fewestFor_14 rfl ((cn_ne (nI_toInt (by omega)) (by decide : (-1 : Int32).toInt = -1)).trans (decide_eq_true (by omega))) ?_
    refine E_aload_n at_X0_fewestFor_19 rfl ?_
    refine E_getfield (v := .ref 33) at_X0_fewestFor_20 w32 rfl (by decide) rfl ?_
    refine E_iload_n at_X0_fewestFor_23 rfl ?_
    refine E_ialI (l := (lsF (wgh s m (qN s)))) (v := nI (kAt s B0 (qN s))) at_X0_fewestFor_24 w33 (by omega) (by omega) (by rw [lsF_get (by omega), hk0]; exact qE_s _) ?_
    refine E_sipush (x := nI 1023) at_X0_fewestFor_25 (by decide) ?_
    refine E_iand (z := nI B0) at_X0_fewestFor_28 (kAt_and I hB0) ?_
    exact E_iret at_X0_fewestFor_29 rfl
set_option maxHeartbeats 1000000 in
theorem ru_cg {j n1 : Nat} (hj : j < 8) (hz : sz j = nI n1) (hn1 : n1 ≤ 160) (le : (el j).length = 160) {n : Nat} (hn : 2 * n ≤ n1) {x6 x7 : Option Value} (ha : ∀ q, q < n → isB (el j) 100 q) {r : Option Value × List ab_C} (K : Ef ab_Z0 4 mX5_rules (63, [some (.ref 0), some (.int (nI j)), some (.int (nI n)), some (.int (nI 0)), some (.ref (49 + 2 * j)), some (.int (nI n)), x6, x7], [], (ww im lf s d k ls rf rz ra rn rq lt m1 m2 m3 m4 bd fc hd sz el t g fm hm so si sh ce ca td wa kp la bf oo bo pw ow tr)) r) : ∀ n0 v , v + n0 = n → Ef ab_Z0 4 mX5_rules (31, [some (.ref 0), some (.int (nI j)), some (.int (nI n)), some (.int (nI 0)), some (.ref (49 + 2 * j)), some (.int (nI v)), x6, x7], [], (ww im lf s d k ls rf rz ra rn rq lt m1 m2 m3 m4 bd fc hd sz el t g fm hm so si sh ce ca td wa kp la bf oo bo pw ow tr)) r := by
  intro n0
  induction n0 with
  | zero =>
    intro v  hi
    have hi : v = n := by omega
    rw [hi]
    refine E_iload at_X5_rules_31 rfl ?_
    refine E_iload_n at_X5_rules_33 rfl ?_
    refine E_ic (t := 63) (b := true) at_X5_rules_34 rfl ((cn_ge (nI_toInt (by omega)) (nI_toInt (by omega))).trans (decide_eq_true (by omega))) ?_
    exact K
  | succ n0 ih =>
    intro v  hi
    obtain ⟨c, hc, ec⟩ := ha v (by omega)
    refine E_iload at_X5_rules_31 rfl ?_
    refine E_iload_n at_X5_rules_33 rfl ?_
    refine E_ic (t := 63) (b := false) at_X5_rules_34 rfl ((cn_ge (nI_toInt (by omega)) (nI_toInt (by omega))).trans (decide_eq_false (by omega))) ?_
    refine E_aload at_X5_rules_37 rfl ?_
    refine E_iload at_X5_rules_39 rfl ?_
    refine E_callV (v := some (.int (nI c))) (As := [.ref (49 + 2 * j), .int (nI v)]) (r0 := []) (cs2 := (ww im lf s d k ls rf rz ra rn rq lt m1 m2 m3 m4 bd fc hd sz el t g fm hm so si sh ce ca td wa kp la bf oo bo pw ow tr)) at_X5_rules_41 rfl rfl (Nat.le_of_ble_eq_true rfl) rfl (ab_rvOf (w_shv (j := j) (by omega) rfl hz) rfl) (Ev.vi ec (w_first hj hz (x := v) (by omega) hn1 le)) (by decide) rfl ?_
    have e1 : Ev ab_Z0 1 48 [.int (nI c)] (ww im lf s d k ls rf rz ra rn rq lt m1 m2 m3 m4 bd fc hd sz el t g fm hm so si sh ce ca td wa kp la bf oo bo pw ow tr) (some (.int (nI 1)), (ww im lf s d k ls rf rz ra rn rq lt m1 m2 m3 m4 bd fc hd sz el t g fm hm so si sh ce ca td wa kp la bf oo bo pw ow tr)) := by
      refine Ef.in (md := mX4_isAmount) (L := [some (.int (nI c))]) rfl (Nat.le_of_ble_eq_true rfl) rfl ?_
      refine E_iload_n at_X4_isAmount_0 rfl ?_
      refine E_if (t := 14) (b := false) at_X4_isAmount_1 rfl ((cn_lt (nI_toInt (by omega)) (by decide : (0 : Int32).toInt = 0)).trans (decide_eq_false (by omega))) ?_
      refine E_iload_n at_X4_isAmount_4 rfl ?_
      refine E_bipush (x := nI 100) at_X4_isAmount_5 (by decide) ?_
      refine E_ic (t := 14) (b := false) at_X4_isAmount_7 rfl ((cn_ge (nI_toInt (by omega)) (nI_toInt (by omega))).trans (decide_eq_false (by omega))) ?_
      refine E_iconst (x := nI 1) at_X4_isAmount_10 (by decide) ?_
      refine E_goto (t := 15) at_X4_isAmount_11 rfl ?_
      exact E_iret at_X4_isAmount_15 rfl
    refine E_callS (v := some (.int (nI 1))) (As := [.int (nI c)]) (r0 := []) (cs2 := (ww im lf s d k ls rf rz ra rn rq lt m1 m2 m3 m4 bd fc hd sz el t g fm hm so si sh ce ca td wa kp la bf oo bo pw ow tr)) at_X5_rules_44 rfl rfl (Nat.le_of_ble_eq_true rfl) rfl e1 (by decide) rfl ?_
    refine E_if (t := 57) (b := true) at_X5_rules_47 rfl (by decide) ?_
    refine E_iinc (y := nI (v + 1)) (L2 := [some (.ref 0), some (.int (nI j)), some (.int (nI n)), some (.int (nI 0)), some (.ref (49 + 2 * j)), some (.int (nI (v + 1))), x6, x7]) rfl rfl (nI_1 _) rfl ?_
    refine E_goto (t := 31) rfl rfl ?_
    exact ih (v + 1) (by omega)
set_option maxHeartbeats 1000000 in
theorem ru_cb {j n1 : Nat} (hj : j < 8) (hz : sz j = nI n1) (hn1 : n1 ≤ 160) (le : (el j).length = 160) {n : Nat} (hn : 2 * n ≤ n1) {x6 x7 : Option Value} (l_fc : fc.length = 8) : ∀ n0 v , v + n0 = n → (∃ q, v ≤ q ∧ q < n ∧ ¬ isB (el j) 100 q) → Ef ab_Z0 4 mX5_rules (31, [some (.ref 0), some (.int (nI j)), some (.int (nI n)), some (.int (nI 0)), some (.ref (49 + 2 * j)), some (.int (nI v)), x6, x7], [], (ww im lf s d k ls rf rz ra rn rq lt m1 m2 m3 m4 bd fc hd sz el t g fm hm so si sh ce ca td wa kp la bf oo bo pw ow tr)) (some (.int (-6)), (ww im lf s d k ls rf rz ra rn rq lt m1 m2 m3 m4 bd (fc.set 6 ((fc.getD 6 0) + (nI 1))) hd sz el t g fm hm so si sh ce ca td wa kp la bf oo bo pw ow tr)) := by
  intro n0
  induction n0 with
  | zero =>
    intro v  hi hq
    obtain ⟨q, h1, h2, h3⟩ := hq
    omega
  | succ n0 ih =>
    intro v  hi hq
    rcases Classical.em (isB (el j) 100 v) with ⟨c, hc, ec⟩ | hna
    · refine E_iload at_X5_rules_31 rfl ?_
      refine E_iload_n at_X5_rules_33 rfl ?_
      refine E_ic (t := 63) (b := false) at_X5_rules_34 rfl ((cn_ge (nI_toInt (by omega)) (nI_toInt (by omega))).trans (decide_eq_false (by omega))) ?_
      refine E_aload at_X5_rules_37 rfl ?_
      refine E_iload at_X5_rules_39 rfl ?_
      refine E_callV (v := some (.int (nI c))) (As := [.ref (49 + 2 * j), .int (nI v)]) (r0 := []) (cs2 := (ww im lf s d k ls rf rz ra rn rq lt m1 m2 m3 m4 bd fc hd sz el t g fm hm so si sh ce ca td wa kp la bf oo bo pw ow tr)) at_X5_rules_41 rfl rfl (Nat.le_of_ble_eq_true rfl) rfl (ab_rvOf (w_shv (j := j) (by omega) rfl hz) rfl) (Ev.vi ec (w_first hj hz (x := v) (by omega) hn1 le)) (by decide) rfl ?_
      have e1 : Ev ab_Z0 1 48 [.int (nI c)] (ww im lf s d k ls rf rz ra rn rq lt m1 m2 m3 m4 bd fc hd sz el t g fm hm so si sh ce ca td wa kp la bf oo bo pw ow tr) (some (.int (nI 1)), (ww im lf s d k ls rf rz ra rn rq lt m1 m2 m3 m4 bd fc hd sz el t g fm hm so si sh ce ca td wa kp la bf oo bo pw ow tr)) := by
        refine Ef.in (md := mX4_isAmount) (L := [some (.int (nI c))]) rfl (Nat.le_of_ble_eq_true rfl) rfl ?_
        refine E_iload_n at_X4_isAmount_0 rfl ?_
        refine E_if (t := 14) (b := false) at_X4_isAmount_1 rfl ((cn_lt (nI_toInt (by omega)) (by decide : (0 : Int32).toInt = 0)).trans (decide_eq_false (by omega))) ?_
        refine E_iload_n at_X4_isAmount_4 rfl ?_
        refine E_bipush (x := nI 100) at_X4_isAmount_5 (by decide) ?_
        refine E_ic (t := 14) (b := false) at_X4_isAmount_7 rfl ((cn_ge (nI_toInt (by omega)) (nI_toInt (by omega))).trans (decide_eq_false (by omega))) ?_
        refine E_iconst (x := nI 1) at_X4_isAmount_10 (by decide) ?_
        refine E_goto (t := 15) at_X4_isAmount_11 rfl ?_
        exact E_iret at_X4_isAmount_15 rfl
      refine E_callS (v := some (.int (nI 1))) (As := [.int (nI c)]) (r0 := []) (cs2 := (ww im lf s d k ls rf rz ra rn rq lt m1 m2 m3 m4 bd fc hd sz el t g fm hm so si sh ce ca td wa kp la bf oo bo pw ow tr)) at_X5_rules_44 rfl rfl (Nat.le_of_ble_eq_true rfl) rfl e1 (by decide) rfl ?_
      refine E_if (t := 57) (b := true) at_X5_rules_47 rfl (by decide) ?_
      refine E_iinc (y := nI (v + 1)) (L2 := [some (.ref 0), some (.int (nI j)), some (.int (nI n)), some (.int (nI 0)), some (.ref (49 + 2 * j)), some (.int (nI (v + 1))), x6, x7]) rfl rfl (nI_1 _) rfl ?_
      refine E_goto (t := 31) rfl rfl ?_
      exact ih (v + 1) (by omega) (isB_next hq ⟨c, hc, ec⟩)
    · rcases ab_int (tw (el j) (2 * v)) with ⟨c, hc, ec⟩ | hc
      · have hc2 : ¬ c < 100 := fun z => hna ⟨c, z, ec⟩
        refine E_iload at_X5_rules_31 rfl ?_
        refine E_iload_n at_X5_rules_33 rfl ?_
        refine E_ic (t := 63) (b := false) at_X5_rules_34 rfl ((cn_ge (nI_toInt (by omega)) (nI_toInt (by omega))).trans (decide_eq_false (by omega))) ?_
        refine E_aload at_X5_rules_37 rfl ?_
        refine E_iload at_X5_rules_39 rfl ?_
        refine E_callV (v := some (.int (nI c))) (As := [.ref (49 + 2 * j), .int (nI v)]) (r0 := []) (cs2 := (ww im lf s d k ls rf rz ra rn rq lt m1 m2 m3 m4 bd fc hd sz el t g fm hm so si sh ce ca td wa kp la bf oo bo pw ow tr)) at_X5_rules_41 rfl rfl (Nat.le_of_ble_eq_true rfl) rfl (ab_rvOf (w_shv (j := j) (by omega) rfl hz) rfl) (Ev.vi ec (w_first hj hz (x := v) (by omega) hn1 le)) (by decide) rfl ?_
        have e1 : Ev ab_Z0 1 48 [.int (nI c)] (ww im lf s d k ls rf rz ra rn rq lt m1 m2 m3 m4 bd fc hd sz el t g fm hm so si sh ce ca td wa kp la bf oo bo pw ow tr) (some (.int (nI 0)), (ww im lf s d k ls rf rz ra rn rq lt m1 m2 m3 m4 bd fc hd sz el t g fm hm so si sh ce ca td wa kp la bf oo bo pw ow tr)) := by
          refine Ef.in (md := mX4_isAmount) (L := [some (.int (nI c))]) rfl (Nat.le_of_ble_eq_true rfl) rfl ?_
          refine E_iload_n at_X4_isAmount_0 rfl ?_
          refine E_if (t := 14) (b := false) at_X4_isAmount_1 rfl ((cn_lt (nI_toInt (by omega)) (by decide : (0 : Int32).toInt = 0)).trans (decide_eq_false (by omega))) ?_
          refine E_iload_n at_X4_isAmount_4 rfl ?_
          refine E_bipush (x := nI 100) at_X4_isAmount_5 (by decide) ?_
          refine E_ic (t := 14) (b := true) at_X4_isAmount_7 rfl ((cn_ge (nI_toInt (by omega)) (nI_toInt (by omega))).trans (decide_eq_true (by omega))) ?_
          refine E_iconst (x := nI 0) at_X4_isAmount_14 (by decide) ?_
          exact E_iret at_X4_isAmount_15 rfl
        refine E_callS (v := some (.int (nI 0))) (As := [.int (nI c)]) (r0 := []) (cs2 := (ww im lf s d k ls rf rz ra rn rq lt m1 m2 m3 m4 bd fc hd sz el t g fm hm so si sh ce ca td wa kp la bf oo bo pw ow tr)) at_X5_rules_44 rfl rfl (Nat.le_of_ble_eq_true rfl) rfl e1 (by decide) rfl ?_
        refine E_if (t := 57) (b := false) at_X5_rules_47 rfl (by decide) ?_
        refine E_aload_n rfl rfl ?_
        refine E_bipush (x := nI 6) rfl (by decide) ?_
        have e3 : Ev ab_Z0 2 118 [.ref 0, .int (nI 6)] (ww im lf s d k ls rf rz ra rn rq lt m1 m2 m3 m4 bd fc hd sz el t g fm hm so si sh ce ca td wa kp la bf oo bo pw ow tr) (some (.int (-6)), (ww im lf s d k ls rf rz ra rn rq lt m1 m2 m3 m4 bd (fc.set 6 ((fc.getD 6 0) + (nI 1))) hd sz el t g fm hm so si sh ce ca td wa kp la bf oo bo pw ow tr)) := by
          refine Ef.in (md := mX5_refuse) (L := [some (.ref 0), some (.int (nI 6))]) rfl (Nat.le_of_ble_eq_true rfl) rfl ?_
          refine E_iload_n at_X5_refuse_0 rfl ?_
          refine E_iconst (x := nI 1) at_X5_refuse_1 (by decide) ?_
          refine E_bipush (x := nI 7) at_X5_refuse_2 (by decide) ?_
          have e2 : Ev ab_Z0 1 115 [.int (nI 6), .int (nI 1), .int (nI 7)] (ww im lf s d k ls rf rz ra rn rq lt m1 m2 m3 m4 bd fc hd sz el t g fm hm so si sh ce ca td wa kp la bf oo bo pw ow tr) (some (.int (nI 1)), (ww im lf s d k ls rf rz ra rn rq lt m1 m2 m3 m4 bd fc hd sz el t g fm hm so si sh ce ca td wa kp la bf oo bo pw ow tr)) := by
            refine Ef.in (md := mX5_isFrom) (L := [some (.int (nI 6)), some (.int (nI 1)), some (.int (nI 7))]) rfl (Nat.le_of_ble_eq_true rfl) rfl ?_
            refine E_iload_n at_X5_isFrom_0 rfl ?_
            refine E_iload_n at_X5_isFrom_1 rfl ?_
            refine E_ic (t := 14) (b := false) at_X5_isFrom_2 rfl (by decide) ?_
            refine E_iload_n at_X5_isFrom_5 rfl ?_
            refine E_iload_n at_X5_isFrom_6 rfl ?_
            refine E_ic (t := 14) (b := false) at_X5_isFrom_7 rfl (by decide) ?_
            refine E_iconst (x := nI 1) at_X5_isFrom_10 (by decide) ?_
            refine E_goto (t := 15) at_X5_isFrom_11 rfl ?_
            exact E_iret at_X5_isFrom_15 rfl
          refine E_callS (v := some (.int (nI 1))) (As := [.int (nI 6), .int (nI 1), .int (nI 7)]) (r0 := []) (cs2 := (ww im lf s d k ls rf rz ra rn rq lt m1 m2 m3 m4 bd fc hd sz el t g fm hm so si sh ce ca td wa kp la bf oo bo pw ow tr)) at_X5_refuse_4 rfl rfl (Nat.le_of_ble_eq_true rfl) rfl e2 (by decide) rfl ?_
          refine E_if (t := 20) (b := false) at_X5_refuse_7 rfl (by decide) ?_
          refine E_aload_n at_X5_refuse_10 rfl ?_
          refine E_getfield (v := .ref 48) at_X5_refuse_11 w0 rfl (by decide) rfl ?_
          refine E_iload_n at_X5_refuse_14 rfl ?_
          refine E_dup2 at_X5_refuse_15 ⟨rfl, rfl⟩ ?_
          refine E_ialI (l := fc) (v := fc.getD 6 0) at_X5_refuse_16 w48 (by omega) (by omega) rfl ?_
          refine E_iconst (x := nI 1) at_X5_refuse_17 (by decide) ?_
          refine E_iadd (z := (fc.getD 6 0) + (nI 1)) at_X5_refuse_18 rfl ?_
          refine E_iasI (l := fc) (cs2 := (ww im lf s d k ls rf rz ra rn rq lt m1 m2 m3 m4 bd (fc.set 6 ((fc.getD 6 0) + (nI 1))) hd sz el t g fm hm so si sh ce ca td wa kp la bf oo bo pw ow tr)) at_X5_refuse_19 w48 (by omega) (by omega) rfl ?_
          refine E_iload_n at_X5_refuse_20 rfl ?_
          refine E_ineg (z := (-6)) at_X5_refuse_21 (by decide) ?_
          exact E_iret at_X5_refuse_22 rfl
        refine E_callV (v := some (.int (-6))) (As := [.ref 0, .int (nI 6)]) (r0 := []) (cs2 := (ww im lf s d k ls rf rz ra rn rq lt m1 m2 m3 m4 bd (fc.set 6 ((fc.getD 6 0) + (nI 1))) hd sz el t g fm hm so si sh ce ca td wa kp la bf oo bo pw ow tr)) rfl rfl rfl (Nat.le_of_ble_eq_true rfl) rfl (ab_rvOf w0 rfl) e3 (by decide) w_lens ?_
        exact E_iret rfl rfl
      · refine E_iload at_X5_rules_31 rfl ?_
        refine E_iload_n at_X5_rules_33 rfl ?_
        refine E_ic (t := 63) (b := false) at_X5_rules_34 rfl ((cn_ge (nI_toInt (by omega)) (nI_toInt (by omega))).trans (decide_eq_false (by omega))) ?_
        refine E_aload at_X5_rules_37 rfl ?_
        refine E_iload at_X5_rules_39 rfl ?_
        refine E_callV (v := some (.int (tw (el j) (2 * v)))) (As := [.ref (49 + 2 * j), .int (nI v)]) (r0 := []) (cs2 := (ww im lf s d k ls rf rz ra rn rq lt m1 m2 m3 m4 bd fc hd sz el t g fm hm so si sh ce ca td wa kp la bf oo bo pw ow tr)) at_X5_rules_41 rfl rfl (Nat.le_of_ble_eq_true rfl) rfl (ab_rvOf (w_shv (j := j) (by omega) rfl hz) rfl) (w_first hj hz (x := v) (by omega) hn1 le) (by decide) rfl ?_
        have e1 : Ev ab_Z0 1 48 [.int (tw (el j) (2 * v))] (ww im lf s d k ls rf rz ra rn rq lt m1 m2 m3 m4 bd fc hd sz el t g fm hm so si sh ce ca td wa kp la bf oo bo pw ow tr) (some (.int (nI 0)), (ww im lf s d k ls rf rz ra rn rq lt m1 m2 m3 m4 bd fc hd sz el t g fm hm so si sh ce ca td wa kp la bf oo bo pw ow tr)) := by
          refine Ef.in (md := mX4_isAmount) (L := [some (.int (tw (el j) (2 * v)))]) rfl (Nat.le_of_ble_eq_true rfl) rfl ?_
          refine E_iload_n at_X4_isAmount_0 rfl ?_
          refine E_if (t := 14) (b := true) at_X4_isAmount_1 rfl ((cn_lt rfl (by decide : (0 : Int32).toInt = 0)).trans (decide_eq_true (by omega))) ?_
          refine E_iconst (x := nI 0) at_X4_isAmount_14 (by decide) ?_
          exact E_iret at_X4_isAmount_15 rfl
        refine E_callS (v := some (.int (nI 0))) (As := [.int (tw (el j) (2 * v))]) (r0 := []) (cs2 := (ww im lf s d k ls rf rz ra rn rq lt m1 m2 m3 m4 bd fc hd sz el t g fm hm so si sh ce ca td wa kp la bf oo bo pw ow tr)) at_X5_rules_44 rfl rfl (Nat.le_of_ble_eq_true rfl) rfl e1 (by decide) rfl ?_
        refine E_if (t := 57) (b := false) at_X5_rules_47 rfl (by decide) ?_
        refine E_aload_n rfl rfl ?_
        refine E_bipush (x := nI 6) rfl (by decide) ?_
        have e3 : Ev ab_Z0 2 118 [.ref 0, .int (nI 6)] (ww im lf s d k ls rf rz ra rn rq lt m1 m2 m3 m4 bd fc hd sz el t g fm hm so si sh ce ca td wa kp la bf oo bo pw ow tr) (some (.int (-6)), (ww im lf s d k ls rf rz ra rn rq lt m1 m2 m3 m4 bd (fc.set 6 ((fc.getD 6 0) + (nI 1))) hd sz el t g fm hm so si sh ce ca td wa kp la bf oo bo pw ow tr)) := by
          refine Ef.in (md := mX5_refuse) (L := [some (.ref 0), some (.int (nI 6))]) rfl (Nat.le_of_ble_eq_true rfl) rfl ?_
          refine E_iload_n at_X5_refuse_0 rfl ?_
          refine E_iconst (x := nI 1) at_X5_refuse_1 (by decide) ?_
          refine E_bipush (x := nI 7) at_X5_refuse_2 (by decide) ?_
          have e2 : Ev ab_Z0 1 115 [.int (nI 6), .int (nI 1), .int (nI 7)] (ww im lf s d k ls rf rz ra rn rq lt m1 m2 m3 m4 bd fc hd sz el t g fm hm so si sh ce ca td wa kp la bf oo bo pw ow tr) (some (.int (nI 1)), (ww im lf s d k ls rf rz ra rn rq lt m1 m2 m3 m4 bd fc hd sz el t g fm hm so si sh ce ca td wa kp la bf oo bo pw ow tr)) := by
            refine Ef.in (md := mX5_isFrom) (L := [some (.int (nI 6)), some (.int (nI 1)), some (.int (nI 7))]) rfl (Nat.le_of_ble_eq_true rfl) rfl ?_
            refine E_iload_n at_X5_isFrom_0 rfl ?_
            refine E_iload_n at_X5_isFrom_1 rfl ?_
            refine E_ic (t := 14) (b := false) at_X5_isFrom_2 rfl (by decide) ?_
            refine E_iload_n at_X5_isFrom_5 rfl ?_
            refine E_iload_n at_X5_isFrom_6 rfl ?_
            refine E_ic (t := 14) (b := false) at_X5_isFrom_7 rfl (by decide) ?_
            refine E_iconst (x := nI 1) at_X5_isFrom_10 (by decide) ?_
            refine E_goto (t := 15) at_X5_isFrom_11 rfl ?_
            exact E_iret at_X5_isFrom_15 rfl
          refine E_callS (v := some (.int (nI 1))) (As := [.int (nI 6), .int (nI 1), .int (nI 7)]) (r0 := []) (cs2 := (ww im lf s d k ls rf rz ra rn rq lt m1 m2 m3 m4 bd fc hd sz el t g fm hm so si sh ce ca td wa kp la bf oo bo pw ow tr)) at_X5_refuse_4 rfl rfl (Nat.le_of_ble_eq_true rfl) rfl e2 (by decide) rfl ?_
          refine E_if (t := 20) (b := false) at_X5_refuse_7 rfl (by decide) ?_
          refine E_aload_n at_X5_refuse_10 rfl ?_
          refine E_getfield (v := .ref 48) at_X5_refuse_11 w0 rfl (by decide) rfl ?_
          refine E_iload_n at_X5_refuse_14 rfl ?_
          refine E_dup2 at_X5_refuse_15 ⟨rfl, rfl⟩ ?_
          refine E_ialI (l := fc) (v := fc.getD 6 0) at_X5_refuse_16 w48 (by omega) (by omega) rfl ?_
          refine E_iconst (x := nI 1) at_X5_refuse_17 (by decide) ?_
          refine E_iadd (z := (fc.getD 6 0) + (nI 1)) at_X5_refuse_18 rfl ?_
          refine E_iasI (l := fc) (cs2 := (ww im lf s d k ls rf rz ra rn rq lt m1 m2 m3 m4 bd (fc.set 6 ((fc.getD 6 0) + (nI 1))) hd sz el t g fm hm so si sh ce ca td wa kp la bf oo bo pw ow tr)) at_X5_refuse_19 w48 (by omega) (by omega) rfl ?_
          refine E_iload_n at_X5_refuse_20 rfl ?_
          refine E_ineg (z := (-6)) at_X5_refuse_21 (by decide) ?_
          exact E_iret at_X5_refuse_22 rfl
        refine E_callV (v := some (.int (-6))) (As := [.ref 0, .int (nI 6)]) (r0 := []) (cs2 := (ww im lf s d k ls rf rz ra rn rq lt m1 m2 m3 m4 bd (fc.set 6 ((fc.getD 6 0) + (nI 1))) hd sz el t g fm hm so si sh ce ca td wa kp la bf oo bo pw ow tr)) rfl rfl rfl (Nat.le_of_ble_eq_true rfl) rfl (ab_rvOf w0 rfl) e3 (by decide) w_lens ?_
        exact E_iret rfl rfl
set_option maxHeartbeats 1000000 in
theorem ru_mg {j n1 : Nat} (hj : j < 8) (hz : sz j = nI n1) (hn1 : n1 ≤ 160) (le : (el j).length = 160) {n : Nat} (hn : 2 * n ≤ n1) {x5 x6 x7 : Option Value} (l_ce : ce.length = 1280) (hce : ∀ q, q < 160 → (el j).getD q 0 = ce.getD (160 * j + q) 0) (ha : ∀ q, q < n → isB (el j) 100 q) {r : Option Value × List ab_C} (K : Ef ab_Z0 3 mX6_rules (51, [some (.ref 65), some (.int (nI j)), some (.int (nI n)), some (.int (nI 0)), some (.int (nI n)), x5, x6, x7], [], (ww im lf s d k ls rf rz ra rn rq lt m1 m2 m3 m4 bd fc hd sz el t g fm hm so si sh ce ca td wa kp la bf oo bo pw ow tr)) r) : ∀ n0 v , v + n0 = n → Ef ab_Z0 3 mX6_rules (13, [some (.ref 65), some (.int (nI j)), some (.int (nI n)), some (.int (nI 0)), some (.int (nI v)), x5, x6, x7], [], (ww im lf s d k ls rf rz ra rn rq lt m1 m2 m3 m4 bd fc hd sz el t g fm hm so si sh ce ca td wa kp la bf oo bo pw ow tr)) r := by
  intro n0
  induction n0 with
  | zero =>
    intro v  hi
    have hi : v = n := by omega
    rw [hi]
    refine E_iload at_X6_rules_13 rfl ?_
    refine E_iload_n at_X6_rules_15 rfl ?_
    refine E_ic (t := 51) (b := true) at_X6_rules_16 rfl ((cn_ge (nI_toInt (by omega)) (nI_toInt (by omega))).trans (decide_eq_true (by omega))) ?_
    exact K
  | succ n0 ih =>
    intro v  hi
    obtain ⟨c, hc, ec⟩ := ha v (by omega)
    refine E_iload at_X6_rules_13 rfl ?_
    refine E_iload_n at_X6_rules_15 rfl ?_
    refine E_ic (t := 51) (b := false) at_X6_rules_16 rfl ((cn_ge (nI_toInt (by omega)) (nI_toInt (by omega))).trans (decide_eq_false (by omega))) ?_
    refine E_iload_n at_X6_rules_19 rfl ?_
    refine E_if (t := 51) (b := false) at_X6_rules_20 rfl (by decide) ?_
    refine E_aload_n at_X6_rules_23 rfl ?_
    refine E_aload_n at_X6_rules_24 rfl ?_
    refine E_iload_n at_X6_rules_25 rfl ?_
    refine E_iconst (x := nI 2) at_X6_rules_26 (by decide) ?_
    refine E_iload at_X6_rules_27 rfl ?_
    refine E_imul (z := nI (2 * v)) at_X6_rules_29 (pk_mul _ _) ?_
    refine E_callV (v := some (.int (nI c))) (As := [.ref 65, .int (nI j), .int (nI (2 * v))]) (r0 := [.ref 65]) (cs2 := (ww im lf s d k ls rf rz ra rn rq lt m1 m2 m3 m4 bd fc hd sz el t g fm hm so si sh ce ca td wa kp la bf oo bo pw ow tr)) at_X6_rules_30 rfl rfl (Nat.le_of_ble_eq_true rfl) rfl (ab_rvOf w65 rfl) (Ev.vi ec (m_intAt (q := 2 * v) hj (by omega) l_ce hce)) (by decide) rfl ?_
    refine E_iconst (x := nI 0) at_X6_rules_33 (by decide) ?_
    refine E_bipush (x := nI 99) at_X6_rules_34 (by decide) ?_
    have e1 : Ev ab_Z0 1 134 [.ref 65, .int (nI c), .int (nI 0), .int (nI 99)] (ww im lf s d k ls rf rz ra rn rq lt m1 m2 m3 m4 bd fc hd sz el t g fm hm so si sh ce ca td wa kp la bf oo bo pw ow tr) (some (.int (nI 1)), (ww im lf s d k ls rf rz ra rn rq lt m1 m2 m3 m4 bd fc hd sz el t g fm hm so si sh ce ca td wa kp la bf oo bo pw ow tr)) := by
      refine Ef.in (md := mX6_isFrom) (L := [some (.ref 65), some (.int (nI c)), some (.int (nI 0)), some (.int (nI 99))]) rfl (Nat.le_of_ble_eq_true rfl) rfl ?_
      refine E_iload_n at_X6_isFrom_0 rfl ?_
      refine E_iload_n at_X6_isFrom_1 rfl ?_
      refine E_ic (t := 14) (b := false) at_X6_isFrom_2 rfl ((cn_lt (nI_toInt (by omega)) (nI_toInt (by omega))).trans (decide_eq_false (by omega))) ?_
      refine E_iload_n at_X6_isFrom_5 rfl ?_
      refine E_iload_n at_X6_isFrom_6 rfl ?_
      refine E_ic (t := 14) (b := false) at_X6_isFrom_7 rfl ((cn_gt (nI_toInt (by omega)) (nI_toInt (by omega))).trans (decide_eq_false (by omega))) ?_
      refine E_iconst (x := nI 1) at_X6_isFrom_10 (by decide) ?_
      refine E_goto (t := 15) at_X6_isFrom_11 rfl ?_
      exact E_iret at_X6_isFrom_15 rfl
    refine E_callV (v := some (.int (nI 1))) (As := [.ref 65, .int (nI c), .int (nI 0), .int (nI 99)]) (r0 := []) (cs2 := (ww im lf s d k ls rf rz ra rn rq lt m1 m2 m3 m4 bd fc hd sz el t g fm hm so si sh ce ca td wa kp la bf oo bo pw ow tr)) at_X6_rules_36 rfl rfl (Nat.le_of_ble_eq_true rfl) rfl (ab_rvOf w65 rfl) e1 (by decide) rfl ?_
    refine E_if (t := 45) (b := true) at_X6_rules_39 rfl (by decide) ?_
    refine E_iinc (y := nI (v + 1)) (L2 := [some (.ref 65), some (.int (nI j)), some (.int (nI n)), some (.int (nI 0)), some (.int (nI (v + 1))), x5, x6, x7]) at_X6_rules_45 rfl (nI_1 _) rfl ?_
    refine E_goto (t := 13) at_X6_rules_48 rfl ?_
    exact ih (v + 1) (by omega)
set_option maxHeartbeats 1000000 in
theorem ru_mb {j n1 : Nat} (hj : j < 8) (hz : sz j = nI n1) (hn1 : n1 ≤ 160) (le : (el j).length = 160) {n : Nat} (hn : 2 * n ≤ n1) {x5 x6 x7 : Option Value} (l_ce : ce.length = 1280) (hce : ∀ q, q < 160 → (el j).getD q 0 = ce.getD (160 * j + q) 0) {r : Option Value × List ab_C} (K : ∀ v : Nat, v < 2147483648 → Ef ab_Z0 3 mX6_rules (51, [some (.ref 65), some (.int (nI j)), some (.int (nI n)), some (.int (-6)), some (.int (nI v)), x5, x6, x7], [], (ww im lf s d k ls rf rz ra rn rq lt m1 m2 m3 m4 bd fc hd sz el t g fm hm so si sh ce ca td wa kp la bf oo bo pw ow tr)) r) : ∀ n0 v , v + n0 = n → (∃ q, v ≤ q ∧ q < n ∧ ¬ isB (el j) 100 q) → Ef ab_Z0 3 mX6_rules (13, [some (.ref 65), some (.int (nI j)), some (.int (nI n)), some (.int (nI 0)), some (.int (nI v)), x5, x6, x7], [], (ww im lf s d k ls rf rz ra rn rq lt m1 m2 m3 m4 bd fc hd sz el t g fm hm so si sh ce ca td wa kp la bf oo bo pw ow tr)) r := by
  intro n0
  induction n0 with
  | zero =>
    intro v  hi hq
    obtain ⟨q, h1, h2, h3⟩ := hq
    omega
  | succ n0 ih =>
    intro v  hi hq
    rcases Classical.em (isB (el j) 100 v) with ⟨c, hc, ec⟩ | hna
    · refine E_iload at_X6_rules_13 rfl ?_
      refine E_iload_n at_X6_rules_15 rfl ?_
      refine E_ic (t := 51) (b := false) at_X6_rules_16 rfl ((cn_ge (nI_toInt (by omega)) (nI_toInt (by omega))).trans (decide_eq_false (by omega))) ?_
      refine E_iload_n at_X6_rules_19 rfl ?_
      refine E_if (t := 51) (b := false) at_X6_rules_20 rfl (by decide) ?_
      refine E_aload_n at_X6_rules_23 rfl ?_
      refine E_aload_n at_X6_rules_24 rfl ?_
      refine E_iload_n at_X6_rules_25 rfl ?_
      refine E_iconst (x := nI 2) at_X6_rules_26 (by decide) ?_
      refine E_iload at_X6_rules_27 rfl ?_
      refine E_imul (z := nI (2 * v)) at_X6_rules_29 (pk_mul _ _) ?_
      refine E_callV (v := some (.int (nI c))) (As := [.ref 65, .int (nI j), .int (nI (2 * v))]) (r0 := [.ref 65]) (cs2 := (ww im lf s d k ls rf rz ra rn rq lt m1 m2 m3 m4 bd fc hd sz el t g fm hm so si sh ce ca td wa kp la bf oo bo pw ow tr)) at_X6_rules_30 rfl rfl (Nat.le_of_ble_eq_true rfl) rfl (ab_rvOf w65 rfl) (Ev.vi ec (m_intAt (q := 2 * v) hj (by omega) l_ce hce)) (by decide) rfl ?_
      refine E_iconst (x := nI 0) at_X6_rules_33 (by decide) ?_
      refine E_bipush (x := nI 99) at_X6_rules_34 (by decide) ?_
      have e1 : Ev ab_Z0 1 134 [.ref 65, .int (nI c), .int (nI 0), .int (nI 99)] (ww im lf s d k ls rf rz ra rn rq lt m1 m2 m3 m4 bd fc hd sz el t g fm hm so si sh ce ca td wa kp la bf oo bo pw ow tr) (some (.int (nI 1)), (ww im lf s d k ls rf rz ra rn rq lt m1 m2 m3 m4 bd fc hd sz el t g fm hm so si sh ce ca td wa kp la bf oo bo pw ow tr)) := by
        refine Ef.in (md := mX6_isFrom) (L := [some (.ref 65), some (.int (nI c)), some (.int (nI 0)), some (.int (nI 99))]) rfl (Nat.le_of_ble_eq_true rfl) rfl ?_
        refine E_iload_n at_X6_isFrom_0 rfl ?_
        refine E_iload_n at_X6_isFrom_1 rfl ?_
        refine E_ic (t := 14) (b := false) at_X6_isFrom_2 rfl ((cn_lt (nI_toInt (by omega)) (nI_toInt (by omega))).trans (decide_eq_false (by omega))) ?_
        refine E_iload_n at_X6_isFrom_5 rfl ?_
        refine E_iload_n at_X6_isFrom_6 rfl ?_
        refine E_ic (t := 14) (b := false) at_X6_isFrom_7 rfl ((cn_gt (nI_toInt (by omega)) (nI_toInt (by omega))).trans (decide_eq_false (by omega))) ?_
        refine E_iconst (x := nI 1) at_X6_isFrom_10 (by decide) ?_
        refine E_goto (t := 15) at_X6_isFrom_11 rfl ?_
        exact E_iret at_X6_isFrom_15 rfl
      refine E_callV (v := some (.int (nI 1))) (As := [.ref 65, .int (nI c), .int (nI 0), .int (nI 99)]) (r0 := []) (cs2 := (ww im lf s d k ls rf rz ra rn rq lt m1 m2 m3 m4 bd fc hd sz el t g fm hm so si sh ce ca td wa kp la bf oo bo pw ow tr)) at_X6_rules_36 rfl rfl (Nat.le_of_ble_eq_true rfl) rfl (ab_rvOf w65 rfl) e1 (by decide) rfl ?_
      refine E_if (t := 45) (b := true) at_X6_rules_39 rfl (by decide) ?_
      refine E_iinc (y := nI (v + 1)) (L2 := [some (.ref 65), some (.int (nI j)), some (.int (nI n)), some (.int (nI 0)), some (.int (nI (v + 1))), x5, x6, x7]) at_X6_rules_45 rfl (nI_1 _) rfl ?_
      refine E_goto (t := 13) at_X6_rules_48 rfl ?_
      exact ih (v + 1) (by omega) (isB_next hq ⟨c, hc, ec⟩)
    · rcases ab_int (tw (el j) (2 * v)) with ⟨c, hc, ec⟩ | hc
      · by_cases f2 : v + 1 < n
        · have hc2 : ¬ c < 100 := fun z => hna ⟨c, z, ec⟩
          refine E_iload at_X6_rules_13 rfl ?_
          refine E_iload_n at_X6_rules_15 rfl ?_
          refine E_ic (t := 51) (b := false) at_X6_rules_16 rfl ((cn_ge (nI_toInt (by omega)) (nI_toInt (by omega))).trans (decide_eq_false (by omega))) ?_
          refine E_iload_n at_X6_rules_19 rfl ?_
          refine E_if (t := 51) (b := false) at_X6_rules_20 rfl (by decide) ?_
          refine E_aload_n at_X6_rules_23 rfl ?_
          refine E_aload_n at_X6_rules_24 rfl ?_
          refine E_iload_n at_X6_rules_25 rfl ?_
          refine E_iconst (x := nI 2) at_X6_rules_26 (by decide) ?_
          refine E_iload at_X6_rules_27 rfl ?_
          refine E_imul (z := nI (2 * v)) at_X6_rules_29 (pk_mul _ _) ?_
          refine E_callV (v := some (.int (nI c))) (As := [.ref 65, .int (nI j), .int (nI (2 * v))]) (r0 := [.ref 65]) (cs2 := (ww im lf s d k ls rf rz ra rn rq lt m1 m2 m3 m4 bd fc hd sz el t g fm hm so si sh ce ca td wa kp la bf oo bo pw ow tr)) at_X6_rules_30 rfl rfl (Nat.le_of_ble_eq_true rfl) rfl (ab_rvOf w65 rfl) (Ev.vi ec (m_intAt (q := 2 * v) hj (by omega) l_ce hce)) (by decide) rfl ?_
          refine E_iconst (x := nI 0) at_X6_rules_33 (by decide) ?_
          refine E_bipush (x := nI 99) at_X6_rules_34 (by decide) ?_
          have e1 : Ev ab_Z0 1 134 [.ref 65, .int (nI c), .int (nI 0), .int (nI 99)] (ww im lf s d k ls rf rz ra rn rq lt m1 m2 m3 m4 bd fc hd sz el t g fm hm so si sh ce ca td wa kp la bf oo bo pw ow tr) (some (.int (nI 0)), (ww im lf s d k ls rf rz ra rn rq lt m1 m2 m3 m4 bd fc hd sz el t g fm hm so si sh ce ca td wa kp la bf oo bo pw ow tr)) := by
            refine Ef.in (md := mX6_isFrom) (L := [some (.ref 65), some (.int (nI c)), some (.int (nI 0)), some (.int (nI 99))]) rfl (Nat.le_of_ble_eq_true rfl) rfl ?_
            refine E_iload_n at_X6_isFrom_0 rfl ?_
            refine E_iload_n at_X6_isFrom_1 rfl ?_
            refine E_ic (t := 14) (b := false) at_X6_isFrom_2 rfl ((cn_lt (nI_toInt (by omega)) (nI_toInt (by omega))).trans (decide_eq_false (by omega))) ?_
            refine E_iload_n at_X6_isFrom_5 rfl ?_
            refine E_iload_n at_X6_isFrom_6 rfl ?_
            refine E_ic (t := 14) (b := true) at_X6_isFrom_7 rfl ((cn_gt (nI_toInt (by omega)) (nI_toInt (by omega))).trans (decide_eq_true (by omega))) ?_
            refine E_iconst (x := nI 0) at_X6_isFrom_14 (by decide) ?_
            exact E_iret at_X6_isFrom_15 rfl
          refine E_callV (v := some (.int (nI 0))) (As := [.ref 65, .int (nI c), .int (nI 0), .int (nI 99)]) (r0 := []) (cs2 := (ww im lf s d k ls rf rz ra rn rq lt m1 m2 m3 m4 bd fc hd sz el t g fm hm so si sh ce ca td wa kp la bf oo bo pw ow tr)) at_X6_rules_36 rfl rfl (Nat.le_of_ble_eq_true rfl) rfl (ab_rvOf w65 rfl) e1 (by decide) rfl ?_
          refine E_if (t := 45) (b := false) at_X6_rules_39 rfl (by decide) ?_
          refine E_bipush (x := (-6)) at_X6_rules_42 (by decide) ?_
          refine E_istore_n (L2 := [some (.ref 65), some (.int (nI j)), some (.int (nI n)), some (.int (-6)), some (.int (nI v)), x5, x6, x7]) at_X6_rules_44 rfl ?_
          refine E_iinc (y := nI (v + 1)) (L2 := [some (.ref 65), some (.int (nI j)), some (.int (nI n)), some (.int (-6)), some (.int (nI (v + 1))), x5, x6, x7]) at_X6_rules_45 rfl (nI_1 _) rfl ?_
          refine E_goto (t := 13) at_X6_rules_48 rfl ?_
          refine E_iload at_X6_rules_13 rfl ?_
          refine E_iload_n at_X6_rules_15 rfl ?_
          refine E_ic (t := 51) (b := false) at_X6_rules_16 rfl ((cn_ge (nI_toInt (by omega)) (nI_toInt (by omega))).trans (decide_eq_false (by omega))) ?_
          refine E_iload_n at_X6_rules_19 rfl ?_
          refine E_if (t := 51) (b := true) at_X6_rules_20 rfl (by decide) ?_
          exact K _ (by omega)
        · have hc2 : ¬ c < 100 := fun z => hna ⟨c, z, ec⟩
          refine E_iload at_X6_rules_13 rfl ?_
          refine E_iload_n at_X6_rules_15 rfl ?_
          refine E_ic (t := 51) (b := false) at_X6_rules_16 rfl ((cn_ge (nI_toInt (by omega)) (nI_toInt (by omega))).trans (decide_eq_false (by omega))) ?_
          refine E_iload_n at_X6_rules_19 rfl ?_
          refine E_if (t := 51) (b := false) at_X6_rules_20 rfl (by decide) ?_
          refine E_aload_n at_X6_rules_23 rfl ?_
          refine E_aload_n at_X6_rules_24 rfl ?_
          refine E_iload_n at_X6_rules_25 rfl ?_
          refine E_iconst (x := nI 2) at_X6_rules_26 (by decide) ?_
          refine E_iload at_X6_rules_27 rfl ?_
          refine E_imul (z := nI (2 * v)) at_X6_rules_29 (pk_mul _ _) ?_
          refine E_callV (v := some (.int (nI c))) (As := [.ref 65, .int (nI j), .int (nI (2 * v))]) (r0 := [.ref 65]) (cs2 := (ww im lf s d k ls rf rz ra rn rq lt m1 m2 m3 m4 bd fc hd sz el t g fm hm so si sh ce ca td wa kp la bf oo bo pw ow tr)) at_X6_rules_30 rfl rfl (Nat.le_of_ble_eq_true rfl) rfl (ab_rvOf w65 rfl) (Ev.vi ec (m_intAt (q := 2 * v) hj (by omega) l_ce hce)) (by decide) rfl ?_
          refine E_iconst (x := nI 0) at_X6_rules_33 (by decide) ?_
          refine E_bipush (x := nI 99) at_X6_rules_34 (by decide) ?_
          have e1 : Ev ab_Z0 1 134 [.ref 65, .int (nI c), .int (nI 0), .int (nI 99)] (ww im lf s d k ls rf rz ra rn rq lt m1 m2 m3 m4 bd fc hd sz el t g fm hm so si sh ce ca td wa kp la bf oo bo pw ow tr) (some (.int (nI 0)), (ww im lf s d k ls rf rz ra rn rq lt m1 m2 m3 m4 bd fc hd sz el t g fm hm so si sh ce ca td wa kp la bf oo bo pw ow tr)) := by
            refine Ef.in (md := mX6_isFrom) (L := [some (.ref 65), some (.int (nI c)), some (.int (nI 0)), some (.int (nI 99))]) rfl (Nat.le_of_ble_eq_true rfl) rfl ?_
            refine E_iload_n at_X6_isFrom_0 rfl ?_
            refine E_iload_n at_X6_isFrom_1 rfl ?_
            refine E_ic (t := 14) (b := false) at_X6_isFrom_2 rfl ((cn_lt (nI_toInt (by omega)) (nI_toInt (by omega))).trans (decide_eq_false (by omega))) ?_
            refine E_iload_n at_X6_isFrom_5 rfl ?_
            refine E_iload_n at_X6_isFrom_6 rfl ?_
            refine E_ic (t := 14) (b := true) at_X6_isFrom_7 rfl ((cn_gt (nI_toInt (by omega)) (nI_toInt (by omega))).trans (decide_eq_true (by omega))) ?_
            refine E_iconst (x := nI 0) at_X6_isFrom_14 (by decide) ?_
            exact E_iret at_X6_isFrom_15 rfl
          refine E_callV (v := some (.int (nI 0))) (As := [.ref 65, .int (nI c), .int (nI 0), .int (nI 99)]) (r0 := []) (cs2 := (ww im lf s d k ls rf rz ra rn rq lt m1 m2 m3 m4 bd fc hd sz el t g fm hm so si sh ce ca td wa kp la bf oo bo pw ow tr)) at_X6_rules_36 rfl rfl (Nat.le_of_ble_eq_true rfl) rfl (ab_rvOf w65 rfl) e1 (by decide) rfl ?_
          refine E_if (t := 45) (b := false) at_X6_rules_39 rfl (by decide) ?_
          refine E_bipush (x := (-6)) at_X6_rules_42 (by decide) ?_
          refine E_istore_n (L2 := [some (.ref 65), some (.int (nI j)), some (.int (nI n)), some (.int (-6)), some (.int (nI v)), x5, x6, x7]) at_X6_rules_44 rfl ?_
          refine E_iinc (y := nI (v + 1)) (L2 := [some (.ref 65), some (.int (nI j)), some (.int (nI n)), some (.int (-6)), some (.int (nI (v + 1))), x5, x6, x7]) at_X6_rules_45 rfl (nI_1 _) rfl ?_
          refine E_goto (t := 13) at_X6_rules_48 rfl ?_
          refine E_iload at_X6_rules_13 rfl ?_
          refine E_iload_n at_X6_rules_15 rfl ?_
          refine E_ic (t := 51) (b := true) at_X6_rules_16 rfl ((cn_ge (nI_toInt (by omega)) (nI_toInt (by omega))).trans (decide_eq_true (by omega))) ?_
          exact K _ (by omega)
      · by_cases f2 : v + 1 < n
        · refine E_iload at_X6_rules_13 rfl ?_
          refine E_iload_n at_X6_rules_15 rfl ?_
          refine E_ic (t := 51) (b := false) at_X6_rules_16 rfl ((cn_ge (nI_toInt (by omega)) (nI_toInt (by omega))).trans (decide_eq_false (by omega))) ?_
          refine E_iload_n at_X6_rules_19 rfl ?_
          refine E_if (t := 51) (b := false) at_X6_rules_20 rfl (by decide) ?_
          refine E_aload_n at_X6_rules_23 rfl ?_
          refine E_aload_n at_X6_rules_24 rfl ?_
          refine E_iload_n at_X6_rules_25 rfl ?_
          refine E_iconst (x := nI 2) at_X6_rules_26 (by decide) ?_
          refine E_iload at_X6_rules_27 rfl ?_
          refine E_imul (z := nI (2 * v)) at_X6_rules_29 (pk_mul _ _) ?_
          refine E_callV (v := some (.int (tw (el j) (2 * v)))) (As := [.ref 65, .int (nI j), .int (nI (2 * v))]) (r0 := [.ref 65]) (cs2 := (ww im lf s d k ls rf rz ra rn rq lt m1 m2 m3 m4 bd fc hd sz el t g fm hm so si sh ce ca td wa kp la bf oo bo pw ow tr)) at_X6_rules_30 rfl rfl (Nat.le_of_ble_eq_true rfl) rfl (ab_rvOf w65 rfl) (m_intAt (q := 2 * v) hj (by omega) l_ce hce) (by decide) rfl ?_
          refine E_iconst (x := nI 0) at_X6_rules_33 (by decide) ?_
          refine E_bipush (x := nI 99) at_X6_rules_34 (by decide) ?_
          have e1 : Ev ab_Z0 1 134 [.ref 65, .int (tw (el j) (2 * v)), .int (nI 0), .int (nI 99)] (ww im lf s d k ls rf rz ra rn rq lt m1 m2 m3 m4 bd fc hd sz el t g fm hm so si sh ce ca td wa kp la bf oo bo pw ow tr) (some (.int (nI 0)), (ww im lf s d k ls rf rz ra rn rq lt m1 m2 m3 m4 bd fc hd sz el t g fm hm so si sh ce ca td wa kp la bf oo bo pw ow tr)) := by
            refine Ef.in (md := mX6_isFrom) (L := [some (.ref 65), some (.int (tw (el j) (2 * v))), some (.int (nI 0)), some (.int (nI 99))]) rfl (Nat.le_of_ble_eq_true rfl) rfl ?_
            refine E_iload_n at_X6_isFrom_0 rfl ?_
            refine E_iload_n at_X6_isFrom_1 rfl ?_
            refine E_ic (t := 14) (b := true) at_X6_isFrom_2 rfl ((cn_lt rfl (nI_toInt (by omega))).trans (decide_eq_true (by omega))) ?_
            refine E_iconst (x := nI 0) at_X6_isFrom_14 (by decide) ?_
            exact E_iret at_X6_isFrom_15 rfl
          refine E_callV (v := some (.int (nI 0))) (As := [.ref 65, .int (tw (el j) (2 * v)), .int (nI 0), .int (nI 99)]) (r0 := []) (cs2 := (ww im lf s d k ls rf rz ra rn rq lt m1 m2 m3 m4 bd fc hd sz el t g fm hm so si sh ce ca td wa kp la bf oo bo pw ow tr)) at_X6_rules_36 rfl rfl (Nat.le_of_ble_eq_true rfl) rfl (ab_rvOf w65 rfl) e1 (by decide) rfl ?_
          refine E_if (t := 45) (b := false) at_X6_rules_39 rfl (by decide) ?_
          refine E_bipush (x := (-6)) at_X6_rules_42 (by decide) ?_
          refine E_istore_n (L2 := [some (.ref 65), some (.int (nI j)), some (.int (nI n)), some (.int (-6)), some (.int (nI v)), x5, x6, x7]) at_X6_rules_44 rfl ?_
          refine E_iinc (y := nI (v + 1)) (L2 := [some (.ref 65), some (.int (nI j)), some (.int (nI n)), some (.int (-6)), some (.int (nI (v + 1))), x5, x6, x7]) at_X6_rules_45 rfl (nI_1 _) rfl ?_
          refine E_goto (t := 13) at_X6_rules_48 rfl ?_
          refine E_iload at_X6_rules_13 rfl ?_
          refine E_iload_n at_X6_rules_15 rfl ?_
          refine E_ic (t := 51) (b := false) at_X6_rules_16 rfl ((cn_ge (nI_toInt (by omega)) (nI_toInt (by omega))).trans (decide_eq_false (by omega))) ?_
          refine E_iload_n at_X6_rules_19 rfl ?_
          refine E_if (t := 51) (b := true) at_X6_rules_20 rfl (by decide) ?_
          exact K _ (by omega)
        · refine E_iload at_X6_rules_13 rfl ?_
          refine E_iload_n at_X6_rules_15 rfl ?_
          refine E_ic (t := 51) (b := false) at_X6_rules_16 rfl ((cn_ge (nI_toInt (by omega)) (nI_toInt (by omega))).trans (decide_eq_false (by omega))) ?_
          refine E_iload_n at_X6_rules_19 rfl ?_
          refine E_if (t := 51) (b := false) at_X6_rules_20 rfl (by decide) ?_
          refine E_aload_n at_X6_rules_23 rfl ?_
          refine E_aload_n at_X6_rules_24 rfl ?_
          refine E_iload_n at_X6_rules_25 rfl ?_
          refine E_iconst (x := nI 2) at_X6_rules_26 (by decide) ?_
          refine E_iload at_X6_rules_27 rfl ?_
          refine E_imul (z := nI (2 * v)) at_X6_rules_29 (pk_mul _ _) ?_
          refine E_callV (v := some (.int (tw (el j) (2 * v)))) (As := [.ref 65, .int (nI j), .int (nI (2 * v))]) (r0 := [.ref 65]) (cs2 := (ww im lf s d k ls rf rz ra rn rq lt m1 m2 m3 m4 bd fc hd sz el t g fm hm so si sh ce ca td wa kp la bf oo bo pw ow tr)) at_X6_rules_30 rfl rfl (Nat.le_of_ble_eq_true rfl) rfl (ab_rvOf w65 rfl) (m_intAt (q := 2 * v) hj (by omega) l_ce hce) (by decide) rfl ?_
          refine E_iconst (x := nI 0) at_X6_rules_33 (by decide) ?_
          refine E_bipush (x := nI 99) at_X6_rules_34 (by decide) ?_
          have e1 : Ev ab_Z0 1 134 [.ref 65, .int (tw (el j) (2 * v)), .int (nI 0), .int (nI 99)] (ww im lf s d k ls rf rz ra rn rq lt m1 m2 m3 m4 bd fc hd sz el t g fm hm so si sh ce ca td wa kp la bf oo bo pw ow tr) (some (.int (nI 0)), (ww im lf s d k ls rf rz ra rn rq lt m1 m2 m3 m4 bd fc hd sz el t g fm hm so si sh ce ca td wa kp la bf oo bo pw ow tr)) := by
            refine Ef.in (md := mX6_isFrom) (L := [some (.ref 65), some (.int (tw (el j) (2 * v))), some (.int (nI 0)), some (.int (nI 99))]) rfl (Nat.le_of_ble_eq_true rfl) rfl ?_
            refine E_iload_n at_X6_isFrom_0 rfl ?_
            refine E_iload_n at_X6_isFrom_1 rfl ?_
            refine E_ic (t := 14) (b := true) at_X6_isFrom_2 rfl ((cn_lt rfl (nI_toInt (by omega))).trans (decide_eq_true (by omega))) ?_
            refine E_iconst (x := nI 0) at_X6_isFrom_14 (by decide) ?_
            exact E_iret at_X6_isFrom_15 rfl
          refine E_callV (v := some (.int (nI 0))) (As := [.ref 65, .int (tw (el j) (2 * v)), .int (nI 0), .int (nI 99)]) (r0 := []) (cs2 := (ww im lf s d k ls rf rz ra rn rq lt m1 m2 m3 m4 bd fc hd sz el t g fm hm so si sh ce ca td wa kp la bf oo bo pw ow tr)) at_X6_rules_36 rfl rfl (Nat.le_of_ble_eq_true rfl) rfl (ab_rvOf w65 rfl) e1 (by decide) rfl ?_
          refine E_if (t := 45) (b := false) at_X6_rules_39 rfl (by decide) ?_
          refine E_bipush (x := (-6)) at_X6_rules_42 (by decide) ?_
          refine E_istore_n (L2 := [some (.ref 65), some (.int (nI j)), some (.int (nI n)), some (.int (-6)), some (.int (nI v)), x5, x6, x7]) at_X6_rules_44 rfl ?_
          refine E_iinc (y := nI (v + 1)) (L2 := [some (.ref 65), some (.int (nI j)), some (.int (nI n)), some (.int (-6)), some (.int (nI (v + 1))), x5, x6, x7]) at_X6_rules_45 rfl (nI_1 _) rfl ?_
          refine E_goto (t := 13) at_X6_rules_48 rfl ?_
          refine E_iload at_X6_rules_13 rfl ?_
          refine E_iload_n at_X6_rules_15 rfl ?_
          refine E_ic (t := 51) (b := true) at_X6_rules_16 rfl ((cn_ge (nI_toInt (by omega)) (nI_toInt (by omega))).trans (decide_eq_true (by omega))) ?_
          exact K _ (by omega)
set_option maxHeartbeats 2000000 in
theorem ru_cl {j n1 : Nat} (hj : j < 8) (hz : sz j = nI n1) (hn1 : n1 ≤ 160) (le : (el j).length = 160) {n m : Nat} (hn : 2 * n ≤ n1) (ha : ∀ q, q < n → isB (el j) 100 q) (I : qI s) {r : Option Value × List ab_C} (K : Ef ab_Z0 4 mX5_rules (174, [some (.ref 0), some (.int (nI j)), some (.int (nI n)), some (.int (nI 0)), some (.ref (49 + 2 * j)), some (.int (nI (ruF (ruP (bst s m (qN s) (2 ^ qN s)) (el j)) n))), some (.int (nI (ruF (ruP (qGreedy s) (el j)) n))), some (.int (nI n))], [], (ww im lf s d k (lsF (wgh s m (qN s))) rf rz ra rn rq lt m1 m2 m3 m4 bd fc hd sz el t g fm hm so si sh ce ca td wa kp la bf oo bo pw ow tr)) r) : ∀ n0 v , v + n0 = n → Ef ab_Z0 4 mX5_rules (90, [some (.ref 0), some (.int (nI j)), some (.int (nI n)), some (.int (nI 0)), some (.ref (49 + 2 * j)), some (.int (nI (ruF (ruP (bst s m (qN s) (2 ^ qN s)) (el j)) v))), some (.int (nI (ruF (ruP (qGreedy s) (el j)) v))), some (.int (nI v))], [], (ww im lf s d k (lsF (wgh s m (qN s))) rf rz ra rn rq lt m1 m2 m3 m4 bd fc hd sz el t g fm hm so si sh ce ca td wa kp la bf oo bo pw ow tr)) r := by
  have h9 := I.2.2.1.1
  intro n0
  induction n0 with
  | zero =>
    intro v  hi
    have hi : v = n := by omega
    rw [hi]
    refine E_iload at_X5_rules_90 rfl ?_
    refine E_iload_n at_X5_rules_92 rfl ?_
    refine E_ic (t := 174) (b := true) at_X5_rules_93 rfl ((cn_ge (nI_toInt (by omega)) (nI_toInt (by omega))).trans (decide_eq_true (by omega))) ?_
    exact K
  | succ n0 ih =>
    intro v  hi
    obtain ⟨c, hc, ec⟩ := ha v (by omega)
    rcases ruF_01 (ruP (bst s m (qN s) (2 ^ qN s)) (el j)) v with hrp | hrp
    · rcases ruF_01 (ruP (qGreedy s) (el j)) v with hrq | hrq
      · rw [hrp, hrq]
        have w9 : 2 ^ qN s ≤ 2 ^ 9 := Nat.pow_le_pow_right (by decide) (by omega)
        have qq1 : ruF (ruP (bst s m (qN s) (2 ^ qN s)) (el j)) (v + 1) = 0 := ruF_0 hrp
        have qq2 : ruF (ruP (qGreedy s) (el j)) (v + 1) = 0 := ruF_0 hrq
        refine E_iload at_X5_rules_90 rfl ?_
        refine E_iload_n at_X5_rules_92 rfl ?_
        refine E_ic (t := 174) (b := false) at_X5_rules_93 rfl ((cn_ge (nI_toInt (by omega)) (nI_toInt (by omega))).trans (decide_eq_false (by omega))) ?_
        refine E_iload at_X5_rules_96 rfl ?_
        refine E_if (t := 129) (b := true) at_X5_rules_98 rfl (by decide) ?_
        refine E_iconst (x := nI 0) at_X5_rules_129 (by decide) ?_
        refine E_istore (L2 := [some (.ref 0), some (.int (nI j)), some (.int (nI n)), some (.int (nI 0)), some (.ref (49 + 2 * j)), some (.int (nI 0)), some (.int (nI 0)), some (.int (nI v))]) at_X5_rules_130 rfl ?_
        refine E_iload at_X5_rules_132 rfl ?_
        refine E_if (t := 165) (b := true) at_X5_rules_134 rfl (by decide) ?_
        refine E_iconst (x := nI 0) at_X5_rules_165 (by decide) ?_
        refine E_istore (L2 := [some (.ref 0), some (.int (nI j)), some (.int (nI n)), some (.int (nI 0)), some (.ref (49 + 2 * j)), some (.int (nI 0)), some (.int (nI 0)), some (.int (nI v))]) at_X5_rules_166 rfl ?_
        refine E_iinc (y := nI (v + 1)) (L2 := [some (.ref 0), some (.int (nI j)), some (.int (nI n)), some (.int (nI 0)), some (.ref (49 + 2 * j)), some (.int (nI 0)), some (.int (nI 0)), some (.int (nI (v + 1)))]) at_X5_rules_168 rfl (nI_1 _) rfl ?_
        refine E_goto (t := 90) at_X5_rules_171 rfl ?_
        have X := ih (v + 1) (by omega)
        rw [qq1, qq2] at X
        exact X
      · by_cases f2 : ((qE (qGreedy s c)).toInt) = ((tw (el j) (2 * v + 1)).toInt)
        · rw [hrp, hrq]
          have w9 : 2 ^ qN s ≤ 2 ^ 9 := Nat.pow_le_pow_right (by decide) (by omega)
          have qq1 : ruF (ruP (bst s m (qN s) (2 ^ qN s)) (el j)) (v + 1) = 0 := ruF_0 hrp
          have qq2 : ruF (ruP (qGreedy s) (el j)) (v + 1) = 1 := (ruF_t (ruP_t (f := qGreedy s) (x := qE (qGreedy s c)) (by omega) ec rfl (by omega))).trans hrq
          refine E_iload at_X5_rules_90 rfl ?_
          refine E_iload_n at_X5_rules_92 rfl ?_
          refine E_ic (t := 174) (b := false) at_X5_rules_93 rfl ((cn_ge (nI_toInt (by omega)) (nI_toInt (by omega))).trans (decide_eq_false (by omega))) ?_
          refine E_iload at_X5_rules_96 rfl ?_
          refine E_if (t := 129) (b := true) at_X5_rules_98 rfl (by decide) ?_
          refine E_iconst (x := nI 0) at_X5_rules_129 (by decide) ?_
          refine E_istore (L2 := [some (.ref 0), some (.int (nI j)), some (.int (nI n)), some (.int (nI 0)), some (.ref (49 + 2 * j)), some (.int (nI 0)), some (.int (nI 1)), some (.int (nI v))]) at_X5_rules_130 rfl ?_
          refine E_iload at_X5_rules_132 rfl ?_
          refine E_if (t := 165) (b := false) at_X5_rules_134 rfl (by decide) ?_
          refine E_aload_n at_X5_rules_137 rfl ?_
          refine E_getfield (v := .ref 1) at_X5_rules_138 w0 rfl (by decide) rfl ?_
          refine E_aload at_X5_rules_141 rfl ?_
          refine E_iload at_X5_rules_143 rfl ?_
          refine E_callV (v := some (.int (nI c))) (As := [.ref (49 + 2 * j), .int (nI v)]) (r0 := [.ref 1]) (cs2 := (ww im lf s d k (lsF (wgh s m (qN s))) rf rz ra rn rq lt m1 m2 m3 m4 bd fc hd sz el t g fm hm so si sh ce ca td wa kp la bf oo bo pw ow tr)) at_X5_rules_145 rfl rfl (Nat.le_of_ble_eq_true rfl) rfl (ab_rvOf (w_shv (j := j) (by omega) rfl hz) rfl) (Ev.vi ec (w_first hj hz (x := v) (by omega) hn1 le)) (by decide) rfl ?_
          refine E_callV (v := some (.int (qE (qGreedy s c)))) (As := [.ref 1, .int (nI c)]) (r0 := []) (cs2 := (ww im lf s d k (lsF (wgh s m (qN s))) rf rz ra rn rq lt m1 m2 m3 m4 bd fc hd sz el t g fm hm so si sh ce ca td wa kp la bf oo bo pw ow tr)) at_X5_rules_148 rfl rfl (Nat.le_of_ble_eq_true rfl) rfl (ab_rvOf w1 rfl) (sq_greedyFor w_q1 I (by omega)) (by decide) rfl ?_
          refine E_aload at_X5_rules_151 rfl ?_
          refine E_iload at_X5_rules_153 rfl ?_
          refine E_callV (v := some (.int (tw (el j) (2 * v + 1)))) (As := [.ref (49 + 2 * j), .int (nI v)]) (r0 := [.int (qE (qGreedy s c))]) (cs2 := (ww im lf s d k (lsF (wgh s m (qN s))) rf rz ra rn rq lt m1 m2 m3 m4 bd fc hd sz el t g fm hm so si sh ce ca td wa kp la bf oo bo pw ow tr)) at_X5_rules_155 rfl rfl (Nat.le_of_ble_eq_true rfl) rfl (ab_rvOf (w_shv (j := j) (by omega) rfl hz) rfl) (w_second hj hz (x := v) (by omega) hn1 le) (by decide) rfl ?_
          refine E_ic (t := 165) (b := false) at_X5_rules_158 rfl ((cn_ne rfl rfl).trans (decide_eq_false (by omega))) ?_
          refine E_iconst (x := nI 1) rfl (by decide) ?_
          refine E_goto (t := 166) rfl rfl ?_
          refine E_istore (L2 := [some (.ref 0), some (.int (nI j)), some (.int (nI n)), some (.int (nI 0)), some (.ref (49 + 2 * j)), some (.int (nI 0)), some (.int (nI 1)), some (.int (nI v))]) at_X5_rules_166 rfl ?_
          refine E_iinc (y := nI (v + 1)) (L2 := [some (.ref 0), some (.int (nI j)), some (.int (nI n)), some (.int (nI 0)), some (.ref (49 + 2 * j)), some (.int (nI 0)), some (.int (nI 1)), some (.int (nI (v + 1)))]) at_X5_rules_168 rfl (nI_1 _) rfl ?_
          refine E_goto (t := 90) at_X5_rules_171 rfl ?_
          have X := ih (v + 1) (by omega)
          rw [qq1, qq2] at X
          exact X
        · rw [hrp, hrq]
          have w9 : 2 ^ qN s ≤ 2 ^ 9 := Nat.pow_le_pow_right (by decide) (by omega)
          have qq1 : ruF (ruP (bst s m (qN s) (2 ^ qN s)) (el j)) (v + 1) = 0 := ruF_0 hrp
          have qq2 : ruF (ruP (qGreedy s) (el j)) (v + 1) = 0 := ruF_f (ruP_f (f := qGreedy s) (x := qE (qGreedy s c)) (by omega) ec rfl (by omega))
          refine E_iload at_X5_rules_90 rfl ?_
          refine E_iload_n at_X5_rules_92 rfl ?_
          refine E_ic (t := 174) (b := false) at_X5_rules_93 rfl ((cn_ge (nI_toInt (by omega)) (nI_toInt (by omega))).trans (decide_eq_false (by omega))) ?_
          refine E_iload at_X5_rules_96 rfl ?_
          refine E_if (t := 129) (b := true) at_X5_rules_98 rfl (by decide) ?_
          refine E_iconst (x := nI 0) at_X5_rules_129 (by decide) ?_
          refine E_istore (L2 := [some (.ref 0), some (.int (nI j)), some (.int (nI n)), some (.int (nI 0)), some (.ref (49 + 2 * j)), some (.int (nI 0)), some (.int (nI 1)), some (.int (nI v))]) at_X5_rules_130 rfl ?_
          refine E_iload at_X5_rules_132 rfl ?_
          refine E_if (t := 165) (b := false) at_X5_rules_134 rfl (by decide) ?_
          refine E_aload_n at_X5_rules_137 rfl ?_
          refine E_getfield (v := .ref 1) at_X5_rules_138 w0 rfl (by decide) rfl ?_
          refine E_aload at_X5_rules_141 rfl ?_
          refine E_iload at_X5_rules_143 rfl ?_
          refine E_callV (v := some (.int (nI c))) (As := [.ref (49 + 2 * j), .int (nI v)]) (r0 := [.ref 1]) (cs2 := (ww im lf s d k (lsF (wgh s m (qN s))) rf rz ra rn rq lt m1 m2 m3 m4 bd fc hd sz el t g fm hm so si sh ce ca td wa kp la bf oo bo pw ow tr)) at_X5_rules_145 rfl rfl (Nat.le_of_ble_eq_true rfl) rfl (ab_rvOf (w_shv (j := j) (by omega) rfl hz) rfl) (Ev.vi ec (w_first hj hz (x := v) (by omega) hn1 le)) (by decide) rfl ?_
          refine E_callV (v := some (.int (qE (qGreedy s c)))) (As := [.ref 1, .int (nI c)]) (r0 := []) (cs2 := (ww im lf s d k (lsF (wgh s m (qN s))) rf rz ra rn rq lt m1 m2 m3 m4 bd fc hd sz el t g fm hm so si sh ce ca td wa kp la bf oo bo pw ow tr)) at_X5_rules_148 rfl rfl (Nat.le_of_ble_eq_true rfl) rfl (ab_rvOf w1 rfl) (sq_greedyFor w_q1 I (by omega)) (by decide) rfl ?_
          refine E_aload at_X5_rules_151 rfl ?_
          refine E_iload at_X5_rules_153 rfl ?_
          refine E_callV (v := some (.int (tw (el j) (2 * v + 1)))) (As := [.ref (49 + 2 * j), .int (nI v)]) (r0 := [.int (qE (qGreedy s c))]) (cs2 := (ww im lf s d k (lsF (wgh s m (qN s))) rf rz ra rn rq lt m1 m2 m3 m4 bd fc hd sz el t g fm hm so si sh ce ca td wa kp la bf oo bo pw ow tr)) at_X5_rules_155 rfl rfl (Nat.le_of_ble_eq_true rfl) rfl (ab_rvOf (w_shv (j := j) (by omega) rfl hz) rfl) (w_second hj hz (x := v) (by omega) hn1 le) (by decide) rfl ?_
          refine E_ic (t := 165) (b := true) at_X5_rules_158 rfl ((cn_ne rfl rfl).trans (decide_eq_true (by omega))) ?_
          refine E_iconst (x := nI 0) at_X5_rules_165 (by decide) ?_
          refine E_istore (L2 := [some (.ref 0), some (.int (nI j)), some (.int (nI n)), some (.int (nI 0)), some (.ref (49 + 2 * j)), some (.int (nI 0)), some (.int (nI 0)), some (.int (nI v))]) at_X5_rules_166 rfl ?_
          refine E_iinc (y := nI (v + 1)) (L2 := [some (.ref 0), some (.int (nI j)), some (.int (nI n)), some (.int (nI 0)), some (.ref (49 + 2 * j)), some (.int (nI 0)), some (.int (nI 0)), some (.int (nI (v + 1)))]) at_X5_rules_168 rfl (nI_1 _) rfl ?_
          refine E_goto (t := 90) at_X5_rules_171 rfl ?_
          have X := ih (v + 1) (by omega)
          rw [qq1, qq2] at X
          exact X
    · rcases ruF_01 (ruP (qGreedy s) (el j)) v with hrq | hrq
      · by_cases f2 : ((qE (bst s m (qN s) (2 ^ qN s) c)).toInt) = ((tw (el j) (2 * v + 1)).toInt)
        · rw [hrp, hrq]
          have w9 : 2 ^ qN s ≤ 2 ^ 9 := Nat.pow_le_pow_right (by decide) (by omega)
          have qq1 : ruF (ruP (bst s m (qN s) (2 ^ qN s)) (el j)) (v + 1) = 1 := (ruF_t (ruP_t (f := bst s m (qN s) (2 ^ qN s)) (x := qE (bst s m (qN s) (2 ^ qN s) c)) (by omega) ec rfl (by omega))).trans hrp
          have qq2 : ruF (ruP (qGreedy s) (el j)) (v + 1) = 0 := ruF_0 hrq
          refine E_iload at_X5_rules_90 rfl ?_
          refine E_iload_n at_X5_rules_92 rfl ?_
          refine E_ic (t := 174) (b := false) at_X5_rules_93 rfl ((cn_ge (nI_toInt (by omega)) (nI_toInt (by omega))).trans (decide_eq_false (by omega))) ?_
          refine E_iload at_X5_rules_96 rfl ?_
          refine E_if (t := 129) (b := false) at_X5_rules_98 rfl (by decide) ?_
          refine E_aload_n at_X5_rules_101 rfl ?_
          refine E_getfield (v := .ref 32) at_X5_rules_102 w0 rfl (by decide) rfl ?_
          refine E_aload at_X5_rules_105 rfl ?_
          refine E_iload at_X5_rules_107 rfl ?_
          refine E_callV (v := some (.int (nI c))) (As := [.ref (49 + 2 * j), .int (nI v)]) (r0 := [.ref 32]) (cs2 := (ww im lf s d k (lsF (wgh s m (qN s))) rf rz ra rn rq lt m1 m2 m3 m4 bd fc hd sz el t g fm hm so si sh ce ca td wa kp la bf oo bo pw ow tr)) at_X5_rules_109 rfl rfl (Nat.le_of_ble_eq_true rfl) rfl (ab_rvOf (w_shv (j := j) (by omega) rfl hz) rfl) (Ev.vi ec (w_first hj hz (x := v) (by omega) hn1 le)) (by decide) rfl ?_
          refine E_callV (v := some (.int (qE (bst s m (qN s) (2 ^ qN s) c)))) (As := [.ref 32, .int (nI c)]) (r0 := []) (cs2 := (ww im lf s d k (lsF (wgh s m (qN s))) rf rz ra rn rq lt m1 m2 m3 m4 bd fc hd sz el t g fm hm so si sh ce ca td wa kp la bf oo bo pw ow tr)) at_X5_rules_112 rfl rfl (Nat.le_of_ble_eq_true rfl) rfl (ab_rvOf w32 rfl) (w_few I hc) (by decide) rfl ?_
          refine E_aload at_X5_rules_115 rfl ?_
          refine E_iload at_X5_rules_117 rfl ?_
          refine E_callV (v := some (.int (tw (el j) (2 * v + 1)))) (As := [.ref (49 + 2 * j), .int (nI v)]) (r0 := [.int (qE (bst s m (qN s) (2 ^ qN s) c))]) (cs2 := (ww im lf s d k (lsF (wgh s m (qN s))) rf rz ra rn rq lt m1 m2 m3 m4 bd fc hd sz el t g fm hm so si sh ce ca td wa kp la bf oo bo pw ow tr)) at_X5_rules_119 rfl rfl (Nat.le_of_ble_eq_true rfl) rfl (ab_rvOf (w_shv (j := j) (by omega) rfl hz) rfl) (w_second hj hz (x := v) (by omega) hn1 le) (by decide) rfl ?_
          refine E_ic (t := 129) (b := false) at_X5_rules_122 rfl ((cn_ne rfl rfl).trans (decide_eq_false (by omega))) ?_
          refine E_iconst (x := nI 1) rfl (by decide) ?_
          refine E_goto (t := 130) rfl rfl ?_
          refine E_istore (L2 := [some (.ref 0), some (.int (nI j)), some (.int (nI n)), some (.int (nI 0)), some (.ref (49 + 2 * j)), some (.int (nI 1)), some (.int (nI 0)), some (.int (nI v))]) at_X5_rules_130 rfl ?_
          refine E_iload at_X5_rules_132 rfl ?_
          refine E_if (t := 165) (b := true) at_X5_rules_134 rfl (by decide) ?_
          refine E_iconst (x := nI 0) at_X5_rules_165 (by decide) ?_
          refine E_istore (L2 := [some (.ref 0), some (.int (nI j)), some (.int (nI n)), some (.int (nI 0)), some (.ref (49 + 2 * j)), some (.int (nI 1)), some (.int (nI 0)), some (.int (nI v))]) at_X5_rules_166 rfl ?_
          refine E_iinc (y := nI (v + 1)) (L2 := [some (.ref 0), some (.int (nI j)), some (.int (nI n)), some (.int (nI 0)), some (.ref (49 + 2 * j)), some (.int (nI 1)), some (.int (nI 0)), some (.int (nI (v + 1)))]) at_X5_rules_168 rfl (nI_1 _) rfl ?_
          refine E_goto (t := 90) at_X5_rules_171 rfl ?_
          have X := ih (v + 1) (by omega)
          rw [qq1, qq2] at X
          exact X
        · rw [hrp, hrq]
          have w9 : 2 ^ qN s ≤ 2 ^ 9 := Nat.pow_le_pow_right (by decide) (by omega)
          have qq1 : ruF (ruP (bst s m (qN s) (2 ^ qN s)) (el j)) (v + 1) = 0 := ruF_f (ruP_f (f := bst s m (qN s) (2 ^ qN s)) (x := qE (bst s m (qN s) (2 ^ qN s) c)) (by omega) ec rfl (by omega))
          have qq2 : ruF (ruP (qGreedy s) (el j)) (v + 1) = 0 := ruF_0 hrq
          refine E_iload at_X5_rules_90 rfl ?_
          refine E_iload_n at_X5_rules_92 rfl ?_
          refine E_ic (t := 174) (b := false) at_X5_rules_93 rfl ((cn_ge (nI_toInt (by omega)) (nI_toInt (by omega))).trans (decide_eq_false (by omega))) ?_
          refine E_iload at_X5_rules_96 rfl ?_
          refine E_if (t := 129) (b := false) at_X5_rules_98 rfl (by decide) ?_
          refine E_aload_n at_X5_rules_101 rfl ?_
          refine E_getfield (v := .ref 32) at_X5_rules_102 w0 rfl (by decide) rfl ?_
          refine E_aload at_X5_rules_105 rfl ?_
          refine E_iload at_X5_rules_107 rfl ?_
          refine E_callV (v := some (.int (nI c))) (As := [.ref (49 + 2 * j), .int (nI v)]) (r0 := [.ref 32]) (cs2 := (ww im lf s d k (lsF (wgh s m (qN s))) rf rz ra rn rq lt m1 m2 m3 m4 bd fc hd sz el t g fm hm so si sh ce ca td wa kp la bf oo bo pw ow tr)) at_X5_rules_109 rfl rfl (Nat.le_of_ble_eq_true rfl) rfl (ab_rvOf (w_shv (j := j) (by omega) rfl hz) rfl) (Ev.vi ec (w_first hj hz (x := v) (by omega) hn1 le)) (by decide) rfl ?_
          refine E_callV (v := some (.int (qE (bst s m (qN s) (2 ^ qN s) c)))) (As := [.ref 32, .int (nI c)]) (r0 := []) (cs2 := (ww im lf s d k (lsF (wgh s m (qN s))) rf rz ra rn rq lt m1 m2 m3 m4 bd fc hd sz el t g fm hm so si sh ce ca td wa kp la bf oo bo pw ow tr)) at_X5_rules_112 rfl rfl (Nat.le_of_ble_eq_true rfl) rfl (ab_rvOf w32 rfl) (w_few I hc) (by decide) rfl ?_
          refine E_aload at_X5_rules_115 rfl ?_
          refine E_iload at_X5_rules_117 rfl ?_
          refine E_callV (v := some (.int (tw (el j) (2 * v + 1)))) (As := [.ref (49 + 2 * j), .int (nI v)]) (r0 := [.int (qE (bst s m (qN s) (2 ^ qN s) c))]) (cs2 := (ww im lf s d k (lsF (wgh s m (qN s))) rf rz ra rn rq lt m1 m2 m3 m4 bd fc hd sz el t g fm hm so si sh ce ca td wa kp la bf oo bo pw ow tr)) at_X5_rules_119 rfl rfl (Nat.le_of_ble_eq_true rfl) rfl (ab_rvOf (w_shv (j := j) (by omega) rfl hz) rfl) (w_second hj hz (x := v) (by omega) hn1 le) (by decide) rfl ?_
          refine E_ic (t := 129) (b := true) at_X5_rules_122 rfl ((cn_ne rfl rfl).trans (decide_eq_true (by omega))) ?_
          refine E_iconst (x := nI 0) at_X5_rules_129 (by decide) ?_
          refine E_istore (L2 := [some (.ref 0), some (.int (nI j)), some (.int (nI n)), some (.int (nI 0)), some (.ref (49 + 2 * j)), some (.int (nI 0)), some (.int (nI 0)), some (.int (nI v))]) at_X5_rules_130 rfl ?_
          refine E_iload at_X5_rules_132 rfl ?_
          refine E_if (t := 165) (b := true) at_X5_rules_134 rfl (by decide) ?_
          refine E_iconst (x := nI 0) at_X5_rules_165 (by decide) ?_
          refine E_istore (L2 := [some (.ref 0), some (.int (nI j)), some (.int (nI n)), some (.int (nI 0)), some (.ref (49 + 2 * j)), some (.int (nI 0)), some (.int (nI 0)), some (.int (nI v))]) at_X5_rules_166 rfl ?_
          refine E_iinc (y := nI (v + 1)) (L2 := [some (.ref 0), some (.int (nI j)), some (.int (nI n)), some (.int (nI 0)), some (.ref (49 + 2 * j)), some (.int (nI 0)), some (.int (nI 0)), some (.int (nI (v + 1)))]) at_X5_rules_168 rfl (nI_1 _) rfl ?_
          refine E_goto (t := 90) at_X5_rules_171 rfl ?_
          have X := ih (v + 1) (by omega)
          rw [qq1, qq2] at X
          exact X
      · by_cases f2 : ((qE (bst s m (qN s) (2 ^ qN s) c)).toInt) = ((tw (el j) (2 * v + 1)).toInt)
        · by_cases f3 : ((qE (qGreedy s c)).toInt) = ((tw (el j) (2 * v + 1)).toInt)
          · rw [hrp, hrq]
            have w9 : 2 ^ qN s ≤ 2 ^ 9 := Nat.pow_le_pow_right (by decide) (by omega)
            have qq1 : ruF (ruP (bst s m (qN s) (2 ^ qN s)) (el j)) (v + 1) = 1 := (ruF_t (ruP_t (f := bst s m (qN s) (2 ^ qN s)) (x := qE (bst s m (qN s) (2 ^ qN s) c)) (by omega) ec rfl (by omega))).trans hrp
            have qq2 : ruF (ruP (qGreedy s) (el j)) (v + 1) = 1 := (ruF_t (ruP_t (f := qGreedy s) (x := qE (qGreedy s c)) (by omega) ec rfl (by omega))).trans hrq
            refine E_iload at_X5_rules_90 rfl ?_
            refine E_iload_n at_X5_rules_92 rfl ?_
            refine E_ic (t := 174) (b := false) at_X5_rules_93 rfl ((cn_ge (nI_toInt (by omega)) (nI_toInt (by omega))).trans (decide_eq_false (by omega))) ?_
            refine E_iload at_X5_rules_96 rfl ?_
            refine E_if (t := 129) (b := false) at_X5_rules_98 rfl (by decide) ?_
            refine E_aload_n at_X5_rules_101 rfl ?_
            refine E_getfield (v := .ref 32) at_X5_rules_102 w0 rfl (by decide) rfl ?_
            refine E_aload at_X5_rules_105 rfl ?_
            refine E_iload at_X5_rules_107 rfl ?_
            refine E_callV (v := some (.int (nI c))) (As := [.ref (49 + 2 * j), .int (nI v)]) (r0 := [.ref 32]) (cs2 := (ww im lf s d k (lsF (wgh s m (qN s))) rf rz ra rn rq lt m1 m2 m3 m4 bd fc hd sz el t g fm hm so si sh ce ca td wa kp la bf oo bo pw ow tr)) at_X5_rules_109 rfl rfl (Nat.le_of_ble_eq_true rfl) rfl (ab_rvOf (w_shv (j := j) (by omega) rfl hz) rfl) (Ev.vi ec (w_first hj hz (x := v) (by omega) hn1 le)) (by decide) rfl ?_
            refine E_callV (v := some (.int (qE (bst s m (qN s) (2 ^ qN s) c)))) (As := [.ref 32, .int (nI c)]) (r0 := []) (cs2 := (ww im lf s d k (lsF (wgh s m (qN s))) rf rz ra rn rq lt m1 m2 m3 m4 bd fc hd sz el t g fm hm so si sh ce ca td wa kp la bf oo bo pw ow tr)) at_X5_rules_112 rfl rfl (Nat.le_of_ble_eq_true rfl) rfl (ab_rvOf w32 rfl) (w_few I hc) (by decide) rfl ?_
            refine E_aload at_X5_rules_115 rfl ?_
            refine E_iload at_X5_rules_117 rfl ?_
            refine E_callV (v := some (.int (tw (el j) (2 * v + 1)))) (As := [.ref (49 + 2 * j), .int (nI v)]) (r0 := [.int (qE (bst s m (qN s) (2 ^ qN s) c))]) (cs2 := (ww im lf s d k (lsF (wgh s m (qN s))) rf rz ra rn rq lt m1 m2 m3 m4 bd fc hd sz el t g fm hm so si sh ce ca td wa kp la bf oo bo pw ow tr)) at_X5_rules_119 rfl rfl (Nat.le_of_ble_eq_true rfl) rfl (ab_rvOf (w_shv (j := j) (by omega) rfl hz) rfl) (w_second hj hz (x := v) (by omega) hn1 le) (by decide) rfl ?_
            refine E_ic (t := 129) (b := false) at_X5_rules_122 rfl ((cn_ne rfl rfl).trans (decide_eq_false (by omega))) ?_
            refine E_iconst (x := nI 1) rfl (by decide) ?_
            refine E_goto (t := 130) rfl rfl ?_
            refine E_istore (L2 := [some (.ref 0), some (.int (nI j)), some (.int (nI n)), some (.int (nI 0)), some (.ref (49 + 2 * j)), some (.int (nI 1)), some (.int (nI 1)), some (.int (nI v))]) at_X5_rules_130 rfl ?_
            refine E_iload at_X5_rules_132 rfl ?_
            refine E_if (t := 165) (b := false) at_X5_rules_134 rfl (by decide) ?_
            refine E_aload_n at_X5_rules_137 rfl ?_
            refine E_getfield (v := .ref 1) at_X5_rules_138 w0 rfl (by decide) rfl ?_
            refine E_aload at_X5_rules_141 rfl ?_
            refine E_iload at_X5_rules_143 rfl ?_
            refine E_callV (v := some (.int (nI c))) (As := [.ref (49 + 2 * j), .int (nI v)]) (r0 := [.ref 1]) (cs2 := (ww im lf s d k (lsF (wgh s m (qN s))) rf rz ra rn rq lt m1 m2 m3 m4 bd fc hd sz el t g fm hm so si sh ce ca td wa kp la bf oo bo pw ow tr)) at_X5_rules_145 rfl rfl (Nat.le_of_ble_eq_true rfl) rfl (ab_rvOf (w_shv (j := j) (by omega) rfl hz) rfl) (Ev.vi ec (w_first hj hz (x := v) (by omega) hn1 le)) (by decide) rfl ?_
            refine E_callV (v := some (.int (qE (qGreedy s c)))) (As := [.ref 1, .int (nI c)]) (r0 := []) (cs2 := (ww im lf s d k (lsF (wgh s m (qN s))) rf rz ra rn rq lt m1 m2 m3 m4 bd fc hd sz el t g fm hm so si sh ce ca td wa kp la bf oo bo pw ow tr)) at_X5_rules_148 rfl rfl (Nat.le_of_ble_eq_true rfl) rfl (ab_rvOf w1 rfl) (sq_greedyFor w_q1 I (by omega)) (by decide) rfl ?_
            refine E_aload at_X5_rules_151 rfl ?_
            refine E_iload at_X5_rules_153 rfl ?_
            refine E_callV (v := some (.int (tw (el j) (2 * v + 1)))) (As := [.ref (49 + 2 * j), .int (nI v)]) (r0 := [.int (qE (qGreedy s c))]) (cs2 := (ww im lf s d k (lsF (wgh s m (qN s))) rf rz ra rn rq lt m1 m2 m3 m4 bd fc hd sz el t g fm hm so si sh ce ca td wa kp la bf oo bo pw ow tr)) at_X5_rules_155 rfl rfl (Nat.le_of_ble_eq_true rfl) rfl (ab_rvOf (w_shv (j := j) (by omega) rfl hz) rfl) (w_second hj hz (x := v) (by omega) hn1 le) (by decide) rfl ?_
            refine E_ic (t := 165) (b := false) at_X5_rules_158 rfl ((cn_ne rfl rfl).trans (decide_eq_false (by omega))) ?_
            refine E_iconst (x := nI 1) rfl (by decide) ?_
            refine E_goto (t := 166) rfl rfl ?_
            refine E_istore (L2 := [some (.ref 0), some (.int (nI j)), some (.int (nI n)), some (.int (nI 0)), some (.ref (49 + 2 * j)), some (.int (nI 1)), some (.int (nI 1)), some (.int (nI v))]) at_X5_rules_166 rfl ?_
            refine E_iinc (y := nI (v + 1)) (L2 := [some (.ref 0), some (.int (nI j)), some (.int (nI n)), some (.int (nI 0)), some (.ref (49 + 2 * j)), some (.int (nI 1)), some (.int (nI 1)), some (.int (nI (v + 1)))]) at_X5_rules_168 rfl (nI_1 _) rfl ?_
            refine E_goto (t := 90) at_X5_rules_171 rfl ?_
            have X := ih (v + 1) (by omega)
            rw [qq1, qq2] at X
            exact X
          · rw [hrp, hrq]
            have w9 : 2 ^ qN s ≤ 2 ^ 9 := Nat.pow_le_pow_right (by decide) (by omega)
            have qq1 : ruF (ruP (bst s m (qN s) (2 ^ qN s)) (el j)) (v + 1) = 1 := (ruF_t (ruP_t (f := bst s m (qN s) (2 ^ qN s)) (x := qE (bst s m (qN s) (2 ^ qN s) c)) (by omega) ec rfl (by omega))).trans hrp
            have qq2 : ruF (ruP (qGreedy s) (el j)) (v + 1) = 0 := ruF_f (ruP_f (f := qGreedy s) (x := qE (qGreedy s c)) (by omega) ec rfl (by omega))
            refine E_iload at_X5_rules_90 rfl ?_
            refine E_iload_n at_X5_rules_92 rfl ?_
            refine E_ic (t := 174) (b := false) at_X5_rules_93 rfl ((cn_ge (nI_toInt (by omega)) (nI_toInt (by omega))).trans (decide_eq_false (by omega))) ?_
            refine E_iload at_X5_rules_96 rfl ?_
            refine E_if (t := 129) (b := false) at_X5_rules_98 rfl (by decide) ?_
            refine E_aload_n at_X5_rules_101 rfl ?_
            refine E_getfield (v := .ref 32) at_X5_rules_102 w0 rfl (by decide) rfl ?_
            refine E_aload at_X5_rules_105 rfl ?_
            refine E_iload at_X5_rules_107 rfl ?_
            refine E_callV (v := some (.int (nI c))) (As := [.ref (49 + 2 * j), .int (nI v)]) (r0 := [.ref 32]) (cs2 := (ww im lf s d k (lsF (wgh s m (qN s))) rf rz ra rn rq lt m1 m2 m3 m4 bd fc hd sz el t g fm hm so si sh ce ca td wa kp la bf oo bo pw ow tr)) at_X5_rules_109 rfl rfl (Nat.le_of_ble_eq_true rfl) rfl (ab_rvOf (w_shv (j := j) (by omega) rfl hz) rfl) (Ev.vi ec (w_first hj hz (x := v) (by omega) hn1 le)) (by decide) rfl ?_
            refine E_callV (v := some (.int (qE (bst s m (qN s) (2 ^ qN s) c)))) (As := [.ref 32, .int (nI c)]) (r0 := []) (cs2 := (ww im lf s d k (lsF (wgh s m (qN s))) rf rz ra rn rq lt m1 m2 m3 m4 bd fc hd sz el t g fm hm so si sh ce ca td wa kp la bf oo bo pw ow tr)) at_X5_rules_112 rfl rfl (Nat.le_of_ble_eq_true rfl) rfl (ab_rvOf w32 rfl) (w_few I hc) (by decide) rfl ?_
            refine E_aload at_X5_rules_115 rfl ?_
            refine E_iload at_X5_rules_117 rfl ?_
            refine E_callV (v := some (.int (tw (el j) (2 * v + 1)))) (As := [.ref (49 + 2 * j), .int (nI v)]) (r0 := [.int (qE (bst s m (qN s) (2 ^ qN s) c))]) (cs2 := (ww im lf s d k (lsF (wgh s m (qN s))) rf rz ra rn rq lt m1 m2 m3 m4 bd fc hd sz el t g fm hm so si sh ce ca td wa kp la bf oo bo pw ow tr)) at_X5_rules_119 rfl rfl (Nat.le_of_ble_eq_true rfl) rfl (ab_rvOf (w_shv (j := j) (by omega) rfl hz) rfl) (w_second hj hz (x := v) (by omega) hn1 le) (by decide) rfl ?_
            refine E_ic (t := 129) (b := false) at_X5_rules_122 rfl ((cn_ne rfl rfl).trans (decide_eq_false (by omega))) ?_
            refine E_iconst (x := nI 1) rfl (by decide) ?_
            refine E_goto (t := 130) rfl rfl ?_
            refine E_istore (L2 := [some (.ref 0), some (.int (nI j)), some (.int (nI n)), some (.int (nI 0)), some (.ref (49 + 2 * j)), some (.int (nI 1)), some (.int (nI 1)), some (.int (nI v))]) at_X5_rules_130 rfl ?_
            refine E_iload at_X5_rules_132 rfl ?_
            refine E_if (t := 165) (b := false) at_X5_rules_134 rfl (by decide) ?_
            refine E_aload_n at_X5_rules_137 rfl ?_
            refine E_getfield (v := .ref 1) at_X5_rules_138 w0 rfl (by decide) rfl ?_
            refine E_aload at_X5_rules_141 rfl ?_
            refine E_iload at_X5_rules_143 rfl ?_
            refine E_callV (v := some (.int (nI c))) (As := [.ref (49 + 2 * j), .int (nI v)]) (r0 := [.ref 1]) (cs2 := (ww im lf s d k (lsF (wgh s m (qN s))) rf rz ra rn rq lt m1 m2 m3 m4 bd fc hd sz el t g fm hm so si sh ce ca td wa kp la bf oo bo pw ow tr)) at_X5_rules_145 rfl rfl (Nat.le_of_ble_eq_true rfl) rfl (ab_rvOf (w_shv (j := j) (by omega) rfl hz) rfl) (Ev.vi ec (w_first hj hz (x := v) (by omega) hn1 le)) (by decide) rfl ?_
            refine E_callV (v := some (.int (qE (qGreedy s c)))) (As := [.ref 1, .int (nI c)]) (r0 := []) (cs2 := (ww im lf s d k (lsF (wgh s m (qN s))) rf rz ra rn rq lt m1 m2 m3 m4 bd fc hd sz el t g fm hm so si sh ce ca td wa kp la bf oo bo pw ow tr)) at_X5_rules_148 rfl rfl (Nat.le_of_ble_eq_true rfl) rfl (ab_rvOf w1 rfl) (sq_greedyFor w_q1 I (by omega)) (by decide) rfl ?_
            refine E_aload at_X5_rules_151 rfl ?_
            refine E_iload at_X5_rules_153 rfl ?_
            refine E_callV (v := some (.int (tw (el j) (2 * v + 1)))) (As := [.ref (49 + 2 * j), .int (nI v)]) (r0 := [.int (qE (qGreedy s c))]) (cs2 := (ww im lf s d k (lsF (wgh s m (qN s))) rf rz ra rn rq lt m1 m2 m3 m4 bd fc hd sz el t g fm hm so si sh ce ca td wa kp la bf oo bo pw ow tr)) at_X5_rules_155 rfl rfl (Nat.le_of_ble_eq_true rfl) rfl (ab_rvOf (w_shv (j := j) (by omega) rfl hz) rfl) (w_second hj hz (x := v) (by omega) hn1 le) (by decide) rfl ?_
            refine E_ic (t := 165) (b := true) at_X5_rules_158 rfl ((cn_ne rfl rfl).trans (decide_eq_true (by omega))) ?_
            refine E_iconst (x := nI 0) at_X5_rules_165 (by decide) ?_
            refine E_istore (L2 := [some (.ref 0), some (.int (nI j)), some (.int (nI n)), some (.int (nI 0)), some (.ref (49 + 2 * j)), some (.int (nI 1)), some (.int (nI 0)), some (.int (nI v))]) at_X5_rules_166 rfl ?_
            refine E_iinc (y := nI (v + 1)) (L2 := [some (.ref 0), some (.int (nI j)), some (.int (nI n)), some (.int (nI 0)), some (.ref (49 + 2 * j)), some (.int (nI 1)), some (.int (nI 0)), some (.int (nI (v + 1)))]) at_X5_rules_168 rfl (nI_1 _) rfl ?_
            refine E_goto (t := 90) at_X5_rules_171 rfl ?_
            have X := ih (v + 1) (by omega)
            rw [qq1, qq2] at X
            exact X
        · by_cases f3 : ((qE (qGreedy s c)).toInt) = ((tw (el j) (2 * v + 1)).toInt)
          · rw [hrp, hrq]
            have w9 : 2 ^ qN s ≤ 2 ^ 9 := Nat.pow_le_pow_right (by decide) (by omega)
            have qq1 : ruF (ruP (bst s m (qN s) (2 ^ qN s)) (el j)) (v + 1) = 0 := ruF_f (ruP_f (f := bst s m (qN s) (2 ^ qN s)) (x := qE (bst s m (qN s) (2 ^ qN s) c)) (by omega) ec rfl (by omega))
            have qq2 : ruF (ruP (qGreedy s) (el j)) (v + 1) = 1 := (ruF_t (ruP_t (f := qGreedy s) (x := qE (qGreedy s c)) (by omega) ec rfl (by omega))).trans hrq
            refine E_iload at_X5_rules_90 rfl ?_
            refine E_iload_n at_X5_rules_92 rfl ?_
            refine E_ic (t := 174) (b := false) at_X5_rules_93 rfl ((cn_ge (nI_toInt (by omega)) (nI_toInt (by omega))).trans (decide_eq_false (by omega))) ?_
            refine E_iload at_X5_rules_96 rfl ?_
            refine E_if (t := 129) (b := false) at_X5_rules_98 rfl (by decide) ?_
            refine E_aload_n at_X5_rules_101 rfl ?_
            refine E_getfield (v := .ref 32) at_X5_rules_102 w0 rfl (by decide) rfl ?_
            refine E_aload at_X5_rules_105 rfl ?_
            refine E_iload at_X5_rules_107 rfl ?_
            refine E_callV (v := some (.int (nI c))) (As := [.ref (49 + 2 * j), .int (nI v)]) (r0 := [.ref 32]) (cs2 := (ww im lf s d k (lsF (wgh s m (qN s))) rf rz ra rn rq lt m1 m2 m3 m4 bd fc hd sz el t g fm hm so si sh ce ca td wa kp la bf oo bo pw ow tr)) at_X5_rules_109 rfl rfl (Nat.le_of_ble_eq_true rfl) rfl (ab_rvOf (w_shv (j := j) (by omega) rfl hz) rfl) (Ev.vi ec (w_first hj hz (x := v) (by omega) hn1 le)) (by decide) rfl ?_
            refine E_callV (v := some (.int (qE (bst s m (qN s) (2 ^ qN s) c)))) (As := [.ref 32, .int (nI c)]) (r0 := []) (cs2 := (ww im lf s d k (lsF (wgh s m (qN s))) rf rz ra rn rq lt m1 m2 m3 m4 bd fc hd sz el t g fm hm so si sh ce ca td wa kp la bf oo bo pw ow tr)) at_X5_rules_112 rfl rfl (Nat.le_of_ble_eq_true rfl) rfl (ab_rvOf w32 rfl) (w_few I hc) (by decide) rfl ?_
            refine E_aload at_X5_rules_115 rfl ?_
            refine E_iload at_X5_rules_117 rfl ?_
            refine E_callV (v := some (.int (tw (el j) (2 * v + 1)))) (As := [.ref (49 + 2 * j), .int (nI v)]) (r0 := [.int (qE (bst s m (qN s) (2 ^ qN s) c))]) (cs2 := (ww im lf s d k (lsF (wgh s m (qN s))) rf rz ra rn rq lt m1 m2 m3 m4 bd fc hd sz el t g fm hm so si sh ce ca td wa kp la bf oo bo pw ow tr)) at_X5_rules_119 rfl rfl (Nat.le_of_ble_eq_true rfl) rfl (ab_rvOf (w_shv (j := j) (by omega) rfl hz) rfl) (w_second hj hz (x := v) (by omega) hn1 le) (by decide) rfl ?_
            refine E_ic (t := 129) (b := true) at_X5_rules_122 rfl ((cn_ne rfl rfl).trans (decide_eq_true (by omega))) ?_
            refine E_iconst (x := nI 0) at_X5_rules_129 (by decide) ?_
            refine E_istore (L2 := [some (.ref 0), some (.int (nI j)), some (.int (nI n)), some (.int (nI 0)), some (.ref (49 + 2 * j)), some (.int (nI 0)), some (.int (nI 1)), some (.int (nI v))]) at_X5_rules_130 rfl ?_
            refine E_iload at_X5_rules_132 rfl ?_
            refine E_if (t := 165) (b := false) at_X5_rules_134 rfl (by decide) ?_
            refine E_aload_n at_X5_rules_137 rfl ?_
            refine E_getfield (v := .ref 1) at_X5_rules_138 w0 rfl (by decide) rfl ?_
            refine E_aload at_X5_rules_141 rfl ?_
            refine E_iload at_X5_rules_143 rfl ?_
            refine E_callV (v := some (.int (nI c))) (As := [.ref (49 + 2 * j), .int (nI v)]) (r0 := [.ref 1]) (cs2 := (ww im lf s d k (lsF (wgh s m (qN s))) rf rz ra rn rq lt m1 m2 m3 m4 bd fc hd sz el t g fm hm so si sh ce ca td wa kp la bf oo bo pw ow tr)) at_X5_rules_145 rfl rfl (Nat.le_of_ble_eq_true rfl) rfl (ab_rvOf (w_shv (j := j) (by omega) rfl hz) rfl) (Ev.vi ec (w_first hj hz (x := v) (by omega) hn1 le)) (by decide) rfl ?_
            refine E_callV (v := some (.int (qE (qGreedy s c)))) (As := [.ref 1, .int (nI c)]) (r0 := []) (cs2 := (ww im lf s d k (lsF (wgh s m (qN s))) rf rz ra rn rq lt m1 m2 m3 m4 bd fc hd sz el t g fm hm so si sh ce ca td wa kp la bf oo bo pw ow tr)) at_X5_rules_148 rfl rfl (Nat.le_of_ble_eq_true rfl) rfl (ab_rvOf w1 rfl) (sq_greedyFor w_q1 I (by omega)) (by decide) rfl ?_
            refine E_aload at_X5_rules_151 rfl ?_
            refine E_iload at_X5_rules_153 rfl ?_
            refine E_callV (v := some (.int (tw (el j) (2 * v + 1)))) (As := [.ref (49 + 2 * j), .int (nI v)]) (r0 := [.int (qE (qGreedy s c))]) (cs2 := (ww im lf s d k (lsF (wgh s m (qN s))) rf rz ra rn rq lt m1 m2 m3 m4 bd fc hd sz el t g fm hm so si sh ce ca td wa kp la bf oo bo pw ow tr)) at_X5_rules_155 rfl rfl (Nat.le_of_ble_eq_true rfl) rfl (ab_rvOf (w_shv (j := j) (by omega) rfl hz) rfl) (w_second hj hz (x := v) (by omega) hn1 le) (by decide) rfl ?_
            refine E_ic (t := 165) (b := false) at_X5_rules_158 rfl ((cn_ne rfl rfl).trans (decide_eq_false (by omega))) ?_
            refine E_iconst (x := nI 1) rfl (by decide) ?_
            refine E_goto (t := 166) rfl rfl ?_
            refine E_istore (L2 := [some (.ref 0), some (.int (nI j)), some (.int (nI n)), some (.int (nI 0)), some (.ref (49 + 2 * j)), some (.int (nI 0)), some (.int (nI 1)), some (.int (nI v))]) at_X5_rules_166 rfl ?_
            refine E_iinc (y := nI (v + 1)) (L2 := [some (.ref 0), some (.int (nI j)), some (.int (nI n)), some (.int (nI 0)), some (.ref (49 + 2 * j)), some (.int (nI 0)), some (.int (nI 1)), some (.int (nI (v + 1)))]) at_X5_rules_168 rfl (nI_1 _) rfl ?_
            refine E_goto (t := 90) at_X5_rules_171 rfl ?_
            have X := ih (v + 1) (by omega)
            rw [qq1, qq2] at X
            exact X
          · rw [hrp, hrq]
            have w9 : 2 ^ qN s ≤ 2 ^ 9 := Nat.pow_le_pow_right (by decide) (by omega)
            have qq1 : ruF (ruP (bst s m (qN s) (2 ^ qN s)) (el j)) (v + 1) = 0 := ruF_f (ruP_f (f := bst s m (qN s) (2 ^ qN s)) (x := qE (bst s m (qN s) (2 ^ qN s) c)) (by omega) ec rfl (by omega))
            have qq2 : ruF (ruP (qGreedy s) (el j)) (v + 1) = 0 := ruF_f (ruP_f (f := qGreedy s) (x := qE (qGreedy s c)) (by omega) ec rfl (by omega))
            refine E_iload at_X5_rules_90 rfl ?_
            refine E_iload_n at_X5_rules_92 rfl ?_
            refine E_ic (t := 174) (b := false) at_X5_rules_93 rfl ((cn_ge (nI_toInt (by omega)) (nI_toInt (by omega))).trans (decide_eq_false (by omega))) ?_
            refine E_iload at_X5_rules_96 rfl ?_
            refine E_if (t := 129) (b := false) at_X5_rules_98 rfl (by decide) ?_
            refine E_aload_n at_X5_rules_101 rfl ?_
            refine E_getfield (v := .ref 32) at_X5_rules_102 w0 rfl (by decide) rfl ?_
            refine E_aload at_X5_rules_105 rfl ?_
            refine E_iload at_X5_rules_107 rfl ?_
            refine E_callV (v := some (.int (nI c))) (As := [.ref (49 + 2 * j), .int (nI v)]) (r0 := [.ref 32]) (cs2 := (ww im lf s d k (lsF (wgh s m (qN s))) rf rz ra rn rq lt m1 m2 m3 m4 bd fc hd sz el t g fm hm so si sh ce ca td wa kp la bf oo bo pw ow tr)) at_X5_rules_109 rfl rfl (Nat.le_of_ble_eq_true rfl) rfl (ab_rvOf (w_shv (j := j) (by omega) rfl hz) rfl) (Ev.vi ec (w_first hj hz (x := v) (by omega) hn1 le)) (by decide) rfl ?_
            refine E_callV (v := some (.int (qE (bst s m (qN s) (2 ^ qN s) c)))) (As := [.ref 32, .int (nI c)]) (r0 := []) (cs2 := (ww im lf s d k (lsF (wgh s m (qN s))) rf rz ra rn rq lt m1 m2 m3 m4 bd fc hd sz el t g fm hm so si sh ce ca td wa kp la bf oo bo pw ow tr)) at_X5_rules_112 rfl rfl (Nat.le_of_ble_eq_true rfl) rfl (ab_rvOf w32 rfl) (w_few I hc) (by decide) rfl ?_
            refine E_aload at_X5_rules_115 rfl ?_
            refine E_iload at_X5_rules_117 rfl ?_
            refine E_callV (v := some (.int (tw (el j) (2 * v + 1)))) (As := [.ref (49 + 2 * j), .int (nI v)]) (r0 := [.int (qE (bst s m (qN s) (2 ^ qN s) c))]) (cs2 := (ww im lf s d k (lsF (wgh s m (qN s))) rf rz ra rn rq lt m1 m2 m3 m4 bd fc hd sz el t g fm hm so si sh ce ca td wa kp la bf oo bo pw ow tr)) at_X5_rules_119 rfl rfl (Nat.le_of_ble_eq_true rfl) rfl (ab_rvOf (w_shv (j := j) (by omega) rfl hz) rfl) (w_second hj hz (x := v) (by omega) hn1 le) (by decide) rfl ?_
            refine E_ic (t := 129) (b := true) at_X5_rules_122 rfl ((cn_ne rfl rfl).trans (decide_eq_true (by omega))) ?_
            refine E_iconst (x := nI 0) at_X5_rules_129 (by decide) ?_
            refine E_istore (L2 := [some (.ref 0), some (.int (nI j)), some (.int (nI n)), some (.int (nI 0)), some (.ref (49 + 2 * j)), some (.int (nI 0)), some (.int (nI 1)), some (.int (nI v))]) at_X5_rules_130 rfl ?_
            refine E_iload at_X5_rules_132 rfl ?_
            refine E_if (t := 165) (b := false) at_X5_rules_134 rfl (by decide) ?_
            refine E_aload_n at_X5_rules_137 rfl ?_
            refine E_getfield (v := .ref 1) at_X5_rules_138 w0 rfl (by decide) rfl ?_
            refine E_aload at_X5_rules_141 rfl ?_
            refine E_iload at_X5_rules_143 rfl ?_
            refine E_callV (v := some (.int (nI c))) (As := [.ref (49 + 2 * j), .int (nI v)]) (r0 := [.ref 1]) (cs2 := (ww im lf s d k (lsF (wgh s m (qN s))) rf rz ra rn rq lt m1 m2 m3 m4 bd fc hd sz el t g fm hm so si sh ce ca td wa kp la bf oo bo pw ow tr)) at_X5_rules_145 rfl rfl (Nat.le_of_ble_eq_true rfl) rfl (ab_rvOf (w_shv (j := j) (by omega) rfl hz) rfl) (Ev.vi ec (w_first hj hz (x := v) (by omega) hn1 le)) (by decide) rfl ?_
            refine E_callV (v := some (.int (qE (qGreedy s c)))) (As := [.ref 1, .int (nI c)]) (r0 := []) (cs2 := (ww im lf s d k (lsF (wgh s m (qN s))) rf rz ra rn rq lt m1 m2 m3 m4 bd fc hd sz el t g fm hm so si sh ce ca td wa kp la bf oo bo pw ow tr)) at_X5_rules_148 rfl rfl (Nat.le_of_ble_eq_true rfl) rfl (ab_rvOf w1 rfl) (sq_greedyFor w_q1 I (by omega)) (by decide) rfl ?_
            refine E_aload at_X5_rules_151 rfl ?_
            refine E_iload at_X5_rules_153 rfl ?_
            refine E_callV (v := some (.int (tw (el j) (2 * v + 1)))) (As := [.ref (49 + 2 * j), .int (nI v)]) (r0 := [.int (qE (qGreedy s c))]) (cs2 := (ww im lf s d k (lsF (wgh s m (qN s))) rf rz ra rn rq lt m1 m2 m3 m4 bd fc hd sz el t g fm hm so si sh ce ca td wa kp la bf oo bo pw ow tr)) at_X5_rules_155 rfl rfl (Nat.le_of_ble_eq_true rfl) rfl (ab_rvOf (w_shv (j := j) (by omega) rfl hz) rfl) (w_second hj hz (x := v) (by omega) hn1 le) (by decide) rfl ?_
            refine E_ic (t := 165) (b := true) at_X5_rules_158 rfl ((cn_ne rfl rfl).trans (decide_eq_true (by omega))) ?_
            refine E_iconst (x := nI 0) at_X5_rules_165 (by decide) ?_
            refine E_istore (L2 := [some (.ref 0), some (.int (nI j)), some (.int (nI n)), some (.int (nI 0)), some (.ref (49 + 2 * j)), some (.int (nI 0)), some (.int (nI 0)), some (.int (nI v))]) at_X5_rules_166 rfl ?_
            refine E_iinc (y := nI (v + 1)) (L2 := [some (.ref 0), some (.int (nI j)), some (.int (nI n)), some (.int (nI 0)), some (.ref (49 + 2 * j)), some (.int (nI 0)), some (.int (nI 0)), some (.int (nI (v + 1)))]) at_X5_rules_168 rfl (nI_1 _) rfl ?_
            refine E_goto (t := 90) at_X5_rules_171 rfl ?_
            have X := ih (v + 1) (by omega)
            rw [qq1, qq2] at X
            exact X
set_option maxHeartbeats 2000000 in
theorem ru_ml {j n1 : Nat} (hj : j < 8) (hz : sz j = nI n1) (hn1 : n1 ≤ 160) (le : (el j).length = 160) {n m : Nat} (hn40 : n ≤ 40) (hn : 2 * n ≤ n1) (ha : ∀ q, q < n → isB (el j) 100 q) (l_ce : ce.length = 1280) (hce : ∀ q, q < 160 → (el j).getD q 0 = ce.getD (160 * j + q) 0) (I : qI t) : ∀ n0 v (x6 x7 : Option Value), v + n0 = n → Ef ab_Z0 3 mX6_rules (77, [some (.ref 65), some (.int (nI j)), some (.int (nI n)), some (.int (nI 0)), some (.int (nI (ruF (ruP (bst t m (qN t) (2 ^ qN t)) (el j)) v + 2 * ruF (ruP (qGreedy t) (el j)) v))), some (.int (nI v)), x6, x7], [], (ww im lf s d k ls rf rz ra rn rq lt m1 m2 m3 m4 bd fc hd sz el t g fm hm so si sh ce ca td wa kp la (lsF (bst t m (qN t) (2 ^ qN t))) oo bo pw ow tr)) (some (.int (nI (ruF (ruP (bst t m (qN t) (2 ^ qN t)) (el j)) n + 2 * ruF (ruP (qGreedy t) (el j)) n))), (ww im lf s d k ls rf rz ra rn rq lt m1 m2 m3 m4 bd fc hd sz el t g fm hm so si sh ce ca td wa kp la (lsF (bst t m (qN t) (2 ^ qN t))) oo bo pw ow tr)) := by
  have h9 := I.2.2.1.1
  intro n0
  induction n0 with
  | zero =>
    intro v x6 x7 hi
    have hi : v = n := by omega
    rw [hi]
    refine E_iload at_X6_rules_77 rfl ?_
    refine E_iload_n at_X6_rules_79 rfl ?_
    refine E_ic (t := 148) (b := true) at_X6_rules_80 rfl ((cn_ge (nI_toInt (by omega)) (nI_toInt (by omega))).trans (decide_eq_true (by omega))) ?_
    refine E_iload rfl rfl ?_
    exact E_iret rfl rfl
  | succ n0 ih =>
    intro v x6 x7 hi
    obtain ⟨c, hc, ec⟩ := ha v (by omega)
    rcases ruF_01 (ruP (bst t m (qN t) (2 ^ qN t)) (el j)) v with hrp | hrp
    · rcases ruF_01 (ruP (qGreedy t) (el j)) v with hrq | hrq
      · rcases wgh_bst t m (qN t) c with ⟨eb0, fb0⟩ | ⟨B0, hB0, hs0, hw0, hb0, hk0⟩
        · by_cases f3 : ((qE (bst t m (qN t) (2 ^ qN t) c)).toInt) = ((tw (el j) (2 * v + 1)).toInt)
          · by_cases f4 : ((qE (qGreedy t c)).toInt) = ((tw (el j) (2 * v + 1)).toInt)
            · rw [hrp, hrq]
              have w9 : 2 ^ qN t ≤ 2 ^ 9 := Nat.pow_le_pow_right (by decide) (by omega)
              have := lsF_len (bst t m (qN t) (2 ^ qN t))
              have qq1 : ruF (ruP (bst t m (qN t) (2 ^ qN t)) (el j)) (v + 1) = 0 := ruF_0 hrp
              have qq2 : ruF (ruP (qGreedy t) (el j)) (v + 1) = 0 := ruF_0 hrq
              refine E_iload at_X6_rules_77 rfl ?_
              refine E_iload_n at_X6_rules_79 rfl ?_
              refine E_ic (t := 148) (b := false) at_X6_rules_80 rfl ((cn_ge (nI_toInt (by omega)) (nI_toInt (by omega))).trans (decide_eq_false (by omega))) ?_
              refine E_aload_n at_X6_rules_83 rfl ?_
              refine E_iload_n at_X6_rules_84 rfl ?_
              refine E_iconst (x := nI 2) at_X6_rules_85 (by decide) ?_
              refine E_iload at_X6_rules_86 rfl ?_
              refine E_imul (z := nI (2 * v)) at_X6_rules_88 (pk_mul _ _) ?_
              refine E_callV (v := some (.int (nI c))) (As := [.ref 65, .int (nI j), .int (nI (2 * v))]) (r0 := []) (cs2 := (ww im lf s d k ls rf rz ra rn rq lt m1 m2 m3 m4 bd fc hd sz el t g fm hm so si sh ce ca td wa kp la (lsF (bst t m (qN t) (2 ^ qN t))) oo bo pw ow tr)) at_X6_rules_89 rfl rfl (Nat.le_of_ble_eq_true rfl) rfl (ab_rvOf w65 rfl) (Ev.vi ec (m_intAt (q := 2 * v) hj (by omega) l_ce hce)) (by decide) rfl ?_
              refine E_istore (L2 := [some (.ref 65), some (.int (nI j)), some (.int (nI n)), some (.int (nI 0)), some (.int (nI 0)), some (.int (nI v)), some (.int (nI c)), x7]) at_X6_rules_92 rfl ?_
              refine E_aload_n at_X6_rules_94 rfl ?_
              refine E_iload_n at_X6_rules_95 rfl ?_
              refine E_iconst (x := nI 2) at_X6_rules_96 (by decide) ?_
              refine E_iload at_X6_rules_97 rfl ?_
              refine E_imul (z := nI (2 * v)) at_X6_rules_99 (pk_mul _ _) ?_
              refine E_iconst (x := nI 1) at_X6_rules_100 (by decide) ?_
              refine E_iadd (z := nI ((2 * v) + 1)) at_X6_rules_101 (nI_add _ _) ?_
              refine E_callV (v := some (.int (tw (el j) (2 * v + 1)))) (As := [.ref 65, .int (nI j), .int (nI ((2 * v) + 1))]) (r0 := []) (cs2 := (ww im lf s d k ls rf rz ra rn rq lt m1 m2 m3 m4 bd fc hd sz el t g fm hm so si sh ce ca td wa kp la (lsF (bst t m (qN t) (2 ^ qN t))) oo bo pw ow tr)) at_X6_rules_102 rfl rfl (Nat.le_of_ble_eq_true rfl) rfl (ab_rvOf w65 rfl) (m_intAt (q := (2 * v) + 1) hj (by omega) l_ce hce) (by decide) rfl ?_
              refine E_istore (L2 := [some (.ref 65), some (.int (nI j)), some (.int (nI n)), some (.int (nI 0)), some (.int (nI 0)), some (.int (nI v)), some (.int (nI c)), some (.int (tw (el j) (2 * v + 1)))]) at_X6_rules_105 rfl ?_
              refine E_aload_n at_X6_rules_107 rfl ?_
              refine E_getfield (v := .ref 89) at_X6_rules_108 w65 rfl (by decide) rfl ?_
              refine E_iload at_X6_rules_111 rfl ?_
              refine E_ialI (l := (lsF (bst t m (qN t) (2 ^ qN t)))) (v := qE (bst t m (qN t) (2 ^ qN t) c)) at_X6_rules_113 w89 (by omega) (by omega) (lsF_get (by omega)) ?_
              refine E_iload at_X6_rules_114 rfl ?_
              refine E_ic (t := 125) (b := true) at_X6_rules_116 rfl ((cn_eq rfl rfl).trans (decide_eq_true (by omega))) ?_
              refine E_aload_n at_X6_rules_125 rfl ?_
              refine E_iload at_X6_rules_126 rfl ?_
              refine E_callV (v := some (.int (qE (qGreedy t c)))) (As := [.ref 65, .int (nI c)]) (r0 := []) (cs2 := (ww im lf s d k ls rf rz ra rn rq lt m1 m2 m3 m4 bd fc hd sz el t g fm hm so si sh ce ca td wa kp la (lsF (bst t m (qN t) (2 ^ qN t))) oo bo pw ow tr)) at_X6_rules_128 rfl rfl (Nat.le_of_ble_eq_true rfl) rfl (ab_rvOf w65 rfl) (mo_greedyFor w_m I (by omega)) (by decide) rfl ?_
              refine E_iload at_X6_rules_131 rfl ?_
              refine E_ic (t := 142) (b := true) at_X6_rules_133 rfl ((cn_eq rfl rfl).trans (decide_eq_true (by omega))) ?_
              refine E_iinc (y := nI (v + 1)) (L2 := [some (.ref 65), some (.int (nI j)), some (.int (nI n)), some (.int (nI 0)), some (.int (nI 0)), some (.int (nI (v + 1))), some (.int (nI c)), some (.int (tw (el j) (2 * v + 1)))]) at_X6_rules_142 rfl (nI_1 _) rfl ?_
              refine E_goto (t := 77) at_X6_rules_145 rfl ?_
              have X := ih (v + 1) (some (.int (nI c))) (some (.int (tw (el j) (2 * v + 1)))) (by omega)
              rw [qq1, qq2] at X
              exact X
            · rw [hrp, hrq]
              have w9 : 2 ^ qN t ≤ 2 ^ 9 := Nat.pow_le_pow_right (by decide) (by omega)
              have := lsF_len (bst t m (qN t) (2 ^ qN t))
              have qq1 : ruF (ruP (bst t m (qN t) (2 ^ qN t)) (el j)) (v + 1) = 0 := ruF_0 hrp
              have qq2 : ruF (ruP (qGreedy t) (el j)) (v + 1) = 0 := ruF_0 hrq
              refine E_iload at_X6_rules_77 rfl ?_
              refine E_iload_n at_X6_rules_79 rfl ?_
              refine E_ic (t := 148) (b := false) at_X6_rules_80 rfl ((cn_ge (nI_toInt (by omega)) (nI_toInt (by omega))).trans (decide_eq_false (by omega))) ?_
              refine E_aload_n at_X6_rules_83 rfl ?_
              refine E_iload_n at_X6_rules_84 rfl ?_
              refine E_iconst (x := nI 2) at_X6_rules_85 (by decide) ?_
              refine E_iload at_X6_rules_86 rfl ?_
              refine E_imul (z := nI (2 * v)) at_X6_rules_88 (pk_mul _ _) ?_
              refine E_callV (v := some (.int (nI c))) (As := [.ref 65, .int (nI j), .int (nI (2 * v))]) (r0 := []) (cs2 := (ww im lf s d k ls rf rz ra rn rq lt m1 m2 m3 m4 bd fc hd sz el t g fm hm so si sh ce ca td wa kp la (lsF (bst t m (qN t) (2 ^ qN t))) oo bo pw ow tr)) at_X6_rules_89 rfl rfl (Nat.le_of_ble_eq_true rfl) rfl (ab_rvOf w65 rfl) (Ev.vi ec (m_intAt (q := 2 * v) hj (by omega) l_ce hce)) (by decide) rfl ?_
              refine E_istore (L2 := [some (.ref 65), some (.int (nI j)), some (.int (nI n)), some (.int (nI 0)), some (.int (nI 0)), some (.int (nI v)), some (.int (nI c)), x7]) at_X6_rules_92 rfl ?_
              refine E_aload_n at_X6_rules_94 rfl ?_
              refine E_iload_n at_X6_rules_95 rfl ?_
              refine E_iconst (x := nI 2) at_X6_rules_96 (by decide) ?_
              refine E_iload at_X6_rules_97 rfl ?_
              refine E_imul (z := nI (2 * v)) at_X6_rules_99 (pk_mul _ _) ?_
              refine E_iconst (x := nI 1) at_X6_rules_100 (by decide) ?_
              refine E_iadd (z := nI ((2 * v) + 1)) at_X6_rules_101 (nI_add _ _) ?_
              refine E_callV (v := some (.int (tw (el j) (2 * v + 1)))) (As := [.ref 65, .int (nI j), .int (nI ((2 * v) + 1))]) (r0 := []) (cs2 := (ww im lf s d k ls rf rz ra rn rq lt m1 m2 m3 m4 bd fc hd sz el t g fm hm so si sh ce ca td wa kp la (lsF (bst t m (qN t) (2 ^ qN t))) oo bo pw ow tr)) at_X6_rules_102 rfl rfl (Nat.le_of_ble_eq_true rfl) rfl (ab_rvOf w65 rfl) (m_intAt (q := (2 * v) + 1) hj (by omega) l_ce hce) (by decide) rfl ?_
              refine E_istore (L2 := [some (.ref 65), some (.int (nI j)), some (.int (nI n)), some (.int (nI 0)), some (.int (nI 0)), some (.int (nI v)), some (.int (nI c)), some (.int (tw (el j) (2 * v + 1)))]) at_X6_rules_105 rfl ?_
              refine E_aload_n at_X6_rules_107 rfl ?_
              refine E_getfield (v := .ref 89) at_X6_rules_108 w65 rfl (by decide) rfl ?_
              refine E_iload at_X6_rules_111 rfl ?_
              refine E_ialI (l := (lsF (bst t m (qN t) (2 ^ qN t)))) (v := qE (bst t m (qN t) (2 ^ qN t) c)) at_X6_rules_113 w89 (by omega) (by omega) (lsF_get (by omega)) ?_
              refine E_iload at_X6_rules_114 rfl ?_
              refine E_ic (t := 125) (b := true) at_X6_rules_116 rfl ((cn_eq rfl rfl).trans (decide_eq_true (by omega))) ?_
              refine E_aload_n at_X6_rules_125 rfl ?_
              refine E_iload at_X6_rules_126 rfl ?_
              refine E_callV (v := some (.int (qE (qGreedy t c)))) (As := [.ref 65, .int (nI c)]) (r0 := []) (cs2 := (ww im lf s d k ls rf rz ra rn rq lt m1 m2 m3 m4 bd fc hd sz el t g fm hm so si sh ce ca td wa kp la (lsF (bst t m (qN t) (2 ^ qN t))) oo bo pw ow tr)) at_X6_rules_128 rfl rfl (Nat.le_of_ble_eq_true rfl) rfl (ab_rvOf w65 rfl) (mo_greedyFor w_m I (by omega)) (by decide) rfl ?_
              refine E_iload at_X6_rules_131 rfl ?_
              refine E_ic (t := 142) (b := false) at_X6_rules_133 rfl ((cn_eq rfl rfl).trans (decide_eq_false (by omega))) ?_
              refine E_iload at_X6_rules_136 rfl ?_
              refine E_iconst (x := nI 1) at_X6_rules_138 (by decide) ?_
              refine E_iand (z := nI 0) at_X6_rules_139 (by decide) ?_
              refine E_istore (L2 := [some (.ref 65), some (.int (nI j)), some (.int (nI n)), some (.int (nI 0)), some (.int (nI 0)), some (.int (nI v)), some (.int (nI c)), some (.int (tw (el j) (2 * v + 1)))]) at_X6_rules_140 rfl ?_
              refine E_iinc (y := nI (v + 1)) (L2 := [some (.ref 65), some (.int (nI j)), some (.int (nI n)), some (.int (nI 0)), some (.int (nI 0)), some (.int (nI (v + 1))), some (.int (nI c)), some (.int (tw (el j) (2 * v + 1)))]) at_X6_rules_142 rfl (nI_1 _) rfl ?_
              refine E_goto (t := 77) at_X6_rules_145 rfl ?_
              have X := ih (v + 1) (some (.int (nI c))) (some (.int (tw (el j) (2 * v + 1)))) (by omega)
              rw [qq1, qq2] at X
              exact X
          · by_cases f4 : ((qE (qGreedy t c)).toInt) = ((tw (el j) (2 * v + 1)).toInt)
            · rw [hrp, hrq]
              have w9 : 2 ^ qN t ≤ 2 ^ 9 := Nat.pow_le_pow_right (by decide) (by omega)
              have := lsF_len (bst t m (qN t) (2 ^ qN t))
              have qq1 : ruF (ruP (bst t m (qN t) (2 ^ qN t)) (el j)) (v + 1) = 0 := ruF_0 hrp
              have qq2 : ruF (ruP (qGreedy t) (el j)) (v + 1) = 0 := ruF_0 hrq
              refine E_iload at_X6_rules_77 rfl ?_
              refine E_iload_n at_X6_rules_79 rfl ?_
              refine E_ic (t := 148) (b := false) at_X6_rules_80 rfl ((cn_ge (nI_toInt (by omega)) (nI_toInt (by omega))).trans (decide_eq_false (by omega))) ?_
              refine E_aload_n at_X6_rules_83 rfl ?_
              refine E_iload_n at_X6_rules_84 rfl ?_
              refine E_iconst (x := nI 2) at_X6_rules_85 (by decide) ?_
              refine E_iload at_X6_rules_86 rfl ?_
              refine E_imul (z := nI (2 * v)) at_X6_rules_88 (pk_mul _ _) ?_
              refine E_callV (v := some (.int (nI c))) (As := [.ref 65, .int (nI j), .int (nI (2 * v))]) (r0 := []) (cs2 := (ww im lf s d k ls rf rz ra rn rq lt m1 m2 m3 m4 bd fc hd sz el t g fm hm so si sh ce ca td wa kp la (lsF (bst t m (qN t) (2 ^ qN t))) oo bo pw ow tr)) at_X6_rules_89 rfl rfl (Nat.le_of_ble_eq_true rfl) rfl (ab_rvOf w65 rfl) (Ev.vi ec (m_intAt (q := 2 * v) hj (by omega) l_ce hce)) (by decide) rfl ?_
              refine E_istore (L2 := [some (.ref 65), some (.int (nI j)), some (.int (nI n)), some (.int (nI 0)), some (.int (nI 0)), some (.int (nI v)), some (.int (nI c)), x7]) at_X6_rules_92 rfl ?_
              refine E_aload_n at_X6_rules_94 rfl ?_
              refine E_iload_n at_X6_rules_95 rfl ?_
              refine E_iconst (x := nI 2) at_X6_rules_96 (by decide) ?_
              refine E_iload at_X6_rules_97 rfl ?_
              refine E_imul (z := nI (2 * v)) at_X6_rules_99 (pk_mul _ _) ?_
              refine E_iconst (x := nI 1) at_X6_rules_100 (by decide) ?_
              refine E_iadd (z := nI ((2 * v) + 1)) at_X6_rules_101 (nI_add _ _) ?_
              refine E_callV (v := some (.int (tw (el j) (2 * v + 1)))) (As := [.ref 65, .int (nI j), .int (nI ((2 * v) + 1))]) (r0 := []) (cs2 := (ww im lf s d k ls rf rz ra rn rq lt m1 m2 m3 m4 bd fc hd sz el t g fm hm so si sh ce ca td wa kp la (lsF (bst t m (qN t) (2 ^ qN t))) oo bo pw ow tr)) at_X6_rules_102 rfl rfl (Nat.le_of_ble_eq_true rfl) rfl (ab_rvOf w65 rfl) (m_intAt (q := (2 * v) + 1) hj (by omega) l_ce hce) (by decide) rfl ?_
              refine E_istore (L2 := [some (.ref 65), some (.int (nI j)), some (.int (nI n)), some (.int (nI 0)), some (.int (nI 0)), some (.int (nI v)), some (.int (nI c)), some (.int (tw (el j) (2 * v + 1)))]) at_X6_rules_105 rfl ?_
              refine E_aload_n at_X6_rules_107 rfl ?_
              refine E_getfield (v := .ref 89) at_X6_rules_108 w65 rfl (by decide) rfl ?_
              refine E_iload at_X6_rules_111 rfl ?_
              refine E_ialI (l := (lsF (bst t m (qN t) (2 ^ qN t)))) (v := qE (bst t m (qN t) (2 ^ qN t) c)) at_X6_rules_113 w89 (by omega) (by omega) (lsF_get (by omega)) ?_
              refine E_iload at_X6_rules_114 rfl ?_
              refine E_ic (t := 125) (b := false) at_X6_rules_116 rfl ((cn_eq rfl rfl).trans (decide_eq_false (by omega))) ?_
              refine E_iload at_X6_rules_119 rfl ?_
              refine E_iconst (x := nI 2) at_X6_rules_121 (by decide) ?_
              refine E_iand (z := nI 0) at_X6_rules_122 (by decide) ?_
              refine E_istore (L2 := [some (.ref 65), some (.int (nI j)), some (.int (nI n)), some (.int (nI 0)), some (.int (nI 0)), some (.int (nI v)), some (.int (nI c)), some (.int (tw (el j) (2 * v + 1)))]) at_X6_rules_123 rfl ?_
              refine E_aload_n at_X6_rules_125 rfl ?_
              refine E_iload at_X6_rules_126 rfl ?_
              refine E_callV (v := some (.int (qE (qGreedy t c)))) (As := [.ref 65, .int (nI c)]) (r0 := []) (cs2 := (ww im lf s d k ls rf rz ra rn rq lt m1 m2 m3 m4 bd fc hd sz el t g fm hm so si sh ce ca td wa kp la (lsF (bst t m (qN t) (2 ^ qN t))) oo bo pw ow tr)) at_X6_rules_128 rfl rfl (Nat.le_of_ble_eq_true rfl) rfl (ab_rvOf w65 rfl) (mo_greedyFor w_m I (by omega)) (by decide) rfl ?_
              refine E_iload at_X6_rules_131 rfl ?_
              refine E_ic (t := 142) (b := true) at_X6_rules_133 rfl ((cn_eq rfl rfl).trans (decide_eq_true (by omega))) ?_
              refine E_iinc (y := nI (v + 1)) (L2 := [some (.ref 65), some (.int (nI j)), some (.int (nI n)), some (.int (nI 0)), some (.int (nI 0)), some (.int (nI (v + 1))), some (.int (nI c)), some (.int (tw (el j) (2 * v + 1)))]) at_X6_rules_142 rfl (nI_1 _) rfl ?_
              refine E_goto (t := 77) at_X6_rules_145 rfl ?_
              have X := ih (v + 1) (some (.int (nI c))) (some (.int (tw (el j) (2 * v + 1)))) (by omega)
              rw [qq1, qq2] at X
              exact X
            · rw [hrp, hrq]
              have w9 : 2 ^ qN t ≤ 2 ^ 9 := Nat.pow_le_pow_right (by decide) (by omega)
              have := lsF_len (bst t m (qN t) (2 ^ qN t))
              have qq1 : ruF (ruP (bst t m (qN t) (2 ^ qN t)) (el j)) (v + 1) = 0 := ruF_0 hrp
              have qq2 : ruF (ruP (qGreedy t) (el j)) (v + 1) = 0 := ruF_0 hrq
              refine E_iload at_X6_rules_77 rfl ?_
              refine E_iload_n at_X6_rules_79 rfl ?_
              refine E_ic (t := 148) (b := false) at_X6_rules_80 rfl ((cn_ge (nI_toInt (by omega)) (nI_toInt (by omega))).trans (decide_eq_false (by omega))) ?_
              refine E_aload_n at_X6_rules_83 rfl ?_
              refine E_iload_n at_X6_rules_84 rfl ?_
              refine E_iconst (x := nI 2) at_X6_rules_85 (by decide) ?_
              refine E_iload at_X6_rules_86 rfl ?_
              refine E_imul (z := nI (2 * v)) at_X6_rules_88 (pk_mul _ _) ?_
              refine E_callV (v := some (.int (nI c))) (As := [.ref 65, .int (nI j), .int (nI (2 * v))]) (r0 := []) (cs2 := (ww im lf s d k ls rf rz ra rn rq lt m1 m2 m3 m4 bd fc hd sz el t g fm hm so si sh ce ca td wa kp la (lsF (bst t m (qN t) (2 ^ qN t))) oo bo pw ow tr)) at_X6_rules_89 rfl rfl (Nat.le_of_ble_eq_true rfl) rfl (ab_rvOf w65 rfl) (Ev.vi ec (m_intAt (q := 2 * v) hj (by omega) l_ce hce)) (by decide) rfl ?_
              refine E_istore (L2 := [some (.ref 65), some (.int (nI j)), some (.int (nI n)), some (.int (nI 0)), some (.int (nI 0)), some (.int (nI v)), some (.int (nI c)), x7]) at_X6_rules_92 rfl ?_
              refine E_aload_n at_X6_rules_94 rfl ?_
              refine E_iload_n at_X6_rules_95 rfl ?_
              refine E_iconst (x := nI 2) at_X6_rules_96 (by decide) ?_
              refine E_iload at_X6_rules_97 rfl ?_
              refine E_imul (z := nI (2 * v)) at_X6_rules_99 (pk_mul _ _) ?_
              refine E_iconst (x := nI 1) at_X6_rules_100 (by decide) ?_
              refine E_iadd (z := nI ((2 * v) + 1)) at_X6_rules_101 (nI_add _ _) ?_
              refine E_callV (v := some (.int (tw (el j) (2 * v + 1)))) (As := [.ref 65, .int (nI j), .int (nI ((2 * v) + 1))]) (r0 := []) (cs2 := (ww im lf s d k ls rf rz ra rn rq lt m1 m2 m3 m4 bd fc hd sz el t g fm hm so si sh ce ca td wa kp la (lsF (bst t m (qN t) (2 ^ qN t))) oo bo pw ow tr)) at_X6_rules_102 rfl rfl (Nat.le_of_ble_eq_true rfl) rfl (ab_rvOf w65 rfl) (m_intAt (q := (2 * v) + 1) hj (by omega) l_ce hce) (by decide) rfl ?_
              refine E_istore (L2 := [some (.ref 65), some (.int (nI j)), some (.int (nI n)), some (.int (nI 0)), some (.int (nI 0)), some (.int (nI v)), some (.int (nI c)), some (.int (tw (el j) (2 * v + 1)))]) at_X6_rules_105 rfl ?_
              refine E_aload_n at_X6_rules_107 rfl ?_
              refine E_getfield (v := .ref 89) at_X6_rules_108 w65 rfl (by decide) rfl ?_
              refine E_iload at_X6_rules_111 rfl ?_
              refine E_ialI (l := (lsF (bst t m (qN t) (2 ^ qN t)))) (v := qE (bst t m (qN t) (2 ^ qN t) c)) at_X6_rules_113 w89 (by omega) (by omega) (lsF_get (by omega)) ?_
              refine E_iload at_X6_rules_114 rfl ?_
              refine E_ic (t := 125) (b := false) at_X6_rules_116 rfl ((cn_eq rfl rfl).trans (decide_eq_false (by omega))) ?_
              refine E_iload at_X6_rules_119 rfl ?_
              refine E_iconst (x := nI 2) at_X6_rules_121 (by decide) ?_
              refine E_iand (z := nI 0) at_X6_rules_122 (by decide) ?_
              refine E_istore (L2 := [some (.ref 65), some (.int (nI j)), some (.int (nI n)), some (.int (nI 0)), some (.int (nI 0)), some (.int (nI v)), some (.int (nI c)), some (.int (tw (el j) (2 * v + 1)))]) at_X6_rules_123 rfl ?_
              refine E_aload_n at_X6_rules_125 rfl ?_
              refine E_iload at_X6_rules_126 rfl ?_
              refine E_callV (v := some (.int (qE (qGreedy t c)))) (As := [.ref 65, .int (nI c)]) (r0 := []) (cs2 := (ww im lf s d k ls rf rz ra rn rq lt m1 m2 m3 m4 bd fc hd sz el t g fm hm so si sh ce ca td wa kp la (lsF (bst t m (qN t) (2 ^ qN t))) oo bo pw ow tr)) at_X6_rules_128 rfl rfl (Nat.le_of_ble_eq_true rfl) rfl (ab_rvOf w65 rfl) (mo_greedyFor w_m I (by omega)) (by decide) rfl ?_
              refine E_iload at_X6_rules_131 rfl ?_
              refine E_ic (t := 142) (b := false) at_X6_rules_133 rfl ((cn_eq rfl rfl).trans (decide_eq_false (by omega))) ?_
              refine E_iload at_X6_rules_136 rfl ?_
              refine E_iconst (x := nI 1) at_X6_rules_138 (by decide) ?_
              refine E_iand (z := nI 0) at_X6_rules_139 (by decide) ?_
              refine E_istore (L2 := [some (.ref 65), some (.int (nI j)), some (.int (nI n)), some (.int (nI 0)), some (.int (nI 0)), some (.int (nI v)), some (.int (nI c)), some (.int (tw (el j) (2 * v + 1)))]) at_X6_rules_140 rfl ?_
              refine E_iinc (y := nI (v + 1)) (L2 := [some (.ref 65), some (.int (nI j)), some (.int (nI n)), some (.int (nI 0)), some (.int (nI 0)), some (.int (nI (v + 1))), some (.int (nI c)), some (.int (tw (el j) (2 * v + 1)))]) at_X6_rules_142 rfl (nI_1 _) rfl ?_
              refine E_goto (t := 77) at_X6_rules_145 rfl ?_
              have X := ih (v + 1) (some (.int (nI c))) (some (.int (tw (el j) (2 * v + 1)))) (by omega)
              rw [qq1, qq2] at X
              exact X
        · by_cases f3 : ((qE (bst t m (qN t) (2 ^ qN t) c)).toInt) = ((tw (el j) (2 * v + 1)).toInt)
          · by_cases f4 : ((qE (qGreedy t c)).toInt) = ((tw (el j) (2 * v + 1)).toInt)
            · rw [hrp, hrq]
              have w9 : 2 ^ qN t ≤ 2 ^ 9 := Nat.pow_le_pow_right (by decide) (by omega)
              have := lsF_len (bst t m (qN t) (2 ^ qN t))
              have qq1 : ruF (ruP (bst t m (qN t) (2 ^ qN t)) (el j)) (v + 1) = 0 := ruF_0 hrp
              have qq2 : ruF (ruP (qGreedy t) (el j)) (v + 1) = 0 := ruF_0 hrq
              refine E_iload at_X6_rules_77 rfl ?_
              refine E_iload_n at_X6_rules_79 rfl ?_
              refine E_ic (t := 148) (b := false) at_X6_rules_80 rfl ((cn_ge (nI_toInt (by omega)) (nI_toInt (by omega))).trans (decide_eq_false (by omega))) ?_
              refine E_aload_n at_X6_rules_83 rfl ?_
              refine E_iload_n at_X6_rules_84 rfl ?_
              refine E_iconst (x := nI 2) at_X6_rules_85 (by decide) ?_
              refine E_iload at_X6_rules_86 rfl ?_
              refine E_imul (z := nI (2 * v)) at_X6_rules_88 (pk_mul _ _) ?_
              refine E_callV (v := some (.int (nI c))) (As := [.ref 65, .int (nI j), .int (nI (2 * v))]) (r0 := []) (cs2 := (ww im lf s d k ls rf rz ra rn rq lt m1 m2 m3 m4 bd fc hd sz el t g fm hm so si sh ce ca td wa kp la (lsF (bst t m (qN t) (2 ^ qN t))) oo bo pw ow tr)) at_X6_rules_89 rfl rfl (Nat.le_of_ble_eq_true rfl) rfl (ab_rvOf w65 rfl) (Ev.vi ec (m_intAt (q := 2 * v) hj (by omega) l_ce hce)) (by decide) rfl ?_
              refine E_istore (L2 := [some (.ref 65), some (.int (nI j)), some (.int (nI n)), some (.int (nI 0)), some (.int (nI 0)), some (.int (nI v)), some (.int (nI c)), x7]) at_X6_rules_92 rfl ?_
              refine E_aload_n at_X6_rules_94 rfl ?_
              refine E_iload_n at_X6_rules_95 rfl ?_
              refine E_iconst (x := nI 2) at_X6_rules_96 (by decide) ?_
              refine E_iload at_X6_rules_97 rfl ?_
              refine E_imul (z := nI (2 * v)) at_X6_rules_99 (pk_mul _ _) ?_
              refine E_iconst (x := nI 1) at_X6_rules_100 (by decide) ?_
              refine E_iadd (z := nI ((2 * v) + 1)) at_X6_rules_101 (nI_add _ _) ?_
              refine E_callV (v := some (.int (tw (el j) (2 * v + 1)))) (As := [.ref 65, .int (nI j), .int (nI ((2 * v) + 1))]) (r0 := []) (cs2 := (ww im lf s d k ls rf rz ra rn rq lt m1 m2 m3 m4 bd fc hd sz el t g fm hm so si sh ce ca td wa kp la (lsF (bst t m (qN t) (2 ^ qN t))) oo bo pw ow tr)) at_X6_rules_102 rfl rfl (Nat.le_of_ble_eq_true rfl) rfl (ab_rvOf w65 rfl) (m_intAt (q := (2 * v) + 1) hj (by omega) l_ce hce) (by decide) rfl ?_
              refine E_istore (L2 := [some (.ref 65), some (.int (nI j)), some (.int (nI n)), some (.int (nI 0)), some (.int (nI 0)), some (.int (nI v)), some (.int (nI c)), some (.int (tw (el j) (2 * v + 1)))]) at_X6_rules_105 rfl ?_
              refine E_aload_n at_X6_rules_107 rfl ?_
              refine E_getfield (v := .ref 89) at_X6_rules_108 w65 rfl (by decide) rfl ?_
              refine E_iload at_X6_rules_111 rfl ?_
              refine E_ialI (l := (lsF (bst t m (qN t) (2 ^ qN t)))) (v := qE (bst t m (qN t) (2 ^ qN t) c)) at_X6_rules_113 w89 (by omega) (by omega) (lsF_get (by omega)) ?_
              refine E_iload at_X6_rules_114 rfl ?_
              refine E_ic (t := 125) (b := true) at_X6_rules_116 rfl ((cn_eq rfl rfl).trans (decide_eq_true (by omega))) ?_
              refine E_aload_n at_X6_rules_125 rfl ?_
              refine E_iload at_X6_rules_126 rfl ?_
              refine E_callV (v := some (.int (qE (qGreedy t c)))) (As := [.ref 65, .int (nI c)]) (r0 := []) (cs2 := (ww im lf s d k ls rf rz ra rn rq lt m1 m2 m3 m4 bd fc hd sz el t g fm hm so si sh ce ca td wa kp la (lsF (bst t m (qN t) (2 ^ qN t))) oo bo pw ow tr)) at_X6_rules_128 rfl rfl (Nat.le_of_ble_eq_true rfl) rfl (ab_rvOf w65 rfl) (mo_greedyFor w_m I (by omega)) (by decide) rfl ?_
              refine E_iload at_X6_rules_131 rfl ?_
              refine E_ic (t := 142) (b := true) at_X6_rules_133 rfl ((cn_eq rfl rfl).trans (decide_eq_true (by omega))) ?_
              refine E_iinc (y := nI (v + 1)) (L2 := [some (.ref 65), some (.int (nI j)), some (.int (nI n)), some (.int (nI 0)), some (.int (nI 0)), some (.int (nI (v + 1))), some (.int (nI c)), some (.int (tw (el j) (2 * v + 1)))]) at_X6_rules_142 rfl (nI_1 _) rfl ?_
              refine E_goto (t := 77) at_X6_rules_145 rfl ?_
              have X := ih (v + 1) (some (.int (nI c))) (some (.int (tw (el j) (2 * v + 1)))) (by omega)
              rw [qq1, qq2] at X
              exact X
            · rw [hrp, hrq]
              have w9 : 2 ^ qN t ≤ 2 ^ 9 := Nat.pow_le_pow_right (by decide) (by omega)
              have := lsF_len (bst t m (qN t) (2 ^ qN t))
              have qq1 : ruF (ruP (bst t m (qN t) (2 ^ qN t)) (el j)) (v + 1) = 0 := ruF_0 hrp
              have qq2 : ruF (ruP (qGreedy t) (el j)) (v + 1) = 0 := ruF_0 hrq
              refine E_iload at_X6_rules_77 rfl ?_
              refine E_iload_n at_X6_rules_79 rfl ?_
              refine E_ic (t := 148) (b := false) at_X6_rules_80 rfl ((cn_ge (nI_toInt (by omega)) (nI_toInt (by omega))).trans (decide_eq_false (by omega))) ?_
              refine E_aload_n at_X6_rules_83 rfl ?_
              refine E_iload_n at_X6_rules_84 rfl ?_
              refine E_iconst (x := nI 2) at_X6_rules_85 (by decide) ?_
              refine E_iload at_X6_rules_86 rfl ?_
              refine E_imul (z := nI (2 * v)) at_X6_rules_88 (pk_mul _ _) ?_
              refine E_callV (v := some (.int (nI c))) (As := [.ref 65, .int (nI j), .int (nI (2 * v))]) (r0 := []) (cs2 := (ww im lf s d k ls rf rz ra rn rq lt m1 m2 m3 m4 bd fc hd sz el t g fm hm so si sh ce ca td wa kp la (lsF (bst t m (qN t) (2 ^ qN t))) oo bo pw ow tr)) at_X6_rules_89 rfl rfl (Nat.le_of_ble_eq_true rfl) rfl (ab_rvOf w65 rfl) (Ev.vi ec (m_intAt (q := 2 * v) hj (by omega) l_ce hce)) (by decide) rfl ?_
              refine E_istore (L2 := [some (.ref 65), some (.int (nI j)), some (.int (nI n)), some (.int (nI 0)), some (.int (nI 0)), some (.int (nI v)), some (.int (nI c)), x7]) at_X6_rules_92 rfl ?_
              refine E_aload_n at_X6_rules_94 rfl ?_
              refine E_iload_n at_X6_rules_95 rfl ?_
              refine E_iconst (x := nI 2) at_X6_rules_96 (by decide) ?_
              refine E_iload at_X6_rules_97 rfl ?_
              refine E_imul (z := nI (2 * v)) at_X6_rules_99 (pk_mul _ _) ?_
              refine E_iconst (x := nI 1) at_X6_rules_100 (by decide) ?_
              refine E_iadd (z := nI ((2 * v) + 1)) at_X6_rules_101 (nI_add _ _) ?_
              refine E_callV (v := some (.int (tw (el j) (2 * v + 1)))) (As := [.ref 65, .int (nI j), .int (nI ((2 * v) + 1))]) (r0 := []) (cs2 := (ww im lf s d k ls rf rz ra rn rq lt m1 m2 m3 m4 bd fc hd sz el t g fm hm so si sh ce ca td wa kp la (lsF (bst t m (qN t) (2 ^ qN t))) oo bo pw ow tr)) at_X6_rules_102 rfl rfl (Nat.le_of_ble_eq_true rfl) rfl (ab_rvOf w65 rfl) (m_intAt (q := (2 * v) + 1) hj (by omega) l_ce hce) (by decide) rfl ?_
              refine E_istore (L2 := [some (.ref 65), some (.int (nI j)), some (.int (nI n)), some (.int (nI 0)), some (.int (nI 0)), some (.int (nI v)), some (.int (nI c)), some (.int (tw (el j) (2 * v + 1)))]) at_X6_rules_105 rfl ?_
              refine E_aload_n at_X6_rules_107 rfl ?_
              refine E_getfield (v := .ref 89) at_X6_rules_108 w65 rfl (by decide) rfl ?_
              refine E_iload at_X6_rules_111 rfl ?_
              refine E_ialI (l := (lsF (bst t m (qN t) (2 ^ qN t)))) (v := qE (bst t m (qN t) (2 ^ qN t) c)) at_X6_rules_113 w89 (by omega) (by omega) (lsF_get (by omega)) ?_
              refine E_iload at_X6_rules_114 rfl ?_
              refine E_ic (t := 125) (b := true) at_X6_rules_116 rfl ((cn_eq rfl rfl).trans (decide_eq_true (by omega))) ?_
              refine E_aload_n at_X6_rules_125 rfl ?_
              refine E_iload at_X6_rules_126 rfl ?_
              refine E_callV (v := some (.int (qE (qGreedy t c)))) (As := [.ref 65, .int (nI c)]) (r0 := []) (cs2 := (ww im lf s d k ls rf rz ra rn rq lt m1 m2 m3 m4 bd fc hd sz el t g fm hm so si sh ce ca td wa kp la (lsF (bst t m (qN t) (2 ^ qN t))) oo bo pw ow tr)) at_X6_rules_128 rfl rfl (Nat.le_of_ble_eq_true rfl) rfl (ab_rvOf w65 rfl) (mo_greedyFor w_m I (by omega)) (by decide) rfl ?_
              refine E_iload at_X6_rules_131 rfl ?_
              refine E_ic (t := 142) (b := false) at_X6_rules_133 rfl ((cn_eq rfl rfl).trans (decide_eq_false (by omega))) ?_
              refine E_iload at_X6_rules_136 rfl ?_
              refine E_iconst (x := nI 1) at_X6_rules_138 (by decide) ?_
              refine E_iand (z := nI 0) at_X6_rules_139 (by decide) ?_
              refine E_istore (L2 := [some (.ref 65), some (.int (nI j)), some (.int (nI n)), some (.int (nI 0)), some (.int (nI 0)), some (.int (nI v)), some (.int (nI c)), some (.int (tw (el j) (2 * v + 1)))]) at_X6_rules_140 rfl ?_
              refine E_iinc (y := nI (v + 1)) (L2 := [some (.ref 65), some (.int (nI j)), some (.int (nI n)), some (.int (nI 0)), some (.int (nI 0)), some (.int (nI (v + 1))), some (.int (nI c)), some (.int (tw (el j) (2 * v + 1)))]) at_X6_rules_142 rfl (nI_1 _) rfl ?_
              refine E_goto (t := 77) at_X6_rules_145 rfl ?_
              have X := ih (v + 1) (some (.int (nI c))) (some (.int (tw (el j) (2 * v + 1)))) (by omega)
              rw [qq1, qq2] at X
              exact X
          · by_cases f4 : ((qE (qGreedy t c)).toInt) = ((tw (el j) (2 * v + 1)).toInt)
            · rw [hrp, hrq]
              have w9 : 2 ^ qN t ≤ 2 ^ 9 := Nat.pow_le_pow_right (by decide) (by omega)
              have := lsF_len (bst t m (qN t) (2 ^ qN t))
              have qq1 : ruF (ruP (bst t m (qN t) (2 ^ qN t)) (el j)) (v + 1) = 0 := ruF_0 hrp
              have qq2 : ruF (ruP (qGreedy t) (el j)) (v + 1) = 0 := ruF_0 hrq
              refine E_iload at_X6_rules_77 rfl ?_
              refine E_iload_n at_X6_rules_79 rfl ?_
              refine E_ic (t := 148) (b := false) at_X6_rules_80 rfl ((cn_ge (nI_toInt (by omega)) (nI_toInt (by omega))).trans (decide_eq_false (by omega))) ?_
              refine E_aload_n at_X6_rules_83 rfl ?_
              refine E_iload_n at_X6_rules_84 rfl ?_
              refine E_iconst (x := nI 2) at_X6_rules_85 (by decide) ?_
              refine E_iload at_X6_rules_86 rfl ?_
              refine E_imul (z := nI (2 * v)) at_X6_rules_88 (pk_mul _ _) ?_
              refine E_callV (v := some (.int (nI c))) (As := [.ref 65, .int (nI j), .int (nI (2 * v))]) (r0 := []) (cs2 := (ww im lf s d k ls rf rz ra rn rq lt m1 m2 m3 m4 bd fc hd sz el t g fm hm so si sh ce ca td wa kp la (lsF (bst t m (qN t) (2 ^ qN t))) oo bo pw ow tr)) at_X6_rules_89 rfl rfl (Nat.le_of_ble_eq_true rfl) rfl (ab_rvOf w65 rfl) (Ev.vi ec (m_intAt (q := 2 * v) hj (by omega) l_ce hce)) (by decide) rfl ?_
              refine E_istore (L2 := [some (.ref 65), some (.int (nI j)), some (.int (nI n)), some (.int (nI 0)), some (.int (nI 0)), some (.int (nI v)), some (.int (nI c)), x7]) at_X6_rules_92 rfl ?_
              refine E_aload_n at_X6_rules_94 rfl ?_
              refine E_iload_n at_X6_rules_95 rfl ?_
              refine E_iconst (x := nI 2) at_X6_rules_96 (by decide) ?_
              refine E_iload at_X6_rules_97 rfl ?_
              refine E_imul (z := nI (2 * v)) at_X6_rules_99 (pk_mul _ _) ?_
              refine E_iconst (x := nI 1) at_X6_rules_100 (by decide) ?_
              refine E_iadd (z := nI ((2 * v) + 1)) at_X6_rules_101 (nI_add _ _) ?_
              refine E_callV (v := some (.int (tw (el j) (2 * v + 1)))) (As := [.ref 65, .int (nI j), .int (nI ((2 * v) + 1))]) (r0 := []) (cs2 := (ww im lf s d k ls rf rz ra rn rq lt m1 m2 m3 m4 bd fc hd sz el t g fm hm so si sh ce ca td wa kp la (lsF (bst t m (qN t) (2 ^ qN t))) oo bo pw ow tr)) at_X6_rules_102 rfl rfl (Nat.le_of_ble_eq_true rfl) rfl (ab_rvOf w65 rfl) (m_intAt (q := (2 * v) + 1) hj (by omega) l_ce hce) (by decide) rfl ?_
              refine E_istore (L2 := [some (.ref 65), some (.int (nI j)), some (.int (nI n)), some (.int (nI 0)), some (.int (nI 0)), some (.int (nI v)), some (.int (nI c)), some (.int (tw (el j) (2 * v + 1)))]) at_X6_rules_105 rfl ?_
              refine E_aload_n at_X6_rules_107 rfl ?_
              refine E_getfield (v := .ref 89) at_X6_rules_108 w65 rfl (by decide) rfl ?_
              refine E_iload at_X6_rules_111 rfl ?_
              refine E_ialI (l := (lsF (bst t m (qN t) (2 ^ qN t)))) (v := qE (bst t m (qN t) (2 ^ qN t) c)) at_X6_rules_113 w89 (by omega) (by omega) (lsF_get (by omega)) ?_
              refine E_iload at_X6_rules_114 rfl ?_
              refine E_ic (t := 125) (b := false) at_X6_rules_116 rfl ((cn_eq rfl rfl).trans (decide_eq_false (by omega))) ?_
              refine E_iload at_X6_rules_119 rfl ?_
              refine E_iconst (x := nI 2) at_X6_rules_121 (by decide) ?_
              refine E_iand (z := nI 0) at_X6_rules_122 (by decide) ?_
              refine E_istore (L2 := [some (.ref 65), some (.int (nI j)), some (.int (nI n)), some (.int (nI 0)), some (.int (nI 0)), some (.int (nI v)), some (.int (nI c)), some (.int (tw (el j) (2 * v + 1)))]) at_X6_rules_123 rfl ?_
              refine E_aload_n at_X6_rules_125 rfl ?_
              refine E_iload at_X6_rules_126 rfl ?_
              refine E_callV (v := some (.int (qE (qGreedy t c)))) (As := [.ref 65, .int (nI c)]) (r0 := []) (cs2 := (ww im lf s d k ls rf rz ra rn rq lt m1 m2 m3 m4 bd fc hd sz el t g fm hm so si sh ce ca td wa kp la (lsF (bst t m (qN t) (2 ^ qN t))) oo bo pw ow tr)) at_X6_rules_128 rfl rfl (Nat.le_of_ble_eq_true rfl) rfl (ab_rvOf w65 rfl) (mo_greedyFor w_m I (by omega)) (by decide) rfl ?_
              refine E_iload at_X6_rules_131 rfl ?_
              refine E_ic (t := 142) (b := true) at_X6_rules_133 rfl ((cn_eq rfl rfl).trans (decide_eq_true (by omega))) ?_
              refine E_iinc (y := nI (v + 1)) (L2 := [some (.ref 65), some (.int (nI j)), some (.int (nI n)), some (.int (nI 0)), some (.int (nI 0)), some (.int (nI (v + 1))), some (.int (nI c)), some (.int (tw (el j) (2 * v + 1)))]) at_X6_rules_142 rfl (nI_1 _) rfl ?_
              refine E_goto (t := 77) at_X6_rules_145 rfl ?_
              have X := ih (v + 1) (some (.int (nI c))) (some (.int (tw (el j) (2 * v + 1)))) (by omega)
              rw [qq1, qq2] at X
              exact X
            · rw [hrp, hrq]
              have w9 : 2 ^ qN t ≤ 2 ^ 9 := Nat.pow_le_pow_right (by decide) (by omega)
              have := lsF_len (bst t m (qN t) (2 ^ qN t))
              have qq1 : ruF (ruP (bst t m (qN t) (2 ^ qN t)) (el j)) (v + 1) = 0 := ruF_0 hrp
              have qq2 : ruF (ruP (qGreedy t) (el j)) (v + 1) = 0 := ruF_0 hrq
              refine E_iload at_X6_rules_77 rfl ?_
              refine E_iload_n at_X6_rules_79 rfl ?_
              refine E_ic (t := 148) (b := false) at_X6_rules_80 rfl ((cn_ge (nI_toInt (by omega)) (nI_toInt (by omega))).trans (decide_eq_false (by omega))) ?_
              refine E_aload_n at_X6_rules_83 rfl ?_
              refine E_iload_n at_X6_rules_84 rfl ?_
              refine E_iconst (x := nI 2) at_X6_rules_85 (by decide) ?_
              refine E_iload at_X6_rules_86 rfl ?_
              refine E_imul (z := nI (2 * v)) at_X6_rules_88 (pk_mul _ _) ?_
              refine E_callV (v := some (.int (nI c))) (As := [.ref 65, .int (nI j), .int (nI (2 * v))]) (r0 := []) (cs2 := (ww im lf s d k ls rf rz ra rn rq lt m1 m2 m3 m4 bd fc hd sz el t g fm hm so si sh ce ca td wa kp la (lsF (bst t m (qN t) (2 ^ qN t))) oo bo pw ow tr)) at_X6_rules_89 rfl rfl (Nat.le_of_ble_eq_true rfl) rfl (ab_rvOf w65 rfl) (Ev.vi ec (m_intAt (q := 2 * v) hj (by omega) l_ce hce)) (by decide) rfl ?_
              refine E_istore (L2 := [some (.ref 65), some (.int (nI j)), some (.int (nI n)), some (.int (nI 0)), some (.int (nI 0)), some (.int (nI v)), some (.int (nI c)), x7]) at_X6_rules_92 rfl ?_
              refine E_aload_n at_X6_rules_94 rfl ?_
              refine E_iload_n at_X6_rules_95 rfl ?_
              refine E_iconst (x := nI 2) at_X6_rules_96 (by decide) ?_
              refine E_iload at_X6_rules_97 rfl ?_
              refine E_imul (z := nI (2 * v)) at_X6_rules_99 (pk_mul _ _) ?_
              refine E_iconst (x := nI 1) at_X6_rules_100 (by decide) ?_
              refine E_iadd (z := nI ((2 * v) + 1)) at_X6_rules_101 (nI_add _ _) ?_
              refine E_callV (v := some (.int (tw (el j) (2 * v + 1)))) (As := [.ref 65, .int (nI j), .int (nI ((2 * v) + 1))]) (r0 := []) (cs2 := (ww im lf s d k ls rf rz ra rn rq lt m1 m2 m3 m4 bd fc hd sz el t g fm hm so si sh ce ca td wa kp la (lsF (bst t m (qN t) (2 ^ qN t))) oo bo pw ow tr)) at_X6_rules_102 rfl rfl (Nat.le_of_ble_eq_true rfl) rfl (ab_rvOf w65 rfl) (m_intAt (q := (2 * v) + 1) hj (by omega) l_ce hce) (by decide) rfl ?_
              refine E_istore (L2 := [some (.ref 65), some (.int (nI j)), some (.int (nI n)), some (.int (nI 0)), some (.int (nI 0)), some (.int (nI v)), some (.int (nI c)), some (.int (tw (el j) (2 * v + 1)))]) at_X6_rules_105 rfl ?_
              refine E_aload_n at_X6_rules_107 rfl ?_
              refine E_getfield (v := .ref 89) at_X6_rules_108 w65 rfl (by decide) rfl ?_
              refine E_iload at_X6_rules_111 rfl ?_
              refine E_ialI (l := (lsF (bst t m (qN t) (2 ^ qN t)))) (v := qE (bst t m (qN t) (2 ^ qN t) c)) at_X6_rules_113 w89 (by omega) (by omega) (lsF_get (by omega)) ?_
              refine E_iload at_X6_rules_114 rfl ?_
              refine E_ic (t := 125) (b := false) at_X6_rules_116 rfl ((cn_eq rfl rfl).trans (decide_eq_false (by omega))) ?_
              refine E_iload at_X6_rules_119 rfl ?_
              refine E_iconst (x := nI 2) at_X6_rules_121 (by decide) ?_
              refine E_iand (z := nI 0) at_X6_rules_122 (by decide) ?_
              refine E_istore (L2 := [some (.ref 65), some (.int (nI j)), some (.int (nI n)), some (.int (nI 0)), some (.int (nI 0)), some (.int (nI v)), some (.int (nI c)), some (.int (tw (el j) (2 * v + 1)))]) at_X6_rules_123 rfl ?_
              refine E_aload_n at_X6_rules_125 rfl ?_
              refine E_iload at_X6_rules_126 rfl ?_
              refine E_callV (v := some (.int (qE (qGreedy t c)))) (As := [.ref 65, .int (nI c)]) (r0 := []) (cs2 := (ww im lf s d k ls rf rz ra rn rq lt m1 m2 m3 m4 bd fc hd sz el t g fm hm so si sh ce ca td wa kp la (lsF (bst t m (qN t) (2 ^ qN t))) oo bo pw ow tr)) at_X6_rules_128 rfl rfl (Nat.le_of_ble_eq_true rfl) rfl (ab_rvOf w65 rfl) (mo_greedyFor w_m I (by omega)) (by decide) rfl ?_
              refine E_iload at_X6_rules_131 rfl ?_
              refine E_ic (t := 142) (b := false) at_X6_rules_133 rfl ((cn_eq rfl rfl).trans (decide_eq_false (by omega))) ?_
              refine E_iload at_X6_rules_136 rfl ?_
              refine E_iconst (x := nI 1) at_X6_rules_138 (by decide) ?_
              refine E_iand (z := nI 0) at_X6_rules_139 (by decide) ?_
              refine E_istore (L2 := [some (.ref 65), some (.int (nI j)), some (.int (nI n)), some (.int (nI 0)), some (.int (nI 0)), some (.int (nI v)), some (.int (nI c)), some (.int (tw (el j) (2 * v + 1)))]) at_X6_rules_140 rfl ?_
              refine E_iinc (y := nI (v + 1)) (L2 := [some (.ref 65), some (.int (nI j)), some (.int (nI n)), some (.int (nI 0)), some (.int (nI 0)), some (.int (nI (v + 1))), some (.int (nI c)), some (.int (tw (el j) (2 * v + 1)))]) at_X6_rules_142 rfl (nI_1 _) rfl ?_
              refine E_goto (t := 77) at_X6_rules_145 rfl ?_
              have X := ih (v + 1) (some (.int (nI c))) (some (.int (tw (el j) (2 * v + 1)))) (by omega)
              rw [qq1, qq2] at X
              exact X
      · rcases wgh_bst t m (qN t) c with ⟨eb0, fb0⟩ | ⟨B0, hB0, hs0, hw0, hb0, hk0⟩
        · by_cases f3 : ((qE (bst t m (qN t) (2 ^ qN t) c)).toInt) = ((tw (el j) (2 * v + 1)).toInt)
          · by_cases f4 : ((qE (qGreedy t c)).toInt) = ((tw (el j) (2 * v + 1)).toInt)
            · rw [hrp, hrq]
              have w9 : 2 ^ qN t ≤ 2 ^ 9 := Nat.pow_le_pow_right (by decide) (by omega)
              have := lsF_len (bst t m (qN t) (2 ^ qN t))
              have qq1 : ruF (ruP (bst t m (qN t) (2 ^ qN t)) (el j)) (v + 1) = 0 := ruF_0 hrp
              have qq2 : ruF (ruP (qGreedy t) (el j)) (v + 1) = 1 := (ruF_t (ruP_t (f := qGreedy t) (x := qE (qGreedy t c)) (by omega) ec rfl (by omega))).trans hrq
              refine E_iload at_X6_rules_77 rfl ?_
              refine E_iload_n at_X6_rules_79 rfl ?_
              refine E_ic (t := 148) (b := false) at_X6_rules_80 rfl ((cn_ge (nI_toInt (by omega)) (nI_toInt (by omega))).trans (decide_eq_false (by omega))) ?_
              refine E_aload_n at_X6_rules_83 rfl ?_
              refine E_iload_n at_X6_rules_84 rfl ?_
              refine E_iconst (x := nI 2) at_X6_rules_85 (by decide) ?_
              refine E_iload at_X6_rules_86 rfl ?_
              refine E_imul (z := nI (2 * v)) at_X6_rules_88 (pk_mul _ _) ?_
              refine E_callV (v := some (.int (nI c))) (As := [.ref 65, .int (nI j), .int (nI (2 * v))]) (r0 := []) (cs2 := (ww im lf s d k ls rf rz ra rn rq lt m1 m2 m3 m4 bd fc hd sz el t g fm hm so si sh ce ca td wa kp la (lsF (bst t m (qN t) (2 ^ qN t))) oo bo pw ow tr)) at_X6_rules_89 rfl rfl (Nat.le_of_ble_eq_true rfl) rfl (ab_rvOf w65 rfl) (Ev.vi ec (m_intAt (q := 2 * v) hj (by omega) l_ce hce)) (by decide) rfl ?_
              refine E_istore (L2 := [some (.ref 65), some (.int (nI j)), some (.int (nI n)), some (.int (nI 0)), some (.int (nI 2)), some (.int (nI v)), some (.int (nI c)), x7]) at_X6_rules_92 rfl ?_
              refine E_aload_n at_X6_rules_94 rfl ?_
              refine E_iload_n at_X6_rules_95 rfl ?_
              refine E_iconst (x := nI 2) at_X6_rules_96 (by decide) ?_
              refine E_iload at_X6_rules_97 rfl ?_
              refine E_imul (z := nI (2 * v)) at_X6_rules_99 (pk_mul _ _) ?_
              refine E_iconst (x := nI 1) at_X6_rules_100 (by decide) ?_
              refine E_iadd (z := nI ((2 * v) + 1)) at_X6_rules_101 (nI_add _ _) ?_
              refine E_callV (v := some (.int (tw (el j) (2 * v + 1)))) (As := [.ref 65, .int (nI j), .int (nI ((2 * v) + 1))]) (r0 := []) (cs2 := (ww im lf s d k ls rf rz ra rn rq lt m1 m2 m3 m4 bd fc hd sz el t g fm hm so si sh ce ca td wa kp la (lsF (bst t m (qN t) (2 ^ qN t))) oo bo pw ow tr)) at_X6_rules_102 rfl rfl (Nat.le_of_ble_eq_true rfl) rfl (ab_rvOf w65 rfl) (m_intAt (q := (2 * v) + 1) hj (by omega) l_ce hce) (by decide) rfl ?_
              refine E_istore (L2 := [some (.ref 65), some (.int (nI j)), some (.int (nI n)), some (.int (nI 0)), some (.int (nI 2)), some (.int (nI v)), some (.int (nI c)), some (.int (tw (el j) (2 * v + 1)))]) at_X6_rules_105 rfl ?_
              refine E_aload_n at_X6_rules_107 rfl ?_
              refine E_getfield (v := .ref 89) at_X6_rules_108 w65 rfl (by decide) rfl ?_
              refine E_iload at_X6_rules_111 rfl ?_
              refine E_ialI (l := (lsF (bst t m (qN t) (2 ^ qN t)))) (v := qE (bst t m (qN t) (2 ^ qN t) c)) at_X6_rules_113 w89 (by omega) (by omega) (lsF_get (by omega)) ?_
              refine E_iload at_X6_rules_114 rfl ?_
              refine E_ic (t := 125) (b := true) at_X6_rules_116 rfl ((cn_eq rfl rfl).trans (decide_eq_true (by omega))) ?_
              refine E_aload_n at_X6_rules_125 rfl ?_
              refine E_iload at_X6_rules_126 rfl ?_
              refine E_callV (v := some (.int (qE (qGreedy t c)))) (As := [.ref 65, .int (nI c)]) (r0 := []) (cs2 := (ww im lf s d k ls rf rz ra rn rq lt m1 m2 m3 m4 bd fc hd sz el t g fm hm so si sh ce ca td wa kp la (lsF (bst t m (qN t) (2 ^ qN t))) oo bo pw ow tr)) at_X6_rules_128 rfl rfl (Nat.le_of_ble_eq_true rfl) rfl (ab_rvOf w65 rfl) (mo_greedyFor w_m I (by omega)) (by decide) rfl ?_
              refine E_iload at_X6_rules_131 rfl ?_
              refine E_ic (t := 142) (b := true) at_X6_rules_133 rfl ((cn_eq rfl rfl).trans (decide_eq_true (by omega))) ?_
              refine E_iinc (y := nI (v + 1)) (L2 := [some (.ref 65), some (.int (nI j)), some (.int (nI n)), some (.int (nI 0)), some (.int (nI 2)), some (.int (nI (v + 1))), some (.int (nI c)), some (.int (tw (el j) (2 * v + 1)))]) at_X6_rules_142 rfl (nI_1 _) rfl ?_
              refine E_goto (t := 77) at_X6_rules_145 rfl ?_
              have X := ih (v + 1) (some (.int (nI c))) (some (.int (tw (el j) (2 * v + 1)))) (by omega)
              rw [qq1, qq2] at X
              exact X
            · rw [hrp, hrq]
              have w9 : 2 ^ qN t ≤ 2 ^ 9 := Nat.pow_le_pow_right (by decide) (by omega)
              have := lsF_len (bst t m (qN t) (2 ^ qN t))
              have qq1 : ruF (ruP (bst t m (qN t) (2 ^ qN t)) (el j)) (v + 1) = 0 := ruF_0 hrp
              have qq2 : ruF (ruP (qGreedy t) (el j)) (v + 1) = 0 := ruF_f (ruP_f (f := qGreedy t) (x := qE (qGreedy t c)) (by omega) ec rfl (by omega))
              refine E_iload at_X6_rules_77 rfl ?_
              refine E_iload_n at_X6_rules_79 rfl ?_
              refine E_ic (t := 148) (b := false) at_X6_rules_80 rfl ((cn_ge (nI_toInt (by omega)) (nI_toInt (by omega))).trans (decide_eq_false (by omega))) ?_
              refine E_aload_n at_X6_rules_83 rfl ?_
              refine E_iload_n at_X6_rules_84 rfl ?_
              refine E_iconst (x := nI 2) at_X6_rules_85 (by decide) ?_
              refine E_iload at_X6_rules_86 rfl ?_
              refine E_imul (z := nI (2 * v)) at_X6_rules_88 (pk_mul _ _) ?_
              refine E_callV (v := some (.int (nI c))) (As := [.ref 65, .int (nI j), .int (nI (2 * v))]) (r0 := []) (cs2 := (ww im lf s d k ls rf rz ra rn rq lt m1 m2 m3 m4 bd fc hd sz el t g fm hm so si sh ce ca td wa kp la (lsF (bst t m (qN t) (2 ^ qN t))) oo bo pw ow tr)) at_X6_rules_89 rfl rfl (Nat.le_of_ble_eq_true rfl) rfl (ab_rvOf w65 rfl) (Ev.vi ec (m_intAt (q := 2 * v) hj (by omega) l_ce hce)) (by decide) rfl ?_
              refine E_istore (L2 := [some (.ref 65), some (.int (nI j)), some (.int (nI n)), some (.int (nI 0)), some (.int (nI 2)), some (.int (nI v)), some (.int (nI c)), x7]) at_X6_rules_92 rfl ?_
              refine E_aload_n at_X6_rules_94 rfl ?_
              refine E_iload_n at_X6_rules_95 rfl ?_
              refine E_iconst (x := nI 2) at_X6_rules_96 (by decide) ?_
              refine E_iload at_X6_rules_97 rfl ?_
              refine E_imul (z := nI (2 * v)) at_X6_rules_99 (pk_mul _ _) ?_
              refine E_iconst (x := nI 1) at_X6_rules_100 (by decide) ?_
              refine E_iadd (z := nI ((2 * v) + 1)) at_X6_rules_101 (nI_add _ _) ?_
              refine E_callV (v := some (.int (tw (el j) (2 * v + 1)))) (As := [.ref 65, .int (nI j), .int (nI ((2 * v) + 1))]) (r0 := []) (cs2 := (ww im lf s d k ls rf rz ra rn rq lt m1 m2 m3 m4 bd fc hd sz el t g fm hm so si sh ce ca td wa kp la (lsF (bst t m (qN t) (2 ^ qN t))) oo bo pw ow tr)) at_X6_rules_102 rfl rfl (Nat.le_of_ble_eq_true rfl) rfl (ab_rvOf w65 rfl) (m_intAt (q := (2 * v) + 1) hj (by omega) l_ce hce) (by decide) rfl ?_
              refine E_istore (L2 := [some (.ref 65), some (.int (nI j)), some (.int (nI n)), some (.int (nI 0)), some (.int (nI 2)), some (.int (nI v)), some (.int (nI c)), some (.int (tw (el j) (2 * v + 1)))]) at_X6_rules_105 rfl ?_
              refine E_aload_n at_X6_rules_107 rfl ?_
              refine E_getfield (v := .ref 89) at_X6_rules_108 w65 rfl (by decide) rfl ?_
              refine E_iload at_X6_rules_111 rfl ?_
              refine E_ialI (l := (lsF (bst t m (qN t) (2 ^ qN t)))) (v := qE (bst t m (qN t) (2 ^ qN t) c)) at_X6_rules_113 w89 (by omega) (by omega) (lsF_get (by omega)) ?_
              refine E_iload at_X6_rules_114 rfl ?_
              refine E_ic (t := 125) (b := true) at_X6_rules_116 rfl ((cn_eq rfl rfl).trans (decide_eq_true (by omega))) ?_
              refine E_aload_n at_X6_rules_125 rfl ?_
              refine E_iload at_X6_rules_126 rfl ?_
              refine E_callV (v := some (.int (qE (qGreedy t c)))) (As := [.ref 65, .int (nI c)]) (r0 := []) (cs2 := (ww im lf s d k ls rf rz ra rn rq lt m1 m2 m3 m4 bd fc hd sz el t g fm hm so si sh ce ca td wa kp la (lsF (bst t m (qN t) (2 ^ qN t))) oo bo pw ow tr)) at_X6_rules_128 rfl rfl (Nat.le_of_ble_eq_true rfl) rfl (ab_rvOf w65 rfl) (mo_greedyFor w_m I (by omega)) (by decide) rfl ?_
              refine E_iload at_X6_rules_131 rfl ?_
              refine E_ic (t := 142) (b := false) at_X6_rules_133 rfl ((cn_eq rfl rfl).trans (decide_eq_false (by omega))) ?_
              refine E_iload at_X6_rules_136 rfl ?_
              refine E_iconst (x := nI 1) at_X6_rules_138 (by decide) ?_
              refine E_iand (z := nI 0) at_X6_rules_139 (by decide) ?_
              refine E_istore (L2 := [some (.ref 65), some (.int (nI j)), some (.int (nI n)), some (.int (nI 0)), some (.int (nI 0)), some (.int (nI v)), some (.int (nI c)), some (.int (tw (el j) (2 * v + 1)))]) at_X6_rules_140 rfl ?_
              refine E_iinc (y := nI (v + 1)) (L2 := [some (.ref 65), some (.int (nI j)), some (.int (nI n)), some (.int (nI 0)), some (.int (nI 0)), some (.int (nI (v + 1))), some (.int (nI c)), some (.int (tw (el j) (2 * v + 1)))]) at_X6_rules_142 rfl (nI_1 _) rfl ?_
              refine E_goto (t := 77) at_X6_rules_145 rfl ?_
              have X := ih (v + 1) (some (.int (nI c))) (some (.int (tw (el j) (2 * v + 1)))) (by omega)
              rw [qq1, qq2] at X
              exact X
          · by_cases f4 : ((qE (qGreedy t c)).toInt) = ((tw (el j) (2 * v + 1)).toInt)
            · rw [hrp, hrq]
              have w9 : 2 ^ qN t ≤ 2 ^ 9 := Nat.pow_le_pow_right (by decide) (by omega)
              have := lsF_len (bst t m (qN t) (2 ^ qN t))
              have qq1 : ruF (ruP (bst t m (qN t) (2 ^ qN t)) (el j)) (v + 1) = 0 := ruF_0 hrp
              have qq2 : ruF (ruP (qGreedy t) (el j)) (v + 1) = 1 := (ruF_t (ruP_t (f := qGreedy t) (x := qE (qGreedy t c)) (by omega) ec rfl (by omega))).trans hrq
              refine E_iload at_X6_rules_77 rfl ?_
              refine E_iload_n at_X6_rules_79 rfl ?_
              refine E_ic (t := 148) (b := false) at_X6_rules_80 rfl ((cn_ge (nI_toInt (by omega)) (nI_toInt (by omega))).trans (decide_eq_false (by omega))) ?_
              refine E_aload_n at_X6_rules_83 rfl ?_
              refine E_iload_n at_X6_rules_84 rfl ?_
              refine E_iconst (x := nI 2) at_X6_rules_85 (by decide) ?_
              refine E_iload at_X6_rules_86 rfl ?_
              refine E_imul (z := nI (2 * v)) at_X6_rules_88 (pk_mul _ _) ?_
              refine E_callV (v := some (.int (nI c))) (As := [.ref 65, .int (nI j), .int (nI (2 * v))]) (r0 := []) (cs2 := (ww im lf s d k ls rf rz ra rn rq lt m1 m2 m3 m4 bd fc hd sz el t g fm hm so si sh ce ca td wa kp la (lsF (bst t m (qN t) (2 ^ qN t))) oo bo pw ow tr)) at_X6_rules_89 rfl rfl (Nat.le_of_ble_eq_true rfl) rfl (ab_rvOf w65 rfl) (Ev.vi ec (m_intAt (q := 2 * v) hj (by omega) l_ce hce)) (by decide) rfl ?_
              refine E_istore (L2 := [some (.ref 65), some (.int (nI j)), some (.int (nI n)), some (.int (nI 0)), some (.int (nI 2)), some (.int (nI v)), some (.int (nI c)), x7]) at_X6_rules_92 rfl ?_
              refine E_aload_n at_X6_rules_94 rfl ?_
              refine E_iload_n at_X6_rules_95 rfl ?_
              refine E_iconst (x := nI 2) at_X6_rules_96 (by decide) ?_
              refine E_iload at_X6_rules_97 rfl ?_
              refine E_imul (z := nI (2 * v)) at_X6_rules_99 (pk_mul _ _) ?_
              refine E_iconst (x := nI 1) at_X6_rules_100 (by decide) ?_
              refine E_iadd (z := nI ((2 * v) + 1)) at_X6_rules_101 (nI_add _ _) ?_
              refine E_callV (v := some (.int (tw (el j) (2 * v + 1)))) (As := [.ref 65, .int (nI j), .int (nI ((2 * v) + 1))]) (r0 := []) (cs2 := (ww im lf s d k ls rf rz ra rn rq lt m1 m2 m3 m4 bd fc hd sz el t g fm hm so si sh ce ca td wa kp la (lsF (bst t m (qN t) (2 ^ qN t))) oo bo pw ow tr)) at_X6_rules_102 rfl rfl (Nat.le_of_ble_eq_true rfl) rfl (ab_rvOf w65 rfl) (m_intAt (q := (2 * v) + 1) hj (by omega) l_ce hce) (by decide) rfl ?_
              refine E_istore (L2 := [some (.ref 65), some (.int (nI j)), some (.int (nI n)), some (.int (nI 0)), some (.int (nI 2)), some (.int (nI v)), some (.int (nI c)), some (.int (tw (el j) (2 * v + 1)))]) at_X6_rules_105 rfl ?_
              refine E_aload_n at_X6_rules_107 rfl ?_
              refine E_getfield (v := .ref 89) at_X6_rules_108 w65 rfl (by decide) rfl ?_
              refine E_iload at_X6_rules_111 rfl ?_
              refine E_ialI (l := (lsF (bst t m (qN t) (2 ^ qN t)))) (v := qE (bst t m (qN t) (2 ^ qN t) c)) at_X6_rules_113 w89 (by omega) (by omega) (lsF_get (by omega)) ?_
              refine E_iload at_X6_rules_114 rfl ?_
              refine E_ic (t := 125) (b := false) at_X6_rules_116 rfl ((cn_eq rfl rfl).trans (decide_eq_false (by omega))) ?_
              refine E_iload at_X6_rules_119 rfl ?_
              refine E_iconst (x := nI 2) at_X6_rules_121 (by decide) ?_
              refine E_iand (z := nI 2) at_X6_rules_122 (by decide) ?_
              refine E_istore (L2 := [some (.ref 65), some (.int (nI j)), some (.int (nI n)), some (.int (nI 0)), some (.int (nI 2)), some (.int (nI v)), some (.int (nI c)), some (.int (tw (el j) (2 * v + 1)))]) at_X6_rules_123 rfl ?_
              refine E_aload_n at_X6_rules_125 rfl ?_
              refine E_iload at_X6_rules_126 rfl ?_
              refine E_callV (v := some (.int (qE (qGreedy t c)))) (As := [.ref 65, .int (nI c)]) (r0 := []) (cs2 := (ww im lf s d k ls rf rz ra rn rq lt m1 m2 m3 m4 bd fc hd sz el t g fm hm so si sh ce ca td wa kp la (lsF (bst t m (qN t) (2 ^ qN t))) oo bo pw ow tr)) at_X6_rules_128 rfl rfl (Nat.le_of_ble_eq_true rfl) rfl (ab_rvOf w65 rfl) (mo_greedyFor w_m I (by omega)) (by decide) rfl ?_
              refine E_iload at_X6_rules_131 rfl ?_
              refine E_ic (t := 142) (b := true) at_X6_rules_133 rfl ((cn_eq rfl rfl).trans (decide_eq_true (by omega))) ?_
              refine E_iinc (y := nI (v + 1)) (L2 := [some (.ref 65), some (.int (nI j)), some (.int (nI n)), some (.int (nI 0)), some (.int (nI 2)), some (.int (nI (v + 1))), some (.int (nI c)), some (.int (tw (el j) (2 * v + 1)))]) at_X6_rules_142 rfl (nI_1 _) rfl ?_
              refine E_goto (t := 77) at_X6_rules_145 rfl ?_
              have X := ih (v + 1) (some (.int (nI c))) (some (.int (tw (el j) (2 * v + 1)))) (by omega)
              rw [qq1, qq2] at X
              exact X
            · rw [hrp, hrq]
              have w9 : 2 ^ qN t ≤ 2 ^ 9 := Nat.pow_le_pow_right (by decide) (by omega)
              have := lsF_len (bst t m (qN t) (2 ^ qN t))
              have qq1 : ruF (ruP (bst t m (qN t) (2 ^ qN t)) (el j)) (v + 1) = 0 := ruF_0 hrp
              have qq2 : ruF (ruP (qGreedy t) (el j)) (v + 1) = 0 := ruF_f (ruP_f (f := qGreedy t) (x := qE (qGreedy t c)) (by omega) ec rfl (by omega))
              refine E_iload at_X6_rules_77 rfl ?_
              refine E_iload_n at_X6_rules_79 rfl ?_
              refine E_ic (t := 148) (b := false) at_X6_rules_80 rfl ((cn_ge (nI_toInt (by omega)) (nI_toInt (by omega))).trans (decide_eq_false (by omega))) ?_
              refine E_aload_n at_X6_rules_83 rfl ?_
              refine E_iload_n at_X6_rules_84 rfl ?_
              refine E_iconst (x := nI 2) at_X6_rules_85 (by decide) ?_
              refine E_iload at_X6_rules_86 rfl ?_
              refine E_imul (z := nI (2 * v)) at_X6_rules_88 (pk_mul _ _) ?_
              refine E_callV (v := some (.int (nI c))) (As := [.ref 65, .int (nI j), .int (nI (2 * v))]) (r0 := []) (cs2 := (ww im lf s d k ls rf rz ra rn rq lt m1 m2 m3 m4 bd fc hd sz el t g fm hm so si sh ce ca td wa kp la (lsF (bst t m (qN t) (2 ^ qN t))) oo bo pw ow tr)) at_X6_rules_89 rfl rfl (Nat.le_of_ble_eq_true rfl) rfl (ab_rvOf w65 rfl) (Ev.vi ec (m_intAt (q := 2 * v) hj (by omega) l_ce hce)) (by decide) rfl ?_
              refine E_istore (L2 := [some (.ref 65), some (.int (nI j)), some (.int (nI n)), some (.int (nI 0)), some (.int (nI 2)), some (.int (nI v)), some (.int (nI c)), x7]) at_X6_rules_92 rfl ?_
              refine E_aload_n at_X6_rules_94 rfl ?_
              refine E_iload_n at_X6_rules_95 rfl ?_
              refine E_iconst (x := nI 2) at_X6_rules_96 (by decide) ?_
              refine E_iload at_X6_rules_97 rfl ?_
              refine E_imul (z := nI (2 * v)) at_X6_rules_99 (pk_mul _ _) ?_
              refine E_iconst (x := nI 1) at_X6_rules_100 (by decide) ?_
              refine E_iadd (z := nI ((2 * v) + 1)) at_X6_rules_101 (nI_add _ _) ?_
              refine E_callV (v := some (.int (tw (el j) (2 * v + 1)))) (As := [.ref 65, .int (nI j), .int (nI ((2 * v) + 1))]) (r0 := []) (cs2 := (ww im lf s d k ls rf rz ra rn rq lt m1 m2 m3 m4 bd fc hd sz el t g fm hm so si sh ce ca td wa kp la (lsF (bst t m (qN t) (2 ^ qN t))) oo bo pw ow tr)) at_X6_rules_102 rfl rfl (Nat.le_of_ble_eq_true rfl) rfl (ab_rvOf w65 rfl) (m_intAt (q := (2 * v) + 1) hj (by omega) l_ce hce) (by decide) rfl ?_
              refine E_istore (L2 := [some (.ref 65), some (.int (nI j)), some (.int (nI n)), some (.int (nI 0)), some (.int (nI 2)), some (.int (nI v)), some (.int (nI c)), some (.int (tw (el j) (2 * v + 1)))]) at_X6_rules_105 rfl ?_
              refine E_aload_n at_X6_rules_107 rfl ?_
              refine E_getfield (v := .ref 89) at_X6_rules_108 w65 rfl (by decide) rfl ?_
              refine E_iload at_X6_rules_111 rfl ?_
              refine E_ialI (l := (lsF (bst t m (qN t) (2 ^ qN t)))) (v := qE (bst t m (qN t) (2 ^ qN t) c)) at_X6_rules_113 w89 (by omega) (by omega) (lsF_get (by omega)) ?_
              refine E_iload at_X6_rules_114 rfl ?_
              refine E_ic (t := 125) (b := false) at_X6_rules_116 rfl ((cn_eq rfl rfl).trans (decide_eq_false (by omega))) ?_
              refine E_iload at_X6_rules_119 rfl ?_
              refine E_iconst (x := nI 2) at_X6_rules_121 (by decide) ?_
              refine E_iand (z := nI 2) at_X6_rules_122 (by decide) ?_
              refine E_istore (L2 := [some (.ref 65), some (.int (nI j)), some (.int (nI n)), some (.int (nI 0)), some (.int (nI 2)), some (.int (nI v)), some (.int (nI c)), some (.int (tw (el j) (2 * v + 1)))]) at_X6_rules_123 rfl ?_
              refine E_aload_n at_X6_rules_125 rfl ?_
              refine E_iload at_X6_rules_126 rfl ?_
              refine E_callV (v := some (.int (qE (qGreedy t c)))) (As := [.ref 65, .int (nI c)]) (r0 := []) (cs2 := (ww im lf s d k ls rf rz ra rn rq lt m1 m2 m3 m4 bd fc hd sz el t g fm hm so si sh ce ca td wa kp la (lsF (bst t m (qN t) (2 ^ qN t))) oo bo pw ow tr)) at_X6_rules_128 rfl rfl (Nat.le_of_ble_eq_true rfl) rfl (ab_rvOf w65 rfl) (mo_greedyFor w_m I (by omega)) (by decide) rfl ?_
              refine E_iload at_X6_rules_131 rfl ?_
              refine E_ic (t := 142) (b := false) at_X6_rules_133 rfl ((cn_eq rfl rfl).trans (decide_eq_false (by omega))) ?_
              refine E_iload at_X6_rules_136 rfl ?_
              refine E_iconst (x := nI 1) at_X6_rules_138 (by decide) ?_
              refine E_iand (z := nI 0) at_X6_rules_139 (by decide) ?_
              refine E_istore (L2 := [some (.ref 65), some (.int (nI j)), some (.int (nI n)), some (.int (nI 0)), some (.int (nI 0)), some (.int (nI v)), some (.int (nI c)), some (.int (tw (el j) (2 * v + 1)))]) at_X6_rules_140 rfl ?_
              refine E_iinc (y := nI (v + 1)) (L2 := [some (.ref 65), some (.int (nI j)), some (.int (nI n)), some (.int (nI 0)), some (.int (nI 0)), some (.int (nI (v + 1))), some (.int (nI c)), some (.int (tw (el j) (2 * v + 1)))]) at_X6_rules_142 rfl (nI_1 _) rfl ?_
              refine E_goto (t := 77) at_X6_rules_145 rfl ?_
              have X := ih (v + 1) (some (.int (nI c))) (some (.int (tw (el j) (2 * v + 1)))) (by omega)
              rw [qq1, qq2] at X
              exact X
        · by_cases f3 : ((qE (bst t m (qN t) (2 ^ qN t) c)).toInt) = ((tw (el j) (2 * v + 1)).toInt)
          · by_cases f4 : ((qE (qGreedy t c)).toInt) = ((tw (el j) (2 * v + 1)).toInt)
            · rw [hrp, hrq]
              have w9 : 2 ^ qN t ≤ 2 ^ 9 := Nat.pow_le_pow_right (by decide) (by omega)
              have := lsF_len (bst t m (qN t) (2 ^ qN t))
              have qq1 : ruF (ruP (bst t m (qN t) (2 ^ qN t)) (el j)) (v + 1) = 0 := ruF_0 hrp
              have qq2 : ruF (ruP (qGreedy t) (el j)) (v + 1) = 1 := (ruF_t (ruP_t (f := qGreedy t) (x := qE (qGreedy t c)) (by omega) ec rfl (by omega))).trans hrq
              refine E_iload at_X6_rules_77 rfl ?_
              refine E_iload_n at_X6_rules_79 rfl ?_
              refine E_ic (t := 148) (b := false) at_X6_rules_80 rfl ((cn_ge (nI_toInt (by omega)) (nI_toInt (by omega))).trans (decide_eq_false (by omega))) ?_
              refine E_aload_n at_X6_rules_83 rfl ?_
              refine E_iload_n at_X6_rules_84 rfl ?_
              refine E_iconst (x := nI 2) at_X6_rules_85 (by decide) ?_
              refine E_iload at_X6_rules_86 rfl ?_
              refine E_imul (z := nI (2 * v)) at_X6_rules_88 (pk_mul _ _) ?_
              refine E_callV (v := some (.int (nI c))) (As := [.ref 65, .int (nI j), .int (nI (2 * v))]) (r0 := []) (cs2 := (ww im lf s d k ls rf rz ra rn rq lt m1 m2 m3 m4 bd fc hd sz el t g fm hm so si sh ce ca td wa kp la (lsF (bst t m (qN t) (2 ^ qN t))) oo bo pw ow tr)) at_X6_rules_89 rfl rfl (Nat.le_of_ble_eq_true rfl) rfl (ab_rvOf w65 rfl) (Ev.vi ec (m_intAt (q := 2 * v) hj (by omega) l_ce hce)) (by decide) rfl ?_
              refine E_istore (L2 := [some (.ref 65), some (.int (nI j)), some (.int (nI n)), some (.int (nI 0)), some (.int (nI 2)), some (.int (nI v)), some (.int (nI c)), x7]) at_X6_rules_92 rfl ?_
              refine E_aload_n at_X6_rules_94 rfl ?_
              refine E_iload_n at_X6_rules_95 rfl ?_
              refine E_iconst (x := nI 2) at_X6_rules_96 (by decide) ?_
              refine E_iload at_X6_rules_97 rfl ?_
              refine E_imul (z := nI (2 * v)) at_X6_rules_99 (pk_mul _ _) ?_
              refine E_iconst (x := nI 1) at_X6_rules_100 (by decide) ?_
              refine E_iadd (z := nI ((2 * v) + 1)) at_X6_rules_101 (nI_add _ _) ?_
              refine E_callV (v := some (.int (tw (el j) (2 * v + 1)))) (As := [.ref 65, .int (nI j), .int (nI ((2 * v) + 1))]) (r0 := []) (cs2 := (ww im lf s d k ls rf rz ra rn rq lt m1 m2 m3 m4 bd fc hd sz el t g fm hm so si sh ce ca td wa kp la (lsF (bst t m (qN t) (2 ^ qN t))) oo bo pw ow tr)) at_X6_rules_102 rfl rfl (Nat.le_of_ble_eq_true rfl) rfl (ab_rvOf w65 rfl) (m_intAt (q := (2 * v) + 1) hj (by omega) l_ce hce) (by decide) rfl ?_
              refine E_istore (L2 := [some (.ref 65), some (.int (nI j)), some (.int (nI n)), some (.int (nI 0)), some (.int (nI 2)), some (.int (nI v)), some (.int (nI c)), some (.int (tw (el j) (2 * v + 1)))]) at_X6_rules_105 rfl ?_
              refine E_aload_n at_X6_rules_107 rfl ?_
              refine E_getfield (v := .ref 89) at_X6_rules_108 w65 rfl (by decide) rfl ?_
              refine E_iload at_X6_rules_111 rfl ?_
              refine E_ialI (l := (lsF (bst t m (qN t) (2 ^ qN t)))) (v := qE (bst t m (qN t) (2 ^ qN t) c)) at_X6_rules_113 w89 (by omega) (by omega) (lsF_get (by omega)) ?_
              refine E_iload at_X6_rules_114 rfl ?_
              refine E_ic (t := 125) (b := true) at_X6_rules_116 rfl ((cn_eq rfl rfl).trans (decide_eq_true (by omega))) ?_
              refine E_aload_n at_X6_rules_125 rfl ?_
              refine E_iload at_X6_rules_126 rfl ?_
              refine E_callV (v := some (.int (qE (qGreedy t c)))) (As := [.ref 65, .int (nI c)]) (r0 := []) (cs2 := (ww im lf s d k ls rf rz ra rn rq lt m1 m2 m3 m4 bd fc hd sz el t g fm hm so si sh ce ca td wa kp la (lsF (bst t m (qN t) (2 ^ qN t))) oo bo pw ow tr)) at_X6_rules_128 rfl rfl (Nat.le_of_ble_eq_true rfl) rfl (ab_rvOf w65 rfl) (mo_greedyFor w_m I (by omega)) (by decide) rfl ?_
              refine E_iload at_X6_rules_131 rfl ?_
              refine E_ic (t := 142) (b := true) at_X6_rules_133 rfl ((cn_eq rfl rfl).trans (decide_eq_true (by omega))) ?_
              refine E_iinc (y := nI (v + 1)) (L2 := [some (.ref 65), some (.int (nI j)), some (.int (nI n)), some (.int (nI 0)), some (.int (nI 2)), some (.int (nI (v + 1))), some (.int (nI c)), some (.int (tw (el j) (2 * v + 1)))]) at_X6_rules_142 rfl (nI_1 _) rfl ?_
              refine E_goto (t := 77) at_X6_rules_145 rfl ?_
              have X := ih (v + 1) (some (.int (nI c))) (some (.int (tw (el j) (2 * v + 1)))) (by omega)
              rw [qq1, qq2] at X
              exact X
            · rw [hrp, hrq]
              have w9 : 2 ^ qN t ≤ 2 ^ 9 := Nat.pow_le_pow_right (by decide) (by omega)
              have := lsF_len (bst t m (qN t) (2 ^ qN t))
              have qq1 : ruF (ruP (bst t m (qN t) (2 ^ qN t)) (el j)) (v + 1) = 0 := ruF_0 hrp
              have qq2 : ruF (ruP (qGreedy t) (el j)) (v + 1) = 0 := ruF_f (ruP_f (f := qGreedy t) (x := qE (qGreedy t c)) (by omega) ec rfl (by omega))
              refine E_iload at_X6_rules_77 rfl ?_
              refine E_iload_n at_X6_rules_79 rfl ?_
              refine E_ic (t := 148) (b := false) at_X6_rules_80 rfl ((cn_ge (nI_toInt (by omega)) (nI_toInt (by omega))).trans (decide_eq_false (by omega))) ?_
              refine E_aload_n at_X6_rules_83 rfl ?_
              refine E_iload_n at_X6_rules_84 rfl ?_
              refine E_iconst (x := nI 2) at_X6_rules_85 (by decide) ?_
              refine E_iload at_X6_rules_86 rfl ?_
              refine E_imul (z := nI (2 * v)) at_X6_rules_88 (pk_mul _ _) ?_
              refine E_callV (v := some (.int (nI c))) (As := [.ref 65, .int (nI j), .int (nI (2 * v))]) (r0 := []) (cs2 := (ww im lf s d k ls rf rz ra rn rq lt m1 m2 m3 m4 bd fc hd sz el t g fm hm so si sh ce ca td wa kp la (lsF (bst t m (qN t) (2 ^ qN t))) oo bo pw ow tr)) at_X6_rules_89 rfl rfl (Nat.le_of_ble_eq_true rfl) rfl (ab_rvOf w65 rfl) (Ev.vi ec (m_intAt (q := 2 * v) hj (by omega) l_ce hce)) (by decide) rfl ?_
              refine E_istore (L2 := [some (.ref 65), some (.int (nI j)), some (.int (nI n)), some (.int (nI 0)), some (.int (nI 2)), some (.int (nI v)), some (.int (nI c)), x7]) at_X6_rules_92 rfl ?_
              refine E_aload_n at_X6_rules_94 rfl ?_
              refine E_iload_n at_X6_rules_95 rfl ?_
              refine E_iconst (x := nI 2) at_X6_rules_96 (by decide) ?_
              refine E_iload at_X6_rules_97 rfl ?_
              refine E_imul (z := nI (2 * v)) at_X6_rules_99 (pk_mul _ _) ?_
              refine E_iconst (x := nI 1) at_X6_rules_100 (by decide) ?_
              refine E_iadd (z := nI ((2 * v) + 1)) at_X6_rules_101 (nI_add _ _) ?_
              refine E_callV (v := some (.int (tw (el j) (2 * v + 1)))) (As := [.ref 65, .int (nI j), .int (nI ((2 * v) + 1))]) (r0 := []) (cs2 := (ww im lf s d k ls rf rz ra rn rq lt m1 m2 m3 m4 bd fc hd sz el t g fm hm so si sh ce ca td wa kp la (lsF (bst t m (qN t) (2 ^ qN t))) oo bo pw ow tr)) at_X6_rules_102 rfl rfl (Nat.le_of_ble_eq_true rfl) rfl (ab_rvOf w65 rfl) (m_intAt (q := (2 * v) + 1) hj (by omega) l_ce hce) (by decide) rfl ?_
              refine E_istore (L2 := [some (.ref 65), some (.int (nI j)), some (.int (nI n)), some (.int (nI 0)), some (.int (nI 2)), some (.int (nI v)), some (.int (nI c)), some (.int (tw (el j) (2 * v + 1)))]) at_X6_rules_105 rfl ?_
              refine E_aload_n at_X6_rules_107 rfl ?_
              refine E_getfield (v := .ref 89) at_X6_rules_108 w65 rfl (by decide) rfl ?_
              refine E_iload at_X6_rules_111 rfl ?_
              refine E_ialI (l := (lsF (bst t m (qN t) (2 ^ qN t)))) (v := qE (bst t m (qN t) (2 ^ qN t) c)) at_X6_rules_113 w89 (by omega) (by omega) (lsF_get (by omega)) ?_
              refine E_iload at_X6_rules_114 rfl ?_
              refine E_ic (t := 125) (b := true) at_X6_rules_116 rfl ((cn_eq rfl rfl).trans (decide_eq_true (by omega))) ?_
              refine E_aload_n at_X6_rules_125 rfl ?_
              refine E_iload at_X6_rules_126 rfl ?_
              refine E_callV (v := some (.int (qE (qGreedy t c)))) (As := [.ref 65, .int (nI c)]) (r0 := []) (cs2 := (ww im lf s d k ls rf rz ra rn rq lt m1 m2 m3 m4 bd fc hd sz el t g fm hm so si sh ce ca td wa kp la (lsF (bst t m (qN t) (2 ^ qN t))) oo bo pw ow tr)) at_X6_rules_128 rfl rfl (Nat.le_of_ble_eq_true rfl) rfl (ab_rvOf w65 rfl) (mo_greedyFor w_m I (by omega)) (by decide) rfl ?_
              refine E_iload at_X6_rules_131 rfl ?_
              refine E_ic (t := 142) (b := false) at_X6_rules_133 rfl ((cn_eq rfl rfl).trans (decide_eq_false (by omega))) ?_
              refine E_iload at_X6_rules_136 rfl ?_
              refine E_iconst (x := nI 1) at_X6_rules_138 (by decide) ?_
              refine E_iand (z := nI 0) at_X6_rules_139 (by decide) ?_
              refine E_istore (L2 := [some (.ref 65), some (.int (nI j)), some (.int (nI n)), some (.int (nI 0)), some (.int (nI 0)), some (.int (nI v)), some (.int (nI c)), some (.int (tw (el j) (2 * v + 1)))]) at_X6_rules_140 rfl ?_
              refine E_iinc (y := nI (v + 1)) (L2 := [some (.ref 65), some (.int (nI j)), some (.int (nI n)), some (.int (nI 0)), some (.int (nI 0)), some (.int (nI (v + 1))), some (.int (nI c)), some (.int (tw (el j) (2 * v + 1)))]) at_X6_rules_142 rfl (nI_1 _) rfl ?_
              refine E_goto (t := 77) at_X6_rules_145 rfl ?_
              have X := ih (v + 1) (some (.int (nI c))) (some (.int (tw (el j) (2 * v + 1)))) (by omega)
              rw [qq1, qq2] at X
              exact X
          · by_cases f4 : ((qE (qGreedy t c)).toInt) = ((tw (el j) (2 * v + 1)).toInt)
            · rw [hrp, hrq]
              have w9 : 2 ^ qN t ≤ 2 ^ 9 := Nat.pow_le_pow_right (by decide) (by omega)
              have := lsF_len (bst t m (qN t) (2 ^ qN t))
              have qq1 : ruF (ruP (bst t m (qN t) (2 ^ qN t)) (el j)) (v + 1) = 0 := ruF_0 hrp
              have qq2 : ruF (ruP (qGreedy t) (el j)) (v + 1) = 1 := (ruF_t (ruP_t (f := qGreedy t) (x := qE (qGreedy t c)) (by omega) ec rfl (by omega))).trans hrq
              refine E_iload at_X6_rules_77 rfl ?_
              refine E_iload_n at_X6_rules_79 rfl ?_
              refine E_ic (t := 148) (b := false) at_X6_rules_80 rfl ((cn_ge (nI_toInt (by omega)) (nI_toInt (by omega))).trans (decide_eq_false (by omega))) ?_
              refine E_aload_n at_X6_rules_83 rfl ?_
              refine E_iload_n at_X6_rules_84 rfl ?_
              refine E_iconst (x := nI 2) at_X6_rules_85 (by decide) ?_
              refine E_iload at_X6_rules_86 rfl ?_
              refine E_imul (z := nI (2 * v)) at_X6_rules_88 (pk_mul _ _) ?_
              refine E_callV (v := some (.int (nI c))) (As := [.ref 65, .int (nI j), .int (nI (2 * v))]) (r0 := []) (cs2 := (ww im lf s d k ls rf rz ra rn rq lt m1 m2 m3 m4 bd fc hd sz el t g fm hm so si sh ce ca td wa kp la (lsF (bst t m (qN t) (2 ^ qN t))) oo bo pw ow tr)) at_X6_rules_89 rfl rfl (Nat.le_of_ble_eq_true rfl) rfl (ab_rvOf w65 rfl) (Ev.vi ec (m_intAt (q := 2 * v) hj (by omega) l_ce hce)) (by decide) rfl ?_
              refine E_istore (L2 := [some (.ref 65), some (.int (nI j)), some (.int (nI n)), some (.int (nI 0)), some (.int (nI 2)), some (.int (nI v)), some (.int (nI c)), x7]) at_X6_rules_92 rfl ?_
              refine E_aload_n at_X6_rules_94 rfl ?_
              refine E_iload_n at_X6_rules_95 rfl ?_
              refine E_iconst (x := nI 2) at_X6_rules_96 (by decide) ?_
              refine E_iload at_X6_rules_97 rfl ?_
              refine E_imul (z := nI (2 * v)) at_X6_rules_99 (pk_mul _ _) ?_
              refine E_iconst (x := nI 1) at_X6_rules_100 (by decide) ?_
              refine E_iadd (z := nI ((2 * v) + 1)) at_X6_rules_101 (nI_add _ _) ?_
              refine E_callV (v := some (.int (tw (el j) (2 * v + 1)))) (As := [.ref 65, .int (nI j), .int (nI ((2 * v) + 1))]) (r0 := []) (cs2 := (ww im lf s d k ls rf rz ra rn rq lt m1 m2 m3 m4 bd fc hd sz el t g fm hm so si sh ce ca td wa kp la (lsF (bst t m (qN t) (2 ^ qN t))) oo bo pw ow tr)) at_X6_rules_102 rfl rfl (Nat.le_of_ble_eq_true rfl) rfl (ab_rvOf w65 rfl) (m_intAt (q := (2 * v) + 1) hj (by omega) l_ce hce) (by decide) rfl ?_
              refine E_istore (L2 := [some (.ref 65), some (.int (nI j)), some (.int (nI n)), some (.int (nI 0)), some (.int (nI 2)), some (.int (nI v)), some (.int (nI c)), some (.int (tw (el j) (2 * v + 1)))]) at_X6_rules_105 rfl ?_
              refine E_aload_n at_X6_rules_107 rfl ?_
              refine E_getfield (v := .ref 89) at_X6_rules_108 w65 rfl (by decide) rfl ?_
              refine E_iload at_X6_rules_111 rfl ?_
              refine E_ialI (l := (lsF (bst t m (qN t) (2 ^ qN t)))) (v := qE (bst t m (qN t) (2 ^ qN t) c)) at_X6_rules_113 w89 (by omega) (by omega) (lsF_get (by omega)) ?_
              refine E_iload at_X6_rules_114 rfl ?_
              refine E_ic (t := 125) (b := false) at_X6_rules_116 rfl ((cn_eq rfl rfl).trans (decide_eq_false (by omega))) ?_
              refine E_iload at_X6_rules_119 rfl ?_
              refine E_iconst (x := nI 2) at_X6_rules_121 (by decide) ?_
              refine E_iand (z := nI 2) at_X6_rules_122 (by decide) ?_
              refine E_istore (L2 := [some (.ref 65), some (.int (nI j)), some (.int (nI n)), some (.int (nI 0)), some (.int (nI 2)), some (.int (nI v)), some (.int (nI c)), some (.int (tw (el j) (2 * v + 1)))]) at_X6_rules_123 rfl ?_
              refine E_aload_n at_X6_rules_125 rfl ?_
              refine E_iload at_X6_rules_126 rfl ?_
              refine E_callV (v := some (.int (qE (qGreedy t c)))) (As := [.ref 65, .int (nI c)]) (r0 := []) (cs2 := (ww im lf s d k ls rf rz ra rn rq lt m1 m2 m3 m4 bd fc hd sz el t g fm hm so si sh ce ca td wa kp la (lsF (bst t m (qN t) (2 ^ qN t))) oo bo pw ow tr)) at_X6_rules_128 rfl rfl (Nat.le_of_ble_eq_true rfl) rfl (ab_rvOf w65 rfl) (mo_greedyFor w_m I (by omega)) (by decide) rfl ?_
              refine E_iload at_X6_rules_131 rfl ?_
              refine E_ic (t := 142) (b := true) at_X6_rules_133 rfl ((cn_eq rfl rfl).trans (decide_eq_true (by omega))) ?_
              refine E_iinc (y := nI (v + 1)) (L2 := [some (.ref 65), some (.int (nI j)), some (.int (nI n)), some (.int (nI 0)), some (.int (nI 2)), some (.int (nI (v + 1))), some (.int (nI c)), some (.int (tw (el j) (2 * v + 1)))]) at_X6_rules_142 rfl (nI_1 _) rfl ?_
              refine E_goto (t := 77) at_X6_rules_145 rfl ?_
              have X := ih (v + 1) (some (.int (nI c))) (some (.int (tw (el j) (2 * v + 1)))) (by omega)
              rw [qq1, qq2] at X
              exact X
            · rw [hrp, hrq]
              have w9 : 2 ^ qN t ≤ 2 ^ 9 := Nat.pow_le_pow_right (by decide) (by omega)
              have := lsF_len (bst t m (qN t) (2 ^ qN t))
              have qq1 : ruF (ruP (bst t m (qN t) (2 ^ qN t)) (el j)) (v + 1) = 0 := ruF_0 hrp
              have qq2 : ruF (ruP (qGreedy t) (el j)) (v + 1) = 0 := ruF_f (ruP_f (f := qGreedy t) (x := qE (qGreedy t c)) (by omega) ec rfl (by omega))
              refine E_iload at_X6_rules_77 rfl ?_
              refine E_iload_n at_X6_rules_79 rfl ?_
              refine E_ic (t := 148) (b := false) at_X6_rules_80 rfl ((cn_ge (nI_toInt (by omega)) (nI_toInt (by omega))).trans (decide_eq_false (by omega))) ?_
              refine E_aload_n at_X6_rules_83 rfl ?_
              refine E_iload_n at_X6_rules_84 rfl ?_
              refine E_iconst (x := nI 2) at_X6_rules_85 (by decide) ?_
              refine E_iload at_X6_rules_86 rfl ?_
              refine E_imul (z := nI (2 * v)) at_X6_rules_88 (pk_mul _ _) ?_
              refine E_callV (v := some (.int (nI c))) (As := [.ref 65, .int (nI j), .int (nI (2 * v))]) (r0 := []) (cs2 := (ww im lf s d k ls rf rz ra rn rq lt m1 m2 m3 m4 bd fc hd sz el t g fm hm so si sh ce ca td wa kp la (lsF (bst t m (qN t) (2 ^ qN t))) oo bo pw ow tr)) at_X6_rules_89 rfl rfl (Nat.le_of_ble_eq_true rfl) rfl (ab_rvOf w65 rfl) (Ev.vi ec (m_intAt (q := 2 * v) hj (by omega) l_ce hce)) (by decide) rfl ?_
              refine E_istore (L2 := [some (.ref 65), some (.int (nI j)), some (.int (nI n)), some (.int (nI 0)), some (.int (nI 2)), some (.int (nI v)), some (.int (nI c)), x7]) at_X6_rules_92 rfl ?_
              refine E_aload_n at_X6_rules_94 rfl ?_
              refine E_iload_n at_X6_rules_95 rfl ?_
              refine E_iconst (x := nI 2) at_X6_rules_96 (by decide) ?_
              refine E_iload at_X6_rules_97 rfl ?_
              refine E_imul (z := nI (2 * v)) at_X6_rules_99 (pk_mul _ _) ?_
              refine E_iconst (x := nI 1) at_X6_rules_100 (by decide) ?_
              refine E_iadd (z := nI ((2 * v) + 1)) at_X6_rules_101 (nI_add _ _) ?_
              refine E_callV (v := some (.int (tw (el j) (2 * v + 1)))) (As := [.ref 65, .int (nI j), .int (nI ((2 * v) + 1))]) (r0 := []) (cs2 := (ww im lf s d k ls rf rz ra rn rq lt m1 m2 m3 m4 bd fc hd sz el t g fm hm so si sh ce ca td wa kp la (lsF (bst t m (qN t) (2 ^ qN t))) oo bo pw ow tr)) at_X6_rules_102 rfl rfl (Nat.le_of_ble_eq_true rfl) rfl (ab_rvOf w65 rfl) (m_intAt (q := (2 * v) + 1) hj (by omega) l_ce hce) (by decide) rfl ?_
              refine E_istore (L2 := [some (.ref 65), some (.int (nI j)), some (.int (nI n)), some (.int (nI 0)), some (.int (nI 2)), some (.int (nI v)), some (.int (nI c)), some (.int (tw (el j) (2 * v + 1)))]) at_X6_rules_105 rfl ?_
              refine E_aload_n at_X6_rules_107 rfl ?_
              refine E_getfield (v := .ref 89) at_X6_rules_108 w65 rfl (by decide) rfl ?_
              refine E_iload at_X6_rules_111 rfl ?_
              refine E_ialI (l := (lsF (bst t m (qN t) (2 ^ qN t)))) (v := qE (bst t m (qN t) (2 ^ qN t) c)) at_X6_rules_113 w89 (by omega) (by omega) (lsF_get (by omega)) ?_
              refine E_iload at_X6_rules_114 rfl ?_
              refine E_ic (t := 125) (b := false) at_X6_rules_116 rfl ((cn_eq rfl rfl).trans (decide_eq_false (by omega))) ?_
              refine E_iload at_X6_rules_119 rfl ?_
              refine E_iconst (x := nI 2) at_X6_rules_121 (by decide) ?_
              refine E_iand (z := nI 2) at_X6_rules_122 (by decide) ?_
              refine E_istore (L2 := [some (.ref 65), some (.int (nI j)), some (.int (nI n)), some (.int (nI 0)), some (.int (nI 2)), some (.int (nI v)), some (.int (nI c)), some (.int (tw (el j) (2 * v + 1)))]) at_X6_rules_123 rfl ?_
              refine E_aload_n at_X6_rules_125 rfl ?_
              refine E_iload at_X6_rules_126 rfl ?_
              refine E_callV (v := some (.int (qE (qGreedy t c)))) (As := [.ref 65, .int (nI c)]) (r0 := []) (cs2 := (ww im lf s d k ls rf rz ra rn rq lt m1 m2 m3 m4 bd fc hd sz el t g fm hm so si sh ce ca td wa kp la (lsF (bst t m (qN t) (2 ^ qN t))) oo bo pw ow tr)) at_X6_rules_128 rfl rfl (Nat.le_of_ble_eq_true rfl) rfl (ab_rvOf w65 rfl) (mo_greedyFor w_m I (by omega)) (by decide) rfl ?_
              refine E_iload at_X6_rules_131 rfl ?_
              refine E_ic (t := 142) (b := false) at_X6_rules_133 rfl ((cn_eq rfl rfl).trans (decide_eq_false (by omega))) ?_
              refine E_iload at_X6_rules_136 rfl ?_
              refine E_iconst (x := nI 1) at_X6_rules_138 (by decide) ?_
              refine E_iand (z := nI 0) at_X6_rules_139 (by decide) ?_
              refine E_istore (L2 := [some (.ref 65), some (.int (nI j)), some (.int (nI n)), some (.int (nI 0)), some (.int (nI 0)), some (.int (nI v)), some (.int (nI c)), some (.int (tw (el j) (2 * v + 1)))]) at_X6_rules_140 rfl ?_
              refine E_iinc (y := nI (v + 1)) (L2 := [some (.ref 65), some (.int (nI j)), some (.int (nI n)), some (.int (nI 0)), some (.int (nI 0)), some (.int (nI (v + 1))), some (.int (nI c)), some (.int (tw (el j) (2 * v + 1)))]) at_X6_rules_142 rfl (nI_1 _) rfl ?_
              refine E_goto (t := 77) at_X6_rules_145 rfl ?_
              have X := ih (v + 1) (some (.int (nI c))) (some (.int (tw (el j) (2 * v + 1)))) (by omega)
              rw [qq1, qq2] at X
              exact X
    · rcases ruF_01 (ruP (qGreedy t) (el j)) v with hrq | hrq
      · rcases wgh_bst t m (qN t) c with ⟨eb0, fb0⟩ | ⟨B0, hB0, hs0, hw0, hb0, hk0⟩
        · by_cases f3 : ((qE (bst t m (qN t) (2 ^ qN t) c)).toInt) = ((tw (el j) (2 * v + 1)).toInt)
          · by_cases f4 : ((qE (qGreedy t c)).toInt) = ((tw (el j) (2 * v + 1)).toInt)
            · rw [hrp, hrq]
              have w9 : 2 ^ qN t ≤ 2 ^ 9 := Nat.pow_le_pow_right (by decide) (by omega)
              have := lsF_len (bst t m (qN t) (2 ^ qN t))
              have qq1 : ruF (ruP (bst t m (qN t) (2 ^ qN t)) (el j)) (v + 1) = 1 := (ruF_t (ruP_t (f := bst t m (qN t) (2 ^ qN t)) (x := qE (bst t m (qN t) (2 ^ qN t) c)) (by omega) ec rfl (by omega))).trans hrp
              have qq2 : ruF (ruP (qGreedy t) (el j)) (v + 1) = 0 := ruF_0 hrq
              refine E_iload at_X6_rules_77 rfl ?_
              refine E_iload_n at_X6_rules_79 rfl ?_
              refine E_ic (t := 148) (b := false) at_X6_rules_80 rfl ((cn_ge (nI_toInt (by omega)) (nI_toInt (by omega))).trans (decide_eq_false (by omega))) ?_
              refine E_aload_n at_X6_rules_83 rfl ?_
              refine E_iload_n at_X6_rules_84 rfl ?_
              refine E_iconst (x := nI 2) at_X6_rules_85 (by decide) ?_
              refine E_iload at_X6_rules_86 rfl ?_
              refine E_imul (z := nI (2 * v)) at_X6_rules_88 (pk_mul _ _) ?_
              refine E_callV (v := some (.int (nI c))) (As := [.ref 65, .int (nI j), .int (nI (2 * v))]) (r0 := []) (cs2 := (ww im lf s d k ls rf rz ra rn rq lt m1 m2 m3 m4 bd fc hd sz el t g fm hm so si sh ce ca td wa kp la (lsF (bst t m (qN t) (2 ^ qN t))) oo bo pw ow tr)) at_X6_rules_89 rfl rfl (Nat.le_of_ble_eq_true rfl) rfl (ab_rvOf w65 rfl) (Ev.vi ec (m_intAt (q := 2 * v) hj (by omega) l_ce hce)) (by decide) rfl ?_
              refine E_istore (L2 := [some (.ref 65), some (.int (nI j)), some (.int (nI n)), some (.int (nI 0)), some (.int (nI 1)), some (.int (nI v)), some (.int (nI c)), x7]) at_X6_rules_92 rfl ?_
              refine E_aload_n at_X6_rules_94 rfl ?_
              refine E_iload_n at_X6_rules_95 rfl ?_
              refine E_iconst (x := nI 2) at_X6_rules_96 (by decide) ?_
              refine E_iload at_X6_rules_97 rfl ?_
              refine E_imul (z := nI (2 * v)) at_X6_rules_99 (pk_mul _ _) ?_
              refine E_iconst (x := nI 1) at_X6_rules_100 (by decide) ?_
              refine E_iadd (z := nI ((2 * v) + 1)) at_X6_rules_101 (nI_add _ _) ?_
              refine E_callV (v := some (.int (tw (el j) (2 * v + 1)))) (As := [.ref 65, .int (nI j), .int (nI ((2 * v) + 1))]) (r0 := []) (cs2 := (ww im lf s d k ls rf rz ra rn rq lt m1 m2 m3 m4 bd fc hd sz el t g fm hm so si sh ce ca td wa kp la (lsF (bst t m (qN t) (2 ^ qN t))) oo bo pw ow tr)) at_X6_rules_102 rfl rfl (Nat.le_of_ble_eq_true rfl) rfl (ab_rvOf w65 rfl) (m_intAt (q := (2 * v) + 1) hj (by omega) l_ce hce) (by decide) rfl ?_
              refine E_istore (L2 := [some (.ref 65), some (.int (nI j)), some (.int (nI n)), some (.int (nI 0)), some (.int (nI 1)), some (.int (nI v)), some (.int (nI c)), some (.int (tw (el j) (2 * v + 1)))]) at_X6_rules_105 rfl ?_
              refine E_aload_n at_X6_rules_107 rfl ?_
              refine E_getfield (v := .ref 89) at_X6_rules_108 w65 rfl (by decide) rfl ?_
              refine E_iload at_X6_rules_111 rfl ?_
              refine E_ialI (l := (lsF (bst t m (qN t) (2 ^ qN t)))) (v := qE (bst t m (qN t) (2 ^ qN t) c)) at_X6_rules_113 w89 (by omega) (by omega) (lsF_get (by omega)) ?_
              refine E_iload at_X6_rules_114 rfl ?_
              refine E_ic (t := 125) (b := true) at_X6_rules_116 rfl ((cn_eq rfl rfl).trans (decide_eq_true (by omega))) ?_
              refine E_aload_n at_X6_rules_125 rfl ?_
              refine E_iload at_X6_rules_126 rfl ?_
              refine E_callV (v := some (.int (qE (qGreedy t c)))) (As := [.ref 65, .int (nI c)]) (r0 := []) (cs2 := (ww im lf s d k ls rf rz ra rn rq lt m1 m2 m3 m4 bd fc hd sz el t g fm hm so si sh ce ca td wa kp la (lsF (bst t m (qN t) (2 ^ qN t))) oo bo pw ow tr)) at_X6_rules_128 rfl rfl (Nat.le_of_ble_eq_true rfl) rfl (ab_rvOf w65 rfl) (mo_greedyFor w_m I (by omega)) (by decide) rfl ?_
              refine E_iload at_X6_rules_131 rfl ?_
              refine E_ic (t := 142) (b := true) at_X6_rules_133 rfl ((cn_eq rfl rfl).trans (decide_eq_true (by omega))) ?_
              refine E_iinc (y := nI (v + 1)) (L2 := [some (.ref 65), some (.int (nI j)), some (.int (nI n)), some (.int (nI 0)), some (.int (nI 1)), some (.int (nI (v + 1))), some (.int (nI c)), some (.int (tw (el j) (2 * v + 1)))]) at_X6_rules_142 rfl (nI_1 _) rfl ?_
              refine E_goto (t := 77) at_X6_rules_145 rfl ?_
              have X := ih (v + 1) (some (.int (nI c))) (some (.int (tw (el j) (2 * v + 1)))) (by omega)
              rw [qq1, qq2] at X
              exact X
            · rw [hrp, hrq]
              have w9 : 2 ^ qN t ≤ 2 ^ 9 := Nat.pow_le_pow_right (by decide) (by omega)
              have := lsF_len (bst t m (qN t) (2 ^ qN t))
              have qq1 : ruF (ruP (bst t m (qN t) (2 ^ qN t)) (el j)) (v + 1) = 1 := (ruF_t (ruP_t (f := bst t m (qN t) (2 ^ qN t)) (x := qE (bst t m (qN t) (2 ^ qN t) c)) (by omega) ec rfl (by omega))).trans hrp
              have qq2 : ruF (ruP (qGreedy t) (el j)) (v + 1) = 0 := ruF_0 hrq
              refine E_iload at_X6_rules_77 rfl ?_
              refine E_iload_n at_X6_rules_79 rfl ?_
              refine E_ic (t := 148) (b := false) at_X6_rules_80 rfl ((cn_ge (nI_toInt (by omega)) (nI_toInt (by omega))).trans (decide_eq_false (by omega))) ?_
              refine E_aload_n at_X6_rules_83 rfl ?_
              refine E_iload_n at_X6_rules_84 rfl ?_
              refine E_iconst (x := nI 2) at_X6_rules_85 (by decide) ?_
              refine E_iload at_X6_rules_86 rfl ?_
              refine E_imul (z := nI (2 * v)) at_X6_rules_88 (pk_mul _ _) ?_
              refine E_callV (v := some (.int (nI c))) (As := [.ref 65, .int (nI j), .int (nI (2 * v))]) (r0 := []) (cs2 := (ww im lf s d k ls rf rz ra rn rq lt m1 m2 m3 m4 bd fc hd sz el t g fm hm so si sh ce ca td wa kp la (lsF (bst t m (qN t) (2 ^ qN t))) oo bo pw ow tr)) at_X6_rules_89 rfl rfl (Nat.le_of_ble_eq_true rfl) rfl (ab_rvOf w65 rfl) (Ev.vi ec (m_intAt (q := 2 * v) hj (by omega) l_ce hce)) (by decide) rfl ?_
              refine E_istore (L2 := [some (.ref 65), some (.int (nI j)), some (.int (nI n)), some (.int (nI 0)), some (.int (nI 1)), some (.int (nI v)), some (.int (nI c)), x7]) at_X6_rules_92 rfl ?_
              refine E_aload_n at_X6_rules_94 rfl ?_
              refine E_iload_n at_X6_rules_95 rfl ?_
              refine E_iconst (x := nI 2) at_X6_rules_96 (by decide) ?_
              refine E_iload at_X6_rules_97 rfl ?_
              refine E_imul (z := nI (2 * v)) at_X6_rules_99 (pk_mul _ _) ?_
              refine E_iconst (x := nI 1) at_X6_rules_100 (by decide) ?_
              refine E_iadd (z := nI ((2 * v) + 1)) at_X6_rules_101 (nI_add _ _) ?_
              refine E_callV (v := some (.int (tw (el j) (2 * v + 1)))) (As := [.ref 65, .int (nI j), .int (nI ((2 * v) + 1))]) (r0 := []) (cs2 := (ww im lf s d k ls rf rz ra rn rq lt m1 m2 m3 m4 bd fc hd sz el t g fm hm so si sh ce ca td wa kp la (lsF (bst t m (qN t) (2 ^ qN t))) oo bo pw ow tr)) at_X6_rules_102 rfl rfl (Nat.le_of_ble_eq_true rfl) rfl (ab_rvOf w65 rfl) (m_intAt (q := (2 * v) + 1) hj (by omega) l_ce hce) (by decide) rfl ?_
              refine E_istore (L2 := [some (.ref 65), some (.int (nI j)), some (.int (nI n)), some (.int (nI 0)), some (.int (nI 1)), some (.int (nI v)), some (.int (nI c)), some (.int (tw (el j) (2 * v + 1)))]) at_X6_rules_105 rfl ?_
              refine E_aload_n at_X6_rules_107 rfl ?_
              refine E_getfield (v := .ref 89) at_X6_rules_108 w65 rfl (by decide) rfl ?_
              refine E_iload at_X6_rules_111 rfl ?_
              refine E_ialI (l := (lsF (bst t m (qN t) (2 ^ qN t)))) (v := qE (bst t m (qN t) (2 ^ qN t) c)) at_X6_rules_113 w89 (by omega) (by omega) (lsF_get (by omega)) ?_
              refine E_iload at_X6_rules_114 rfl ?_
              refine E_ic (t := 125) (b := true) at_X6_rules_116 rfl ((cn_eq rfl rfl).trans (decide_eq_true (by omega))) ?_
              refine E_aload_n at_X6_rules_125 rfl ?_
              refine E_iload at_X6_rules_126 rfl ?_
              refine E_callV (v := some (.int (qE (qGreedy t c)))) (As := [.ref 65, .int (nI c)]) (r0 := []) (cs2 := (ww im lf s d k ls rf rz ra rn rq lt m1 m2 m3 m4 bd fc hd sz el t g fm hm so si sh ce ca td wa kp la (lsF (bst t m (qN t) (2 ^ qN t))) oo bo pw ow tr)) at_X6_rules_128 rfl rfl (Nat.le_of_ble_eq_true rfl) rfl (ab_rvOf w65 rfl) (mo_greedyFor w_m I (by omega)) (by decide) rfl ?_
              refine E_iload at_X6_rules_131 rfl ?_
              refine E_ic (t := 142) (b := false) at_X6_rules_133 rfl ((cn_eq rfl rfl).trans (decide_eq_false (by omega))) ?_
              refine E_iload at_X6_rules_136 rfl ?_
              refine E_iconst (x := nI 1) at_X6_rules_138 (by decide) ?_
              refine E_iand (z := nI 1) at_X6_rules_139 (by decide) ?_
              refine E_istore (L2 := [some (.ref 65), some (.int (nI j)), some (.int (nI n)), some (.int (nI 0)), some (.int (nI 1)), some (.int (nI v)), some (.int (nI c)), some (.int (tw (el j) (2 * v + 1)))]) at_X6_rules_140 rfl ?_
              refine E_iinc (y := nI (v + 1)) (L2 := [some (.ref 65), some (.int (nI j)), some (.int (nI n)), some (.int (nI 0)), some (.int (nI 1)), some (.int (nI (v + 1))), some (.int (nI c)), some (.int (tw (el j) (2 * v + 1)))]) at_X6_rules_142 rfl (nI_1 _) rfl ?_
              refine E_goto (t := 77) at_X6_rules_145 rfl ?_
              have X := ih (v + 1) (some (.int (nI c))) (some (.int (tw (el j) (2 * v + 1)))) (by omega)
              rw [qq1, qq2] at X
              exact X
          · by_cases f4 : ((qE (qGreedy t c)).toInt) = ((tw (el j) (2 * v + 1)).toInt)
            · rw [hrp, hrq]
              have w9 : 2 ^ qN t ≤ 2 ^ 9 := Nat.pow_le_pow_right (by decide) (by omega)
              have := lsF_len (bst t m (qN t) (2 ^ qN t))
              have qq1 : ruF (ruP (bst t m (qN t) (2 ^ qN t)) (el j)) (v + 1) = 0 := ruF_f (ruP_f (f := bst t m (qN t) (2 ^ qN t)) (x := qE (bst t m (qN t) (2 ^ qN t) c)) (by omega) ec rfl (by omega))
              have qq2 : ruF (ruP (qGreedy t) (el j)) (v + 1) = 0 := ruF_0 hrq
              refine E_iload at_X6_rules_77 rfl ?_
              refine E_iload_n at_X6_rules_79 rfl ?_
              refine E_ic (t := 148) (b := false) at_X6_rules_80 rfl ((cn_ge (nI_toInt (by omega)) (nI_toInt (by omega))).trans (decide_eq_false (by omega))) ?_
              refine E_aload_n at_X6_rules_83 rfl ?_
              refine E_iload_n at_X6_rules_84 rfl ?_
              refine E_iconst (x := nI 2) at_X6_rules_85 (by decide) ?_
              refine E_iload at_X6_rules_86 rfl ?_
              refine E_imul (z := nI (2 * v)) at_X6_rules_88 (pk_mul _ _) ?_
              refine E_callV (v := some (.int (nI c))) (As := [.ref 65, .int (nI j), .int (nI (2 * v))]) (r0 := []) (cs2 := (ww im lf s d k ls rf rz ra rn rq lt m1 m2 m3 m4 bd fc hd sz el t g fm hm so si sh ce ca td wa kp la (lsF (bst t m (qN t) (2 ^ qN t))) oo bo pw ow tr)) at_X6_rules_89 rfl rfl (Nat.le_of_ble_eq_true rfl) rfl (ab_rvOf w65 rfl) (Ev.vi ec (m_intAt (q := 2 * v) hj (by omega) l_ce hce)) (by decide) rfl ?_
              refine E_istore (L2 := [some (.ref 65), some (.int (nI j)), some (.int (nI n)), some (.int (nI 0)), some (.int (nI 1)), some (.int (nI v)), some (.int (nI c)), x7]) at_X6_rules_92 rfl ?_
              refine E_aload_n at_X6_rules_94 rfl ?_
              refine E_iload_n at_X6_rules_95 rfl ?_
              refine E_iconst (x := nI 2) at_X6_rules_96 (by decide) ?_
              refine E_iload at_X6_rules_97 rfl ?_
              refine E_imul (z := nI (2 * v)) at_X6_rules_99 (pk_mul _ _) ?_
              refine E_iconst (x := nI 1) at_X6_rules_100 (by decide) ?_
              refine E_iadd (z := nI ((2 * v) + 1)) at_X6_rules_101 (nI_add _ _) ?_
              refine E_callV (v := some (.int (tw (el j) (2 * v + 1)))) (As := [.ref 65, .int (nI j), .int (nI ((2 * v) + 1))]) (r0 := []) (cs2 := (ww im lf s d k ls rf rz ra rn rq lt m1 m2 m3 m4 bd fc hd sz el t g fm hm so si sh ce ca td wa kp la (lsF (bst t m (qN t) (2 ^ qN t))) oo bo pw ow tr)) at_X6_rules_102 rfl rfl (Nat.le_of_ble_eq_true rfl) rfl (ab_rvOf w65 rfl) (m_intAt (q := (2 * v) + 1) hj (by omega) l_ce hce) (by decide) rfl ?_
              refine E_istore (L2 := [some (.ref 65), some (.int (nI j)), some (.int (nI n)), some (.int (nI 0)), some (.int (nI 1)), some (.int (nI v)), some (.int (nI c)), some (.int (tw (el j) (2 * v + 1)))]) at_X6_rules_105 rfl ?_
              refine E_aload_n at_X6_rules_107 rfl ?_
              refine E_getfield (v := .ref 89) at_X6_rules_108 w65 rfl (by decide) rfl ?_
              refine E_iload at_X6_rules_111 rfl ?_
              refine E_ialI (l := (lsF (bst t m (qN t) (2 ^ qN t)))) (v := qE (bst t m (qN t) (2 ^ qN t) c)) at_X6_rules_113 w89 (by omega) (by omega) (lsF_get (by omega)) ?_
              refine E_iload at_X6_rules_114 rfl ?_
              refine E_ic (t := 125) (b := false) at_X6_rules_116 rfl ((cn_eq rfl rfl).trans (decide_eq_false (by omega))) ?_
              refine E_iload at_X6_rules_119 rfl ?_
              refine E_iconst (x := nI 2) at_X6_rules_121 (by decide) ?_
              refine E_iand (z := nI 0) at_X6_rules_122 (by decide) ?_
              refine E_istore (L2 := [some (.ref 65), some (.int (nI j)), some (.int (nI n)), some (.int (nI 0)), some (.int (nI 0)), some (.int (nI v)), some (.int (nI c)), some (.int (tw (el j) (2 * v + 1)))]) at_X6_rules_123 rfl ?_
              refine E_aload_n at_X6_rules_125 rfl ?_
              refine E_iload at_X6_rules_126 rfl ?_
              refine E_callV (v := some (.int (qE (qGreedy t c)))) (As := [.ref 65, .int (nI c)]) (r0 := []) (cs2 := (ww im lf s d k ls rf rz ra rn rq lt m1 m2 m3 m4 bd fc hd sz el t g fm hm so si sh ce ca td wa kp la (lsF (bst t m (qN t) (2 ^ qN t))) oo bo pw ow tr)) at_X6_rules_128 rfl rfl (Nat.le_of_ble_eq_true rfl) rfl (ab_rvOf w65 rfl) (mo_greedyFor w_m I (by omega)) (by decide) rfl ?_
              refine E_iload at_X6_rules_131 rfl ?_
              refine E_ic (t := 142) (b := true) at_X6_rules_133 rfl ((cn_eq rfl rfl).trans (decide_eq_true (by omega))) ?_
              refine E_iinc (y := nI (v + 1)) (L2 := [some (.ref 65), some (.int (nI j)), some (.int (nI n)), some (.int (nI 0)), some (.int (nI 0)), some (.int (nI (v + 1))), some (.int (nI c)), some (.int (tw (el j) (2 * v + 1)))]) at_X6_rules_142 rfl (nI_1 _) rfl ?_
              refine E_goto (t := 77) at_X6_rules_145 rfl ?_
              have X := ih (v + 1) (some (.int (nI c))) (some (.int (tw (el j) (2 * v + 1)))) (by omega)
              rw [qq1, qq2] at X
              exact X
            · rw [hrp, hrq]
              have w9 : 2 ^ qN t ≤ 2 ^ 9 := Nat.pow_le_pow_right (by decide) (by omega)
              have := lsF_len (bst t m (qN t) (2 ^ qN t))
              have qq1 : ruF (ruP (bst t m (qN t) (2 ^ qN t)) (el j)) (v + 1) = 0 := ruF_f (ruP_f (f := bst t m (qN t) (2 ^ qN t)) (x := qE (bst t m (qN t) (2 ^ qN t) c)) (by omega) ec rfl (by omega))
              have qq2 : ruF (ruP (qGreedy t) (el j)) (v + 1) = 0 := ruF_0 hrq
              refine E_iload at_X6_rules_77 rfl ?_
              refine E_iload_n at_X6_rules_79 rfl ?_
              refine E_ic (t := 148) (b := false) at_X6_rules_80 rfl ((cn_ge (nI_toInt (by omega)) (nI_toInt (by omega))).trans (decide_eq_false (by omega))) ?_
              refine E_aload_n at_X6_rules_83 rfl ?_
              refine E_iload_n at_X6_rules_84 rfl ?_
              refine E_iconst (x := nI 2) at_X6_rules_85 (by decide) ?_
              refine E_iload at_X6_rules_86 rfl ?_
              refine E_imul (z := nI (2 * v)) at_X6_rules_88 (pk_mul _ _) ?_
              refine E_callV (v := some (.int (nI c))) (As := [.ref 65, .int (nI j), .int (nI (2 * v))]) (r0 := []) (cs2 := (ww im lf s d k ls rf rz ra rn rq lt m1 m2 m3 m4 bd fc hd sz el t g fm hm so si sh ce ca td wa kp la (lsF (bst t m (qN t) (2 ^ qN t))) oo bo pw ow tr)) at_X6_rules_89 rfl rfl (Nat.le_of_ble_eq_true rfl) rfl (ab_rvOf w65 rfl) (Ev.vi ec (m_intAt (q := 2 * v) hj (by omega) l_ce hce)) (by decide) rfl ?_
              refine E_istore (L2 := [some (.ref 65), some (.int (nI j)), some (.int (nI n)), some (.int (nI 0)), some (.int (nI 1)), some (.int (nI v)), some (.int (nI c)), x7]) at_X6_rules_92 rfl ?_
              refine E_aload_n at_X6_rules_94 rfl ?_
              refine E_iload_n at_X6_rules_95 rfl ?_
              refine E_iconst (x := nI 2) at_X6_rules_96 (by decide) ?_
              refine E_iload at_X6_rules_97 rfl ?_
              refine E_imul (z := nI (2 * v)) at_X6_rules_99 (pk_mul _ _) ?_
              refine E_iconst (x := nI 1) at_X6_rules_100 (by decide) ?_
              refine E_iadd (z := nI ((2 * v) + 1)) at_X6_rules_101 (nI_add _ _) ?_
              refine E_callV (v := some (.int (tw (el j) (2 * v + 1)))) (As := [.ref 65, .int (nI j), .int (nI ((2 * v) + 1))]) (r0 := []) (cs2 := (ww im lf s d k ls rf rz ra rn rq lt m1 m2 m3 m4 bd fc hd sz el t g fm hm so si sh ce ca td wa kp la (lsF (bst t m (qN t) (2 ^ qN t))) oo bo pw ow tr)) at_X6_rules_102 rfl rfl (Nat.le_of_ble_eq_true rfl) rfl (ab_rvOf w65 rfl) (m_intAt (q := (2 * v) + 1) hj (by omega) l_ce hce) (by decide) rfl ?_
              refine E_istore (L2 := [some (.ref 65), some (.int (nI j)), some (.int (nI n)), some (.int (nI 0)), some (.int (nI 1)), some (.int (nI v)), some (.int (nI c)), some (.int (tw (el j) (2 * v + 1)))]) at_X6_rules_105 rfl ?_
              refine E_aload_n at_X6_rules_107 rfl ?_
              refine E_getfield (v := .ref 89) at_X6_rules_108 w65 rfl (by decide) rfl ?_
              refine E_iload at_X6_rules_111 rfl ?_
              refine E_ialI (l := (lsF (bst t m (qN t) (2 ^ qN t)))) (v := qE (bst t m (qN t) (2 ^ qN t) c)) at_X6_rules_113 w89 (by omega) (by omega) (lsF_get (by omega)) ?_
              refine E_iload at_X6_rules_114 rfl ?_
              refine E_ic (t := 125) (b := false) at_X6_rules_116 rfl ((cn_eq rfl rfl).trans (decide_eq_false (by omega))) ?_
              refine E_iload at_X6_rules_119 rfl ?_
              refine E_iconst (x := nI 2) at_X6_rules_121 (by decide) ?_
              refine E_iand (z := nI 0) at_X6_rules_122 (by decide) ?_
              refine E_istore (L2 := [some (.ref 65), some (.int (nI j)), some (.int (nI n)), some (.int (nI 0)), some (.int (nI 0)), some (.int (nI v)), some (.int (nI c)), some (.int (tw (el j) (2 * v + 1)))]) at_X6_rules_123 rfl ?_
              refine E_aload_n at_X6_rules_125 rfl ?_
              refine E_iload at_X6_rules_126 rfl ?_
              refine E_callV (v := some (.int (qE (qGreedy t c)))) (As := [.ref 65, .int (nI c)]) (r0 := []) (cs2 := (ww im lf s d k ls rf rz ra rn rq lt m1 m2 m3 m4 bd fc hd sz el t g fm hm so si sh ce ca td wa kp la (lsF (bst t m (qN t) (2 ^ qN t))) oo bo pw ow tr)) at_X6_rules_128 rfl rfl (Nat.le_of_ble_eq_true rfl) rfl (ab_rvOf w65 rfl) (mo_greedyFor w_m I (by omega)) (by decide) rfl ?_
              refine E_iload at_X6_rules_131 rfl ?_
              refine E_ic (t := 142) (b := false) at_X6_rules_133 rfl ((cn_eq rfl rfl).trans (decide_eq_false (by omega))) ?_
              refine E_iload at_X6_rules_136 rfl ?_
              refine E_iconst (x := nI 1) at_X6_rules_138 (by decide) ?_
              refine E_iand (z := nI 0) at_X6_rules_139 (by decide) ?_
              refine E_istore (L2 := [some (.ref 65), some (.int (nI j)), some (.int (nI n)), some (.int (nI 0)), some (.int (nI 0)), some (.int (nI v)), some (.int (nI c)), some (.int (tw (el j) (2 * v + 1)))]) at_X6_rules_140 rfl ?_
              refine E_iinc (y := nI (v + 1)) (L2 := [some (.ref 65), some (.int (nI j)), some (.int (nI n)), some (.int (nI 0)), some (.int (nI 0)), some (.int (nI (v + 1))), some (.int (nI c)), some (.int (tw (el j) (2 * v + 1)))]) at_X6_rules_142 rfl (nI_1 _) rfl ?_
              refine E_goto (t := 77) at_X6_rules_145 rfl ?_
              have X := ih (v + 1) (some (.int (nI c))) (some (.int (tw (el j) (2 * v + 1)))) (by omega)
              rw [qq1, qq2] at X
              exact X
        · by_cases f3 : ((qE (bst t m (qN t) (2 ^ qN t) c)).toInt) = ((tw (el j) (2 * v + 1)).toInt)
          · by_cases f4 : ((qE (qGreedy t c)).toInt) = ((tw (el j) (2 * v + 1)).toInt)
            · rw [hrp, hrq]
              have w9 : 2 ^ qN t ≤ 2 ^ 9 := Nat.pow_le_pow_right (by decide) (by omega)
              have := lsF_len (bst t m (qN t) (2 ^ qN t))
              have qq1 : ruF (ruP (bst t m (qN t) (2 ^ qN t)) (el j)) (v + 1) = 1 := (ruF_t (ruP_t (f := bst t m (qN t) (2 ^ qN t)) (x := qE (bst t m (qN t) (2 ^ qN t) c)) (by omega) ec rfl (by omega))).trans hrp
              have qq2 : ruF (ruP (qGreedy t) (el j)) (v + 1) = 0 := ruF_0 hrq
              refine E_iload at_X6_rules_77 rfl ?_
              refine E_iload_n at_X6_rules_79 rfl ?_
              refine E_ic (t := 148) (b := false) at_X6_rules_80 rfl ((cn_ge (nI_toInt (by omega)) (nI_toInt (by omega))).trans (decide_eq_false (by omega))) ?_
              refine E_aload_n at_X6_rules_83 rfl ?_
              refine E_iload_n at_X6_rules_84 rfl ?_
              refine E_iconst (x := nI 2) at_X6_rules_85 (by decide) ?_
              refine E_iload at_X6_rules_86 rfl ?_
              refine E_imul (z := nI (2 * v)) at_X6_rules_88 (pk_mul _ _) ?_
              refine E_callV (v := some (.int (nI c))) (As := [.ref 65, .int (nI j), .int (nI (2 * v))]) (r0 := []) (cs2 := (ww im lf s d k ls rf rz ra rn rq lt m1 m2 m3 m4 bd fc hd sz el t g fm hm so si sh ce ca td wa kp la (lsF (bst t m (qN t) (2 ^ qN t))) oo bo pw ow tr)) at_X6_rules_89 rfl rfl (Nat.le_of_ble_eq_true rfl) rfl (ab_rvOf w65 rfl) (Ev.vi ec (m_intAt (q := 2 * v) hj (by omega) l_ce hce)) (by decide) rfl ?_
              refine E_istore (L2 := [some (.ref 65), some (.int (nI j)), some (.int (nI n)), some (.int (nI 0)), some (.int (nI 1)), some (.int (nI v)), some (.int (nI c)), x7]) at_X6_rules_92 rfl ?_
              refine E_aload_n at_X6_rules_94 rfl ?_
              refine E_iload_n at_X6_rules_95 rfl ?_
              refine E_iconst (x := nI 2) at_X6_rules_96 (by decide) ?_
              refine E_iload at_X6_rules_97 rfl ?_
              refine E_imul (z := nI (2 * v)) at_X6_rules_99 (pk_mul _ _) ?_
              refine E_iconst (x := nI 1) at_X6_rules_100 (by decide) ?_
              refine E_iadd (z := nI ((2 * v) + 1)) at_X6_rules_101 (nI_add _ _) ?_
              refine E_callV (v := some (.int (tw (el j) (2 * v + 1)))) (As := [.ref 65, .int (nI j), .int (nI ((2 * v) + 1))]) (r0 := []) (cs2 := (ww im lf s d k ls rf rz ra rn rq lt m1 m2 m3 m4 bd fc hd sz el t g fm hm so si sh ce ca td wa kp la (lsF (bst t m (qN t) (2 ^ qN t))) oo bo pw ow tr)) at_X6_rules_102 rfl rfl (Nat.le_of_ble_eq_true rfl) rfl (ab_rvOf w65 rfl) (m_intAt (q := (2 * v) + 1) hj (by omega) l_ce hce) (by decide) rfl ?_
              refine E_istore (L2 := [some (.ref 65), some (.int (nI j)), some (.int (nI n)), some (.int (nI 0)), some (.int (nI 1)), some (.int (nI v)), some (.int (nI c)), some (.int (tw (el j) (2 * v + 1)))]) at_X6_rules_105 rfl ?_
              refine E_aload_n at_X6_rules_107 rfl ?_
              refine E_getfield (v := .ref 89) at_X6_rules_108 w65 rfl (by decide) rfl ?_
              refine E_iload at_X6_rules_111 rfl ?_
              refine E_ialI (l := (lsF (bst t m (qN t) (2 ^ qN t)))) (v := qE (bst t m (qN t) (2 ^ qN t) c)) at_X6_rules_113 w89 (by omega) (by omega) (lsF_get (by omega)) ?_
              refine E_iload at_X6_rules_114 rfl ?_
              refine E_ic (t := 125) (b := true) at_X6_rules_116 rfl ((cn_eq rfl rfl).trans (decide_eq_true (by omega))) ?_
              refine E_aload_n at_X6_rules_125 rfl ?_
              refine E_iload at_X6_rules_126 rfl ?_
              refine E_callV (v := some (.int (qE (qGreedy t c)))) (As := [.ref 65, .int (nI c)]) (r0 := []) (cs2 := (ww im lf s d k ls rf rz ra rn rq lt m1 m2 m3 m4 bd fc hd sz el t g fm hm so si sh ce ca td wa kp la (lsF (bst t m (qN t) (2 ^ qN t))) oo bo pw ow tr)) at_X6_rules_128 rfl rfl (Nat.le_of_ble_eq_true rfl) rfl (ab_rvOf w65 rfl) (mo_greedyFor w_m I (by omega)) (by decide) rfl ?_
              refine E_iload at_X6_rules_131 rfl ?_
              refine E_ic (t := 142) (b := true) at_X6_rules_133 rfl ((cn_eq rfl rfl).trans (decide_eq_true (by omega))) ?_
              refine E_iinc (y := nI (v + 1)) (L2 := [some (.ref 65), some (.int (nI j)), some (.int (nI n)), some (.int (nI 0)), some (.int (nI 1)), some (.int (nI (v + 1))), some (.int (nI c)), some (.int (tw (el j) (2 * v + 1)))]) at_X6_rules_142 rfl (nI_1 _) rfl ?_
              refine E_goto (t := 77) at_X6_rules_145 rfl ?_
              have X := ih (v + 1) (some (.int (nI c))) (some (.int (tw (el j) (2 * v + 1)))) (by omega)
              rw [qq1, qq2] at X
              exact X
            · rw [hrp, hrq]
              have w9 : 2 ^ qN t ≤ 2 ^ 9 := Nat.pow_le_pow_right (by decide) (by omega)
              have := lsF_len (bst t m (qN t) (2 ^ qN t))
              have qq1 : ruF (ruP (bst t m (qN t) (2 ^ qN t)) (el j)) (v + 1) = 1 := (ruF_t (ruP_t (f := bst t m (qN t) (2 ^ qN t)) (x := qE (bst t m (qN t) (2 ^ qN t) c)) (by omega) ec rfl (by omega))).trans hrp
              have qq2 : ruF (ruP (qGreedy t) (el j)) (v + 1) = 0 := ruF_0 hrq
              refine E_iload at_X6_rules_77 rfl ?_
              refine E_iload_n at_X6_rules_79 rfl ?_
              refine E_ic (t := 148) (b := false) at_X6_rules_80 rfl ((cn_ge (nI_toInt (by omega)) (nI_toInt (by omega))).trans (decide_eq_false (by omega))) ?_
              refine E_aload_n at_X6_rules_83 rfl ?_
              refine E_iload_n at_X6_rules_84 rfl ?_
              refine E_iconst (x := nI 2) at_X6_rules_85 (by decide) ?_
              refine E_iload at_X6_rules_86 rfl ?_
              refine E_imul (z := nI (2 * v)) at_X6_rules_88 (pk_mul _ _) ?_
              refine E_callV (v := some (.int (nI c))) (As := [.ref 65, .int (nI j), .int (nI (2 * v))]) (r0 := []) (cs2 := (ww im lf s d k ls rf rz ra rn rq lt m1 m2 m3 m4 bd fc hd sz el t g fm hm so si sh ce ca td wa kp la (lsF (bst t m (qN t) (2 ^ qN t))) oo bo pw ow tr)) at_X6_rules_89 rfl rfl (Nat.le_of_ble_eq_true rfl) rfl (ab_rvOf w65 rfl) (Ev.vi ec (m_intAt (q := 2 * v) hj (by omega) l_ce hce)) (by decide) rfl ?_
              refine E_istore (L2 := [some (.ref 65), some (.int (nI j)), some (.int (nI n)), some (.int (nI 0)), some (.int (nI 1)), some (.int (nI v)), some (.int (nI c)), x7]) at_X6_rules_92 rfl ?_
              refine E_aload_n at_X6_rules_94 rfl ?_
              refine E_iload_n at_X6_rules_95 rfl ?_
              refine E_iconst (x := nI 2) at_X6_rules_96 (by decide) ?_
              refine E_iload at_X6_rules_97 rfl ?_
              refine E_imul (z := nI (2 * v)) at_X6_rules_99 (pk_mul _ _) ?_
              refine E_iconst (x := nI 1) at_X6_rules_100 (by decide) ?_
              refine E_iadd (z := nI ((2 * v) + 1)) at_X6_rules_101 (nI_add _ _) ?_
              refine E_callV (v := some (.int (tw (el j) (2 * v + 1)))) (As := [.ref 65, .int (nI j), .int (nI ((2 * v) + 1))]) (r0 := []) (cs2 := (ww im lf s d k ls rf rz ra rn rq lt m1 m2 m3 m4 bd fc hd sz el t g fm hm so si sh ce ca td wa kp la (lsF (bst t m (qN t) (2 ^ qN t))) oo bo pw ow tr)) at_X6_rules_102 rfl rfl (Nat.le_of_ble_eq_true rfl) rfl (ab_rvOf w65 rfl) (m_intAt (q := (2 * v) + 1) hj (by omega) l_ce hce) (by decide) rfl ?_
              refine E_istore (L2 := [some (.ref 65), some (.int (nI j)), some (.int (nI n)), some (.int (nI 0)), some (.int (nI 1)), some (.int (nI v)), some (.int (nI c)), some (.int (tw (el j) (2 * v + 1)))]) at_X6_rules_105 rfl ?_
              refine E_aload_n at_X6_rules_107 rfl ?_
              refine E_getfield (v := .ref 89) at_X6_rules_108 w65 rfl (by decide) rfl ?_
              refine E_iload at_X6_rules_111 rfl ?_
              refine E_ialI (l := (lsF (bst t m (qN t) (2 ^ qN t)))) (v := qE (bst t m (qN t) (2 ^ qN t) c)) at_X6_rules_113 w89 (by omega) (by omega) (lsF_get (by omega)) ?_
              refine E_iload at_X6_rules_114 rfl ?_
              refine E_ic (t := 125) (b := true) at_X6_rules_116 rfl ((cn_eq rfl rfl).trans (decide_eq_true (by omega))) ?_
              refine E_aload_n at_X6_rules_125 rfl ?_
              refine E_iload at_X6_rules_126 rfl ?_
              refine E_callV (v := some (.int (qE (qGreedy t c)))) (As := [.ref 65, .int (nI c)]) (r0 := []) (cs2 := (ww im lf s d k ls rf rz ra rn rq lt m1 m2 m3 m4 bd fc hd sz el t g fm hm so si sh ce ca td wa kp la (lsF (bst t m (qN t) (2 ^ qN t))) oo bo pw ow tr)) at_X6_rules_128 rfl rfl (Nat.le_of_ble_eq_true rfl) rfl (ab_rvOf w65 rfl) (mo_greedyFor w_m I (by omega)) (by decide) rfl ?_
              refine E_iload at_X6_rules_131 rfl ?_
              refine E_ic (t := 142) (b := false) at_X6_rules_133 rfl ((cn_eq rfl rfl).trans (decide_eq_false (by omega))) ?_
              refine E_iload at_X6_rules_136 rfl ?_
              refine E_iconst (x := nI 1) at_X6_rules_138 (by decide) ?_
              refine E_iand (z := nI 1) at_X6_rules_139 (by decide) ?_
              refine E_istore (L2 := [some (.ref 65), some (.int (nI j)), some (.int (nI n)), some (.int (nI 0)), some (.int (nI 1)), some (.int (nI v)), some (.int (nI c)), some (.int (tw (el j) (2 * v + 1)))]) at_X6_rules_140 rfl ?_
              refine E_iinc (y := nI (v + 1)) (L2 := [some (.ref 65), some (.int (nI j)), some (.int (nI n)), some (.int (nI 0)), some (.int (nI 1)), some (.int (nI (v + 1))), some (.int (nI c)), some (.int (tw (el j) (2 * v + 1)))]) at_X6_rules_142 rfl (nI_1 _) rfl ?_
              refine E_goto (t := 77) at_X6_rules_145 rfl ?_
              have X := ih (v + 1) (some (.int (nI c))) (some (.int (tw (el j) (2 * v + 1)))) (by omega)
              rw [qq1, qq2] at X
              exact X
          · by_cases f4 : ((qE (qGreedy t c)).toInt) = ((tw (el j) (2 * v + 1)).toInt)
            · rw [hrp, hrq]
              have w9 : 2 ^ qN t ≤ 2 ^ 9 := Nat.pow_le_pow_right (by decide) (by omega)
              have := lsF_len (bst t m (qN t) (2 ^ qN t))
              have qq1 : ruF (ruP (bst t m (qN t) (2 ^ qN t)) (el j)) (v + 1) = 0 := ruF_f (ruP_f (f := bst t m (qN t) (2 ^ qN t)) (x := qE (bst t m (qN t) (2 ^ qN t) c)) (by omega) ec rfl (by omega))
              have qq2 : ruF (ruP (qGreedy t) (el j)) (v + 1) = 0 := ruF_0 hrq
              refine E_iload at_X6_rules_77 rfl ?_
              refine E_iload_n at_X6_rules_79 rfl ?_
              refine E_ic (t := 148) (b := false) at_X6_rules_80 rfl ((cn_ge (nI_toInt (by omega)) (nI_toInt (by omega))).trans (decide_eq_false (by omega))) ?_
              refine E_aload_n at_X6_rules_83 rfl ?_
              refine E_iload_n at_X6_rules_84 rfl ?_
              refine E_iconst (x := nI 2) at_X6_rules_85 (by decide) ?_
              refine E_iload at_X6_rules_86 rfl ?_
              refine E_imul (z := nI (2 * v)) at_X6_rules_88 (pk_mul _ _) ?_
              refine E_callV (v := some (.int (nI c))) (As := [.ref 65, .int (nI j), .int (nI (2 * v))]) (r0 := []) (cs2 := (ww im lf s d k ls rf rz ra rn rq lt m1 m2 m3 m4 bd fc hd sz el t g fm hm so si sh ce ca td wa kp la (lsF (bst t m (qN t) (2 ^ qN t))) oo bo pw ow tr)) at_X6_rules_89 rfl rfl (Nat.le_of_ble_eq_true rfl) rfl (ab_rvOf w65 rfl) (Ev.vi ec (m_intAt (q := 2 * v) hj (by omega) l_ce hce)) (by decide) rfl ?_
              refine E_istore (L2 := [some (.ref 65), some (.int (nI j)), some (.int (nI n)), some (.int (nI 0)), some (.int (nI 1)), some (.int (nI v)), some (.int (nI c)), x7]) at_X6_rules_92 rfl ?_
              refine E_aload_n at_X6_rules_94 rfl ?_
              refine E_iload_n at_X6_rules_95 rfl ?_
              refine E_iconst (x := nI 2) at_X6_rules_96 (by decide) ?_
              refine E_iload at_X6_rules_97 rfl ?_
              refine E_imul (z := nI (2 * v)) at_X6_rules_99 (pk_mul _ _) ?_
              refine E_iconst (x := nI 1) at_X6_rules_100 (by decide) ?_
              refine E_iadd (z := nI ((2 * v) + 1)) at_X6_rules_101 (nI_add _ _) ?_
              refine E_callV (v := some (.int (tw (el j) (2 * v + 1)))) (As := [.ref 65, .int (nI j), .int (nI ((2 * v) + 1))]) (r0 := []) (cs2 := (ww im lf s d k ls rf rz ra rn rq lt m1 m2 m3 m4 bd fc hd sz el t g fm hm so si sh ce ca td wa kp la (lsF (bst t m (qN t) (2 ^ qN t))) oo bo pw ow tr)) at_X6_rules_102 rfl rfl (Nat.le_of_ble_eq_true rfl) rfl (ab_rvOf w65 rfl) (m_intAt (q := (2 * v) + 1) hj (by omega) l_ce hce) (by decide) rfl ?_
              refine E_istore (L2 := [some (.ref 65), some (.int (nI j)), some (.int (nI n)), some (.int (nI 0)), some (.int (nI 1)), some (.int (nI v)), some (.int (nI c)), some (.int (tw (el j) (2 * v + 1)))]) at_X6_rules_105 rfl ?_
              refine E_aload_n at_X6_rules_107 rfl ?_
              refine E_getfield (v := .ref 89) at_X6_rules_108 w65 rfl (by decide) rfl ?_
              refine E_iload at_X6_rules_111 rfl ?_
              refine E_ialI (l := (lsF (bst t m (qN t) (2 ^ qN t)))) (v := qE (bst t m (qN t) (2 ^ qN t) c)) at_X6_rules_113 w89 (by omega) (by omega) (lsF_get (by omega)) ?_
              refine E_iload at_X6_rules_114 rfl ?_
              refine E_ic (t := 125) (b := false) at_X6_rules_116 rfl ((cn_eq rfl rfl).trans (decide_eq_false (by omega))) ?_
              refine E_iload at_X6_rules_119 rfl ?_
              refine E_iconst (x := nI 2) at_X6_rules_121 (by decide) ?_
              refine E_iand (z := nI 0) at_X6_rules_122 (by decide) ?_
              refine E_istore (L2 := [some (.ref 65), some (.int (nI j)), some (.int (nI n)), some (.int (nI 0)), some (.int (nI 0)), some (.int (nI v)), some (.int (nI c)), some (.int (tw (el j) (2 * v + 1)))]) at_X6_rules_123 rfl ?_
              refine E_aload_n at_X6_rules_125 rfl ?_
              refine E_iload at_X6_rules_126 rfl ?_
              refine E_callV (v := some (.int (qE (qGreedy t c)))) (As := [.ref 65, .int (nI c)]) (r0 := []) (cs2 := (ww im lf s d k ls rf rz ra rn rq lt m1 m2 m3 m4 bd fc hd sz el t g fm hm so si sh ce ca td wa kp la (lsF (bst t m (qN t) (2 ^ qN t))) oo bo pw ow tr)) at_X6_rules_128 rfl rfl (Nat.le_of_ble_eq_true rfl) rfl (ab_rvOf w65 rfl) (mo_greedyFor w_m I (by omega)) (by decide) rfl ?_
              refine E_iload at_X6_rules_131 rfl ?_
              refine E_ic (t := 142) (b := true) at_X6_rules_133 rfl ((cn_eq rfl rfl).trans (decide_eq_true (by omega))) ?_
              refine E_iinc (y := nI (v + 1)) (L2 := [some (.ref 65), some (.int (nI j)), some (.int (nI n)), some (.int (nI 0)), some (.int (nI 0)), some (.int (nI (v + 1))), some (.int (nI c)), some (.int (tw (el j) (2 * v + 1)))]) at_X6_rules_142 rfl (nI_1 _) rfl ?_
              refine E_goto (t := 77) at_X6_rules_145 rfl ?_
              have X := ih (v + 1) (some (.int (nI c))) (some (.int (tw (el j) (2 * v + 1)))) (by omega)
              rw [qq1, qq2] at X
              exact X
            · rw [hrp, hrq]
              have w9 : 2 ^ qN t ≤ 2 ^ 9 := Nat.pow_le_pow_right (by decide) (by omega)
              have := lsF_len (bst t m (qN t) (2 ^ qN t))
              have qq1 : ruF (ruP (bst t m (qN t) (2 ^ qN t)) (el j)) (v + 1) = 0 := ruF_f (ruP_f (f := bst t m (qN t) (2 ^ qN t)) (x := qE (bst t m (qN t) (2 ^ qN t) c)) (by omega) ec rfl (by omega))
              have qq2 : ruF (ruP (qGreedy t) (el j)) (v + 1) = 0 := ruF_0 hrq
              refine E_iload at_X6_rules_77 rfl ?_
              refine E_iload_n at_X6_rules_79 rfl ?_
              refine E_ic (t := 148) (b := false) at_X6_rules_80 rfl ((cn_ge (nI_toInt (by omega)) (nI_toInt (by omega))).trans (decide_eq_false (by omega))) ?_
              refine E_aload_n at_X6_rules_83 rfl ?_
              refine E_iload_n at_X6_rules_84 rfl ?_
              refine E_iconst (x := nI 2) at_X6_rules_85 (by decide) ?_
              refine E_iload at_X6_rules_86 rfl ?_
              refine E_imul (z := nI (2 * v)) at_X6_rules_88 (pk_mul _ _) ?_
              refine E_callV (v := some (.int (nI c))) (As := [.ref 65, .int (nI j), .int (nI (2 * v))]) (r0 := []) (cs2 := (ww im lf s d k ls rf rz ra rn rq lt m1 m2 m3 m4 bd fc hd sz el t g fm hm so si sh ce ca td wa kp la (lsF (bst t m (qN t) (2 ^ qN t))) oo bo pw ow tr)) at_X6_rules_89 rfl rfl (Nat.le_of_ble_eq_true rfl) rfl (ab_rvOf w65 rfl) (Ev.vi ec (m_intAt (q := 2 * v) hj (by omega) l_ce hce)) (by decide) rfl ?_
              refine E_istore (L2 := [some (.ref 65), some (.int (nI j)), some (.int (nI n)), some (.int (nI 0)), some (.int (nI 1)), some (.int (nI v)), some (.int (nI c)), x7]) at_X6_rules_92 rfl ?_
              refine E_aload_n at_X6_rules_94 rfl ?_
              refine E_iload_n at_X6_rules_95 rfl ?_
              refine E_iconst (x := nI 2) at_X6_rules_96 (by decide) ?_
              refine E_iload at_X6_rules_97 rfl ?_
              refine E_imul (z := nI (2 * v)) at_X6_rules_99 (pk_mul _ _) ?_
              refine E_iconst (x := nI 1) at_X6_rules_100 (by decide) ?_
              refine E_iadd (z := nI ((2 * v) + 1)) at_X6_rules_101 (nI_add _ _) ?_
              refine E_callV (v := some (.int (tw (el j) (2 * v + 1)))) (As := [.ref 65, .int (nI j), .int (nI ((2 * v) + 1))]) (r0 := []) (cs2 := (ww im lf s d k ls rf rz ra rn rq lt m1 m2 m3 m4 bd fc hd sz el t g fm hm so si sh ce ca td wa kp la (lsF (bst t m (qN t) (2 ^ qN t))) oo bo pw ow tr)) at_X6_rules_102 rfl rfl (Nat.le_of_ble_eq_true rfl) rfl (ab_rvOf w65 rfl) (m_intAt (q := (2 * v) + 1) hj (by omega) l_ce hce) (by decide) rfl ?_
              refine E_istore (L2 := [some (.ref 65), some (.int (nI j)), some (.int (nI n)), some (.int (nI 0)), some (.int (nI 1)), some (.int (nI v)), some (.int (nI c)), some (.int (tw (el j) (2 * v + 1)))]) at_X6_rules_105 rfl ?_
              refine E_aload_n at_X6_rules_107 rfl ?_
              refine E_getfield (v := .ref 89) at_X6_rules_108 w65 rfl (by decide) rfl ?_
              refine E_iload at_X6_rules_111 rfl ?_
              refine E_ialI (l := (lsF (bst t m (qN t) (2 ^ qN t)))) (v := qE (bst t m (qN t) (2 ^ qN t) c)) at_X6_rules_113 w89 (by omega) (by omega) (lsF_get (by omega)) ?_
              refine E_iload at_X6_rules_114 rfl ?_
              refine E_ic (t := 125) (b := false) at_X6_rules_116 rfl ((cn_eq rfl rfl).trans (decide_eq_false (by omega))) ?_
              refine E_iload at_X6_rules_119 rfl ?_
              refine E_iconst (x := nI 2) at_X6_rules_121 (by decide) ?_
              refine E_iand (z := nI 0) at_X6_rules_122 (by decide) ?_
              refine E_istore (L2 := [some (.ref 65), some (.int (nI j)), some (.int (nI n)), some (.int (nI 0)), some (.int (nI 0)), some (.int (nI v)), some (.int (nI c)), some (.int (tw (el j) (2 * v + 1)))]) at_X6_rules_123 rfl ?_
              refine E_aload_n at_X6_rules_125 rfl ?_
              refine E_iload at_X6_rules_126 rfl ?_
              refine E_callV (v := some (.int (qE (qGreedy t c)))) (As := [.ref 65, .int (nI c)]) (r0 := []) (cs2 := (ww im lf s d k ls rf rz ra rn rq lt m1 m2 m3 m4 bd fc hd sz el t g fm hm so si sh ce ca td wa kp la (lsF (bst t m (qN t) (2 ^ qN t))) oo bo pw ow tr)) at_X6_rules_128 rfl rfl (Nat.le_of_ble_eq_true rfl) rfl (ab_rvOf w65 rfl) (mo_greedyFor w_m I (by omega)) (by decide) rfl ?_
              refine E_iload at_X6_rules_131 rfl ?_
              refine E_ic (t := 142) (b := false) at_X6_rules_133 rfl ((cn_eq rfl rfl).trans (decide_eq_false (by omega))) ?_
              refine E_iload at_X6_rules_136 rfl ?_
              refine E_iconst (x := nI 1) at_X6_rules_138 (by decide) ?_
              refine E_iand (z := nI 0) at_X6_rules_139 (by decide) ?_
              refine E_istore (L2 := [some (.ref 65), some (.int (nI j)), some (.int (nI n)), some (.int (nI 0)), some (.int (nI 0)), some (.int (nI v)), some (.int (nI c)), some (.int (tw (el j) (2 * v + 1)))]) at_X6_rules_140 rfl ?_
              refine E_iinc (y := nI (v + 1)) (L2 := [some (.ref 65), some (.int (nI j)), some (.int (nI n)), some (.int (nI 0)), some (.int (nI 0)), some (.int (nI (v + 1))), some (.int (nI c)), some (.int (tw (el j) (2 * v + 1)))]) at_X6_rules_142 rfl (nI_1 _) rfl ?_
              refine E_goto (t := 77) at_X6_rules_145 rfl ?_
              have X := ih (v + 1) (some (.int (nI c))) (some (.int (tw (el j) (2 * v + 1)))) (by omega)
              rw [qq1, qq2] at X
              exact X
      · rcases wgh_bst t m (qN t) c with ⟨eb0, fb0⟩ | ⟨B0, hB0, hs0, hw0, hb0, hk0⟩
        · by_cases f3 : ((qE (bst t m (qN t) (2 ^ qN t) c)).toInt) = ((tw (el j) (2 * v + 1)).toInt)
          · by_cases f4 : ((qE (qGreedy t c)).toInt) = ((tw (el j) (2 * v + 1)).toInt)
            · rw [hrp, hrq]
              have w9 : 2 ^ qN t ≤ 2 ^ 9 := Nat.pow_le_pow_right (by decide) (by omega)
              have := lsF_len (bst t m (qN t) (2 ^ qN t))
              have qq1 : ruF (ruP (bst t m (qN t) (2 ^ qN t)) (el j)) (v + 1) = 1 := (ruF_t (ruP_t (f := bst t m (qN t) (2 ^ qN t)) (x := qE (bst t m (qN t) (2 ^ qN t) c)) (by omega) ec rfl (by omega))).trans hrp
              have qq2 : ruF (ruP (qGreedy t) (el j)) (v + 1) = 1 := (ruF_t (ruP_t (f := qGreedy t) (x := qE (qGreedy t c)) (by omega) ec rfl (by omega))).trans hrq
              refine E_iload at_X6_rules_77 rfl ?_
              refine E_iload_n at_X6_rules_79 rfl ?_
              refine E_ic (t := 148) (b := false) at_X6_rules_80 rfl ((cn_ge (nI_toInt (by omega)) (nI_toInt (by omega))).trans (decide_eq_false (by omega))) ?_
              refine E_aload_n at_X6_rules_83 rfl ?_
              refine E_iload_n at_X6_rules_84 rfl ?_
              refine E_iconst (x := nI 2) at_X6_rules_85 (by decide) ?_
              refine E_iload at_X6_rules_86 rfl ?_
              refine E_imul (z := nI (2 * v)) at_X6_rules_88 (pk_mul _ _) ?_
              refine E_callV (v := some (.int (nI c))) (As := [.ref 65, .int (nI j), .int (nI (2 * v))]) (r0 := []) (cs2 := (ww im lf s d k ls rf rz ra rn rq lt m1 m2 m3 m4 bd fc hd sz el t g fm hm so si sh ce ca td wa kp la (lsF (bst t m (qN t) (2 ^ qN t))) oo bo pw ow tr)) at_X6_rules_89 rfl rfl (Nat.le_of_ble_eq_true rfl) rfl (ab_rvOf w65 rfl) (Ev.vi ec (m_intAt (q := 2 * v) hj (by omega) l_ce hce)) (by decide) rfl ?_
              refine E_istore (L2 := [some (.ref 65), some (.int (nI j)), some (.int (nI n)), some (.int (nI 0)), some (.int (nI 3)), some (.int (nI v)), some (.int (nI c)), x7]) at_X6_rules_92 rfl ?_
              refine E_aload_n at_X6_rules_94 rfl ?_
              refine E_iload_n at_X6_rules_95 rfl ?_
              refine E_iconst (x := nI 2) at_X6_rules_96 (by decide) ?_
              refine E_iload at_X6_rules_97 rfl ?_
              refine E_imul (z := nI (2 * v)) at_X6_rules_99 (pk_mul _ _) ?_
              refine E_iconst (x := nI 1) at_X6_rules_100 (by decide) ?_
              refine E_iadd (z := nI ((2 * v) + 1)) at_X6_rules_101 (nI_add _ _) ?_
              refine E_callV (v := some (.int (tw (el j) (2 * v + 1)))) (As := [.ref 65, .int (nI j), .int (nI ((2 * v) + 1))]) (r0 := []) (cs2 := (ww im lf s d k ls rf rz ra rn rq lt m1 m2 m3 m4 bd fc hd sz el t g fm hm so si sh ce ca td wa kp la (lsF (bst t m (qN t) (2 ^ qN t))) oo bo pw ow tr)) at_X6_rules_102 rfl rfl (Nat.le_of_ble_eq_true rfl) rfl (ab_rvOf w65 rfl) (m_intAt (q := (2 * v) + 1) hj (by omega) l_ce hce) (by decide) rfl ?_
              refine E_istore (L2 := [some (.ref 65), some (.int (nI j)), some (.int (nI n)), some (.int (nI 0)), some (.int (nI 3)), some (.int (nI v)), some (.int (nI c)), some (.int (tw (el j) (2 * v + 1)))]) at_X6_rules_105 rfl ?_
              refine E_aload_n at_X6_rules_107 rfl ?_
              refine E_getfield (v := .ref 89) at_X6_rules_108 w65 rfl (by decide) rfl ?_
              refine E_iload at_X6_rules_111 rfl ?_
              refine E_ialI (l := (lsF (bst t m (qN t) (2 ^ qN t)))) (v := qE (bst t m (qN t) (2 ^ qN t) c)) at_X6_rules_113 w89 (by omega) (by omega) (lsF_get (by omega)) ?_
              refine E_iload at_X6_rules_114 rfl ?_
              refine E_ic (t := 125) (b := true) at_X6_rules_116 rfl ((cn_eq rfl rfl).trans (decide_eq_true (by omega))) ?_
              refine E_aload_n at_X6_rules_125 rfl ?_
              refine E_iload at_X6_rules_126 rfl ?_
              refine E_callV (v := some (.int (qE (qGreedy t c)))) (As := [.ref 65, .int (nI c)]) (r0 := []) (cs2 := (ww im lf s d k ls rf rz ra rn rq lt m1 m2 m3 m4 bd fc hd sz el t g fm hm so si sh ce ca td wa kp la (lsF (bst t m (qN t) (2 ^ qN t))) oo bo pw ow tr)) at_X6_rules_128 rfl rfl (Nat.le_of_ble_eq_true rfl) rfl (ab_rvOf w65 rfl) (mo_greedyFor w_m I (by omega)) (by decide) rfl ?_
              refine E_iload at_X6_rules_131 rfl ?_
              refine E_ic (t := 142) (b := true) at_X6_rules_133 rfl ((cn_eq rfl rfl).trans (decide_eq_true (by omega))) ?_
              refine E_iinc (y := nI (v + 1)) (L2 := [some (.ref 65), some (.int (nI j)), some (.int (nI n)), some (.int (nI 0)), some (.int (nI 3)), some (.int (nI (v + 1))), some (.int (nI c)), some (.int (tw (el j) (2 * v + 1)))]) at_X6_rules_142 rfl (nI_1 _) rfl ?_
              refine E_goto (t := 77) at_X6_rules_145 rfl ?_
              have X := ih (v + 1) (some (.int (nI c))) (some (.int (tw (el j) (2 * v + 1)))) (by omega)
              rw [qq1, qq2] at X
              exact X
            · rw [hrp, hrq]
              have w9 : 2 ^ qN t ≤ 2 ^ 9 := Nat.pow_le_pow_right (by decide) (by omega)
              have := lsF_len (bst t m (qN t) (2 ^ qN t))
              have qq1 : ruF (ruP (bst t m (qN t) (2 ^ qN t)) (el j)) (v + 1) = 1 := (ruF_t (ruP_t (f := bst t m (qN t) (2 ^ qN t)) (x := qE (bst t m (qN t) (2 ^ qN t) c)) (by omega) ec rfl (by omega))).trans hrp
              have qq2 : ruF (ruP (qGreedy t) (el j)) (v + 1) = 0 := ruF_f (ruP_f (f := qGreedy t) (x := qE (qGreedy t c)) (by omega) ec rfl (by omega))
              refine E_iload at_X6_rules_77 rfl ?_
              refine E_iload_n at_X6_rules_79 rfl ?_
              refine E_ic (t := 148) (b := false) at_X6_rules_80 rfl ((cn_ge (nI_toInt (by omega)) (nI_toInt (by omega))).trans (decide_eq_false (by omega))) ?_
              refine E_aload_n at_X6_rules_83 rfl ?_
              refine E_iload_n at_X6_rules_84 rfl ?_
              refine E_iconst (x := nI 2) at_X6_rules_85 (by decide) ?_
              refine E_iload at_X6_rules_86 rfl ?_
              refine E_imul (z := nI (2 * v)) at_X6_rules_88 (pk_mul _ _) ?_
              refine E_callV (v := some (.int (nI c))) (As := [.ref 65, .int (nI j), .int (nI (2 * v))]) (r0 := []) (cs2 := (ww im lf s d k ls rf rz ra rn rq lt m1 m2 m3 m4 bd fc hd sz el t g fm hm so si sh ce ca td wa kp la (lsF (bst t m (qN t) (2 ^ qN t))) oo bo pw ow tr)) at_X6_rules_89 rfl rfl (Nat.le_of_ble_eq_true rfl) rfl (ab_rvOf w65 rfl) (Ev.vi ec (m_intAt (q := 2 * v) hj (by omega) l_ce hce)) (by decide) rfl ?_
              refine E_istore (L2 := [some (.ref 65), some (.int (nI j)), some (.int (nI n)), some (.int (nI 0)), some (.int (nI 3)), some (.int (nI v)), some (.int (nI c)), x7]) at_X6_rules_92 rfl ?_
              refine E_aload_n at_X6_rules_94 rfl ?_
              refine E_iload_n at_X6_rules_95 rfl ?_
              refine E_iconst (x := nI 2) at_X6_rules_96 (by decide) ?_
              refine E_iload at_X6_rules_97 rfl ?_
              refine E_imul (z := nI (2 * v)) at_X6_rules_99 (pk_mul _ _) ?_
              refine E_iconst (x := nI 1) at_X6_rules_100 (by decide) ?_
              refine E_iadd (z := nI ((2 * v) + 1)) at_X6_rules_101 (nI_add _ _) ?_
              refine E_callV (v := some (.int (tw (el j) (2 * v + 1)))) (As := [.ref 65, .int (nI j), .int (nI ((2 * v) + 1))]) (r0 := []) (cs2 := (ww im lf s d k ls rf rz ra rn rq lt m1 m2 m3 m4 bd fc hd sz el t g fm hm so si sh ce ca td wa kp la (lsF (bst t m (qN t) (2 ^ qN t))) oo bo pw ow tr)) at_X6_rules_102 rfl rfl (Nat.le_of_ble_eq_true rfl) rfl (ab_rvOf w65 rfl) (m_intAt (q := (2 * v) + 1) hj (by omega) l_ce hce) (by decide) rfl ?_
              refine E_istore (L2 := [some (.ref 65), some (.int (nI j)), some (.int (nI n)), some (.int (nI 0)), some (.int (nI 3)), some (.int (nI v)), some (.int (nI c)), some (.int (tw (el j) (2 * v + 1)))]) at_X6_rules_105 rfl ?_
              refine E_aload_n at_X6_rules_107 rfl ?_
              refine E_getfield (v := .ref 89) at_X6_rules_108 w65 rfl (by decide) rfl ?_
              refine E_iload at_X6_rules_111 rfl ?_
              refine E_ialI (l := (lsF (bst t m (qN t) (2 ^ qN t)))) (v := qE (bst t m (qN t) (2 ^ qN t) c)) at_X6_rules_113 w89 (by omega) (by omega) (lsF_get (by omega)) ?_
              refine E_iload at_X6_rules_114 rfl ?_
              refine E_ic (t := 125) (b := true) at_X6_rules_116 rfl ((cn_eq rfl rfl).trans (decide_eq_true (by omega))) ?_
              refine E_aload_n at_X6_rules_125 rfl ?_
              refine E_iload at_X6_rules_126 rfl ?_
              refine E_callV (v := some (.int (qE (qGreedy t c)))) (As := [.ref 65, .int (nI c)]) (r0 := []) (cs2 := (ww im lf s d k ls rf rz ra rn rq lt m1 m2 m3 m4 bd fc hd sz el t g fm hm so si sh ce ca td wa kp la (lsF (bst t m (qN t) (2 ^ qN t))) oo bo pw ow tr)) at_X6_rules_128 rfl rfl (Nat.le_of_ble_eq_true rfl) rfl (ab_rvOf w65 rfl) (mo_greedyFor w_m I (by omega)) (by decide) rfl ?_
              refine E_iload at_X6_rules_131 rfl ?_
              refine E_ic (t := 142) (b := false) at_X6_rules_133 rfl ((cn_eq rfl rfl).trans (decide_eq_false (by omega))) ?_
              refine E_iload at_X6_rules_136 rfl ?_
              refine E_iconst (x := nI 1) at_X6_rules_138 (by decide) ?_
              refine E_iand (z := nI 1) at_X6_rules_139 (by decide) ?_
              refine E_istore (L2 := [some (.ref 65), some (.int (nI j)), some (.int (nI n)), some (.int (nI 0)), some (.int (nI 1)), some (.int (nI v)), some (.int (nI c)), some (.int (tw (el j) (2 * v + 1)))]) at_X6_rules_140 rfl ?_
              refine E_iinc (y := nI (v + 1)) (L2 := [some (.ref 65), some (.int (nI j)), some (.int (nI n)), some (.int (nI 0)), some (.int (nI 1)), some (.int (nI (v + 1))), some (.int (nI c)), some (.int (tw (el j) (2 * v + 1)))]) at_X6_rules_142 rfl (nI_1 _) rfl ?_
              refine E_goto (t := 77) at_X6_rules_145 rfl ?_
              have X := ih (v + 1) (some (.int (nI c))) (some (.int (tw (el j) (2 * v + 1)))) (by omega)
              rw [qq1, qq2] at X
              exact X
          · by_cases f4 : ((qE (qGreedy t c)).toInt) = ((tw (el j) (2 * v + 1)).toInt)
            · rw [hrp, hrq]
              have w9 : 2 ^ qN t ≤ 2 ^ 9 := Nat.pow_le_pow_right (by decide) (by omega)
              have := lsF_len (bst t m (qN t) (2 ^ qN t))
              have qq1 : ruF (ruP (bst t m (qN t) (2 ^ qN t)) (el j)) (v + 1) = 0 := ruF_f (ruP_f (f := bst t m (qN t) (2 ^ qN t)) (x := qE (bst t m (qN t) (2 ^ qN t) c)) (by omega) ec rfl (by omega))
              have qq2 : ruF (ruP (qGreedy t) (el j)) (v + 1) = 1 := (ruF_t (ruP_t (f := qGreedy t) (x := qE (qGreedy t c)) (by omega) ec rfl (by omega))).trans hrq
              refine E_iload at_X6_rules_77 rfl ?_
              refine E_iload_n at_X6_rules_79 rfl ?_
              refine E_ic (t := 148) (b := false) at_X6_rules_80 rfl ((cn_ge (nI_toInt (by omega)) (nI_toInt (by omega))).trans (decide_eq_false (by omega))) ?_
              refine E_aload_n at_X6_rules_83 rfl ?_
              refine E_iload_n at_X6_rules_84 rfl ?_
              refine E_iconst (x := nI 2) at_X6_rules_85 (by decide) ?_
              refine E_iload at_X6_rules_86 rfl ?_
              refine E_imul (z := nI (2 * v)) at_X6_rules_88 (pk_mul _ _) ?_
              refine E_callV (v := some (.int (nI c))) (As := [.ref 65, .int (nI j), .int (nI (2 * v))]) (r0 := []) (cs2 := (ww im lf s d k ls rf rz ra rn rq lt m1 m2 m3 m4 bd fc hd sz el t g fm hm so si sh ce ca td wa kp la (lsF (bst t m (qN t) (2 ^ qN t))) oo bo pw ow tr)) at_X6_rules_89 rfl rfl (Nat.le_of_ble_eq_true rfl) rfl (ab_rvOf w65 rfl) (Ev.vi ec (m_intAt (q := 2 * v) hj (by omega) l_ce hce)) (by decide) rfl ?_
              refine E_istore (L2 := [some (.ref 65), some (.int (nI j)), some (.int (nI n)), some (.int (nI 0)), some (.int (nI 3)), some (.int (nI v)), some (.int (nI c)), x7]) at_X6_rules_92 rfl ?_
              refine E_aload_n at_X6_rules_94 rfl ?_
              refine E_iload_n at_X6_rules_95 rfl ?_
              refine E_iconst (x := nI 2) at_X6_rules_96 (by decide) ?_
              refine E_iload at_X6_rules_97 rfl ?_
              refine E_imul (z := nI (2 * v)) at_X6_rules_99 (pk_mul _ _) ?_
              refine E_iconst (x := nI 1) at_X6_rules_100 (by decide) ?_
              refine E_iadd (z := nI ((2 * v) + 1)) at_X6_rules_101 (nI_add _ _) ?_
              refine E_callV (v := some (.int (tw (el j) (2 * v + 1)))) (As := [.ref 65, .int (nI j), .int (nI ((2 * v) + 1))]) (r0 := []) (cs2 := (ww im lf s d k ls rf rz ra rn rq lt m1 m2 m3 m4 bd fc hd sz el t g fm hm so si sh ce ca td wa kp la (lsF (bst t m (qN t) (2 ^ qN t))) oo bo pw ow tr)) at_X6_rules_102 rfl rfl (Nat.le_of_ble_eq_true rfl) rfl (ab_rvOf w65 rfl) (m_intAt (q := (2 * v) + 1) hj (by omega) l_ce hce) (by decide) rfl ?_
              refine E_istore (L2 := [some (.ref 65), some (.int (nI j)), some (.int (nI n)), some (.int (nI 0)), some (.int (nI 3)), some (.int (nI v)), some (.int (nI c)), some (.int (tw (el j) (2 * v + 1)))]) at_X6_rules_105 rfl ?_
              refine E_aload_n at_X6_rules_107 rfl ?_
              refine E_getfield (v := .ref 89) at_X6_rules_108 w65 rfl (by decide) rfl ?_
              refine E_iload at_X6_rules_111 rfl ?_
              refine E_ialI (l := (lsF (bst t m (qN t) (2 ^ qN t)))) (v := qE (bst t m (qN t) (2 ^ qN t) c)) at_X6_rules_113 w89 (by omega) (by omega) (lsF_get (by omega)) ?_
              refine E_iload at_X6_rules_114 rfl ?_
              refine E_ic (t := 125) (b := false) at_X6_rules_116 rfl ((cn_eq rfl rfl).trans (decide_eq_false (by omega))) ?_
              refine E_iload at_X6_rules_119 rfl ?_
              refine E_iconst (x := nI 2) at_X6_rules_121 (by decide) ?_
              refine E_iand (z := nI 2) at_X6_rules_122 (by decide) ?_
              refine E_istore (L2 := [some (.ref 65), some (.int (nI j)), some (.int (nI n)), some (.int (nI 0)), some (.int (nI 2)), some (.int (nI v)), some (.int (nI c)), some (.int (tw (el j) (2 * v + 1)))]) at_X6_rules_123 rfl ?_
              refine E_aload_n at_X6_rules_125 rfl ?_
              refine E_iload at_X6_rules_126 rfl ?_
              refine E_callV (v := some (.int (qE (qGreedy t c)))) (As := [.ref 65, .int (nI c)]) (r0 := []) (cs2 := (ww im lf s d k ls rf rz ra rn rq lt m1 m2 m3 m4 bd fc hd sz el t g fm hm so si sh ce ca td wa kp la (lsF (bst t m (qN t) (2 ^ qN t))) oo bo pw ow tr)) at_X6_rules_128 rfl rfl (Nat.le_of_ble_eq_true rfl) rfl (ab_rvOf w65 rfl) (mo_greedyFor w_m I (by omega)) (by decide) rfl ?_
              refine E_iload at_X6_rules_131 rfl ?_
              refine E_ic (t := 142) (b := true) at_X6_rules_133 rfl ((cn_eq rfl rfl).trans (decide_eq_true (by omega))) ?_
              refine E_iinc (y := nI (v + 1)) (L2 := [some (.ref 65), some (.int (nI j)), some (.int (nI n)), some (.int (nI 0)), some (.int (nI 2)), some (.int (nI (v + 1))), some (.int (nI c)), some (.int (tw (el j) (2 * v + 1)))]) at_X6_rules_142 rfl (nI_1 _) rfl ?_
              refine E_goto (t := 77) at_X6_rules_145 rfl ?_
              have X := ih (v + 1) (some (.int (nI c))) (some (.int (tw (el j) (2 * v + 1)))) (by omega)
              rw [qq1, qq2] at X
              exact X
            · rw [hrp, hrq]
              have w9 : 2 ^ qN t ≤ 2 ^ 9 := Nat.pow_le_pow_right (by decide) (by omega)
              have := lsF_len (bst t m (qN t) (2 ^ qN t))
              have qq1 : ruF (ruP (bst t m (qN t) (2 ^ qN t)) (el j)) (v + 1) = 0 := ruF_f (ruP_f (f := bst t m (qN t) (2 ^ qN t)) (x := qE (bst t m (qN t) (2 ^ qN t) c)) (by omega) ec rfl (by omega))
              have qq2 : ruF (ruP (qGreedy t) (el j)) (v + 1) = 0 := ruF_f (ruP_f (f := qGreedy t) (x := qE (qGreedy t c)) (by omega) ec rfl (by omega))
              refine E_iload at_X6_rules_77 rfl ?_
              refine E_iload_n at_X6_rules_79 rfl ?_
              refine E_ic (t := 148) (b := false) at_X6_rules_80 rfl ((cn_ge (nI_toInt (by omega)) (nI_toInt (by omega))).trans (decide_eq_false (by omega))) ?_
              refine E_aload_n at_X6_rules_83 rfl ?_
              refine E_iload_n at_X6_rules_84 rfl ?_
              refine E_iconst (x := nI 2) at_X6_rules_85 (by decide) ?_
              refine E_iload at_X6_rules_86 rfl ?_
              refine E_imul (z := nI (2 * v)) at_X6_rules_88 (pk_mul _ _) ?_
              refine E_callV (v := some (.int (nI c))) (As := [.ref 65, .int (nI j), .int (nI (2 * v))]) (r0 := []) (cs2 := (ww im lf s d k ls rf rz ra rn rq lt m1 m2 m3 m4 bd fc hd sz el t g fm hm so si sh ce ca td wa kp la (lsF (bst t m (qN t) (2 ^ qN t))) oo bo pw ow tr)) at_X6_rules_89 rfl rfl (Nat.le_of_ble_eq_true rfl) rfl (ab_rvOf w65 rfl) (Ev.vi ec (m_intAt (q := 2 * v) hj (by omega) l_ce hce)) (by decide) rfl ?_
              refine E_istore (L2 := [some (.ref 65), some (.int (nI j)), some (.int (nI n)), some (.int (nI 0)), some (.int (nI 3)), some (.int (nI v)), some (.int (nI c)), x7]) at_X6_rules_92 rfl ?_
              refine E_aload_n at_X6_rules_94 rfl ?_
              refine E_iload_n at_X6_rules_95 rfl ?_
              refine E_iconst (x := nI 2) at_X6_rules_96 (by decide) ?_
              refine E_iload at_X6_rules_97 rfl ?_
              refine E_imul (z := nI (2 * v)) at_X6_rules_99 (pk_mul _ _) ?_
              refine E_iconst (x := nI 1) at_X6_rules_100 (by decide) ?_
              refine E_iadd (z := nI ((2 * v) + 1)) at_X6_rules_101 (nI_add _ _) ?_
              refine E_callV (v := some (.int (tw (el j) (2 * v + 1)))) (As := [.ref 65, .int (nI j), .int (nI ((2 * v) + 1))]) (r0 := []) (cs2 := (ww im lf s d k ls rf rz ra rn rq lt m1 m2 m3 m4 bd fc hd sz el t g fm hm so si sh ce ca td wa kp la (lsF (bst t m (qN t) (2 ^ qN t))) oo bo pw ow tr)) at_X6_rules_102 rfl rfl (Nat.le_of_ble_eq_true rfl) rfl (ab_rvOf w65 rfl) (m_intAt (q := (2 * v) + 1) hj (by omega) l_ce hce) (by decide) rfl ?_
              refine E_istore (L2 := [some (.ref 65), some (.int (nI j)), some (.int (nI n)), some (.int (nI 0)), some (.int (nI 3)), some (.int (nI v)), some (.int (nI c)), some (.int (tw (el j) (2 * v + 1)))]) at_X6_rules_105 rfl ?_
              refine E_aload_n at_X6_rules_107 rfl ?_
              refine E_getfield (v := .ref 89) at_X6_rules_108 w65 rfl (by decide) rfl ?_
              refine E_iload at_X6_rules_111 rfl ?_
              refine E_ialI (l := (lsF (bst t m (qN t) (2 ^ qN t)))) (v := qE (bst t m (qN t) (2 ^ qN t) c)) at_X6_rules_113 w89 (by omega) (by omega) (lsF_get (by omega)) ?_
              refine E_iload at_X6_rules_114 rfl ?_
              refine E_ic (t := 125) (b := false) at_X6_rules_116 rfl ((cn_eq rfl rfl).trans (decide_eq_false (by omega))) ?_
              refine E_iload at_X6_rules_119 rfl ?_
              refine E_iconst (x := nI 2) at_X6_rules_121 (by decide) ?_
              refine E_iand (z := nI 2) at_X6_rules_122 (by decide) ?_
              refine E_istore (L2 := [some (.ref 65), some (.int (nI j)), some (.int (nI n)), some (.int (nI 0)), some (.int (nI 2)), some (.int (nI v)), some (.int (nI c)), some (.int (tw (el j) (2 * v + 1)))]) at_X6_rules_123 rfl ?_
              refine E_aload_n at_X6_rules_125 rfl ?_
              refine E_iload at_X6_rules_126 rfl ?_
              refine E_callV (v := some (.int (qE (qGreedy t c)))) (As := [.ref 65, .int (nI c)]) (r0 := []) (cs2 := (ww im lf s d k ls rf rz ra rn rq lt m1 m2 m3 m4 bd fc hd sz el t g fm hm so si sh ce ca td wa kp la (lsF (bst t m (qN t) (2 ^ qN t))) oo bo pw ow tr)) at_X6_rules_128 rfl rfl (Nat.le_of_ble_eq_true rfl) rfl (ab_rvOf w65 rfl) (mo_greedyFor w_m I (by omega)) (by decide) rfl ?_
              refine E_iload at_X6_rules_131 rfl ?_
              refine E_ic (t := 142) (b := false) at_X6_rules_133 rfl ((cn_eq rfl rfl).trans (decide_eq_false (by omega))) ?_
              refine E_iload at_X6_rules_136 rfl ?_
              refine E_iconst (x := nI 1) at_X6_rules_138 (by decide) ?_
              refine E_iand (z := nI 0) at_X6_rules_139 (by decide) ?_
              refine E_istore (L2 := [some (.ref 65), some (.int (nI j)), some (.int (nI n)), some (.int (nI 0)), some (.int (nI 0)), some (.int (nI v)), some (.int (nI c)), some (.int (tw (el j) (2 * v + 1)))]) at_X6_rules_140 rfl ?_
              refine E_iinc (y := nI (v + 1)) (L2 := [some (.ref 65), some (.int (nI j)), some (.int (nI n)), some (.int (nI 0)), some (.int (nI 0)), some (.int (nI (v + 1))), some (.int (nI c)), some (.int (tw (el j) (2 * v + 1)))]) at_X6_rules_142 rfl (nI_1 _) rfl ?_
              refine E_goto (t := 77) at_X6_rules_145 rfl ?_
              have X := ih (v + 1) (some (.int (nI c))) (some (.int (tw (el j) (2 * v + 1)))) (by omega)
              rw [qq1, qq2] at X
              exact X
        · by_cases f3 : ((qE (bst t m (qN t) (2 ^ qN t) c)).toInt) = ((tw (el j) (2 * v + 1)).toInt)
          · by_cases f4 : ((qE (qGreedy t c)).toInt) = ((tw (el j) (2 * v + 1)).toInt)
            · rw [hrp, hrq]
              have w9 : 2 ^ qN t ≤ 2 ^ 9 := Nat.pow_le_pow_right (by decide) (by omega)
              have := lsF_len (bst t m (qN t) (2 ^ qN t))
              have qq1 : ruF (ruP (bst t m (qN t) (2 ^ qN t)) (el j)) (v + 1) = 1 := (ruF_t (ruP_t (f := bst t m (qN t) (2 ^ qN t)) (x := qE (bst t m (qN t) (2 ^ qN t) c)) (by omega) ec rfl (by omega))).trans hrp
              have qq2 : ruF (ruP (qGreedy t) (el j)) (v + 1) = 1 := (ruF_t (ruP_t (f := qGreedy t) (x := qE (qGreedy t c)) (by omega) ec rfl (by omega))).trans hrq
              refine E_iload at_X6_rules_77 rfl ?_
              refine E_iload_n at_X6_rules_79 rfl ?_
              refine E_ic (t := 148) (b := false) at_X6_rules_80 rfl ((cn_ge (nI_toInt (by omega)) (nI_toInt (by omega))).trans (decide_eq_false (by omega))) ?_
              refine E_aload_n at_X6_rules_83 rfl ?_
              refine E_iload_n at_X6_rules_84 rfl ?_
              refine E_iconst (x := nI 2) at_X6_rules_85 (by decide) ?_
              refine E_iload at_X6_rules_86 rfl ?_
              refine E_imul (z := nI (2 * v)) at_X6_rules_88 (pk_mul _ _) ?_
              refine E_callV (v := some (.int (nI c))) (As := [.ref 65, .int (nI j), .int (nI (2 * v))]) (r0 := []) (cs2 := (ww im lf s d k ls rf rz ra rn rq lt m1 m2 m3 m4 bd fc hd sz el t g fm hm so si sh ce ca td wa kp la (lsF (bst t m (qN t) (2 ^ qN t))) oo bo pw ow tr)) at_X6_rules_89 rfl rfl (Nat.le_of_ble_eq_true rfl) rfl (ab_rvOf w65 rfl) (Ev.vi ec (m_intAt (q := 2 * v) hj (by omega) l_ce hce)) (by decide) rfl ?_
              refine E_istore (L2 := [some (.ref 65), some (.int (nI j)), some (.int (nI n)), some (.int (nI 0)), some (.int (nI 3)), some (.int (nI v)), some (.int (nI c)), x7]) at_X6_rules_92 rfl ?_
              refine E_aload_n at_X6_rules_94 rfl ?_
              refine E_iload_n at_X6_rules_95 rfl ?_
              refine E_iconst (x := nI 2) at_X6_rules_96 (by decide) ?_
              refine E_iload at_X6_rules_97 rfl ?_
              refine E_imul (z := nI (2 * v)) at_X6_rules_99 (pk_mul _ _) ?_
              refine E_iconst (x := nI 1) at_X6_rules_100 (by decide) ?_
              refine E_iadd (z := nI ((2 * v) + 1)) at_X6_rules_101 (nI_add _ _) ?_
              refine E_callV (v := some (.int (tw (el j) (2 * v + 1)))) (As := [.ref 65, .int (nI j), .int (nI ((2 * v) + 1))]) (r0 := []) (cs2 := (ww im lf s d k ls rf rz ra rn rq lt m1 m2 m3 m4 bd fc hd sz el t g fm hm so si sh ce ca td wa kp la (lsF (bst t m (qN t) (2 ^ qN t))) oo bo pw ow tr)) at_X6_rules_102 rfl rfl (Nat.le_of_ble_eq_true rfl) rfl (ab_rvOf w65 rfl) (m_intAt (q := (2 * v) + 1) hj (by omega) l_ce hce) (by decide) rfl ?_
              refine E_istore (L2 := [some (.ref 65), some (.int (nI j)), some (.int (nI n)), some (.int (nI 0)), some (.int (nI 3)), some (.int (nI v)), some (.int (nI c)), some (.int (tw (el j) (2 * v + 1)))]) at_X6_rules_105 rfl ?_
              refine E_aload_n at_X6_rules_107 rfl ?_
              refine E_getfield (v := .ref 89) at_X6_rules_108 w65 rfl (by decide) rfl ?_
              refine E_iload at_X6_rules_111 rfl ?_
              refine E_ialI (l := (lsF (bst t m (qN t) (2 ^ qN t)))) (v := qE (bst t m (qN t) (2 ^ qN t) c)) at_X6_rules_113 w89 (by omega) (by omega) (lsF_get (by omega)) ?_
              refine E_iload at_X6_rules_114 rfl ?_
              refine E_ic (t := 125) (b := true) at_X6_rules_116 rfl ((cn_eq rfl rfl).trans (decide_eq_true (by omega))) ?_
              refine E_aload_n at_X6_rules_125 rfl ?_
              refine E_iload at_X6_rules_126 rfl ?_
              refine E_callV (v := some (.int (qE (qGreedy t c)))) (As := [.ref 65, .int (nI c)]) (r0 := []) (cs2 := (ww im lf s d k ls rf rz ra rn rq lt m1 m2 m3 m4 bd fc hd sz el t g fm hm so si sh ce ca td wa kp la (lsF (bst t m (qN t) (2 ^ qN t))) oo bo pw ow tr)) at_X6_rules_128 rfl rfl (Nat.le_of_ble_eq_true rfl) rfl (ab_rvOf w65 rfl) (mo_greedyFor w_m I (by omega)) (by decide) rfl ?_
              refine E_iload at_X6_rules_131 rfl ?_
              refine E_ic (t := 142) (b := true) at_X6_rules_133 rfl ((cn_eq rfl rfl).trans (decide_eq_true (by omega))) ?_
              refine E_iinc (y := nI (v + 1)) (L2 := [some (.ref 65), some (.int (nI j)), some (.int (nI n)), some (.int (nI 0)), some (.int (nI 3)), some (.int (nI (v + 1))), some (.int (nI c)), some (.int (tw (el j) (2 * v + 1)))]) at_X6_rules_142 rfl (nI_1 _) rfl ?_
              refine E_goto (t := 77) at_X6_rules_145 rfl ?_
              have X := ih (v + 1) (some (.int (nI c))) (some (.int (tw (el j) (2 * v + 1)))) (by omega)
              rw [qq1, qq2] at X
              exact X
            · rw [hrp, hrq]
              have w9 : 2 ^ qN t ≤ 2 ^ 9 := Nat.pow_le_pow_right (by decide) (by omega)
              have := lsF_len (bst t m (qN t) (2 ^ qN t))
              have qq1 : ruF (ruP (bst t m (qN t) (2 ^ qN t)) (el j)) (v + 1) = 1 := (ruF_t (ruP_t (f := bst t m (qN t) (2 ^ qN t)) (x := qE (bst t m (qN t) (2 ^ qN t) c)) (by omega) ec rfl (by omega))).trans hrp
              have qq2 : ruF (ruP (qGreedy t) (el j)) (v + 1) = 0 := ruF_f (ruP_f (f := qGreedy t) (x := qE (qGreedy t c)) (by omega) ec rfl (by omega))
              refine E_iload at_X6_rules_77 rfl ?_
              refine E_iload_n at_X6_rules_79 rfl ?_
              refine E_ic (t := 148) (b := false) at_X6_rules_80 rfl ((cn_ge (nI_toInt (by omega)) (nI_toInt (by omega))).trans (decide_eq_false (by omega))) ?_
              refine E_aload_n at_X6_rules_83 rfl ?_
              refine E_iload_n at_X6_rules_84 rfl ?_
              refine E_iconst (x := nI 2) at_X6_rules_85 (by decide) ?_
              refine E_iload at_X6_rules_86 rfl ?_
              refine E_imul (z := nI (2 * v)) at_X6_rules_88 (pk_mul _ _) ?_
              refine E_callV (v := some (.int (nI c))) (As := [.ref 65, .int (nI j), .int (nI (2 * v))]) (r0 := []) (cs2 := (ww im lf s d k ls rf rz ra rn rq lt m1 m2 m3 m4 bd fc hd sz el t g fm hm so si sh ce ca td wa kp la (lsF (bst t m (qN t) (2 ^ qN t))) oo bo pw ow tr)) at_X6_rules_89 rfl rfl (Nat.le_of_ble_eq_true rfl) rfl (ab_rvOf w65 rfl) (Ev.vi ec (m_intAt (q := 2 * v) hj (by omega) l_ce hce)) (by decide) rfl ?_
              refine E_istore (L2 := [some (.ref 65), some (.int (nI j)), some (.int (nI n)), some (.int (nI 0)), some (.int (nI 3)), some (.int (nI v)), some (.int (nI c)), x7]) at_X6_rules_92 rfl ?_
              refine E_aload_n at_X6_rules_94 rfl ?_
              refine E_iload_n at_X6_rules_95 rfl ?_
              refine E_iconst (x := nI 2) at_X6_rules_96 (by decide) ?_
              refine E_iload at_X6_rules_97 rfl ?_
              refine E_imul (z := nI (2 * v)) at_X6_rules_99 (pk_mul _ _) ?_
              refine E_iconst (x := nI 1) at_X6_rules_100 (by decide) ?_
              refine E_iadd (z := nI ((2 * v) + 1)) at_X6_rules_101 (nI_add _ _) ?_
              refine E_callV (v := some (.int (tw (el j) (2 * v + 1)))) (As := [.ref 65, .int (nI j), .int (nI ((2 * v) + 1))]) (r0 := []) (cs2 := (ww im lf s d k ls rf rz ra rn rq lt m1 m2 m3 m4 bd fc hd sz el t g fm hm so si sh ce ca td wa kp la (lsF (bst t m (qN t) (2 ^ qN t))) oo bo pw ow tr)) at_X6_rules_102 rfl rfl (Nat.le_of_ble_eq_true rfl) rfl (ab_rvOf w65 rfl) (m_intAt (q := (2 * v) + 1) hj (by omega) l_ce hce) (by decide) rfl ?_
              refine E_istore (L2 := [some (.ref 65), some (.int (nI j)), some (.int (nI n)), some (.int (nI 0)), some (.int (nI 3)), some (.int (nI v)), some (.int (nI c)), some (.int (tw (el j) (2 * v + 1)))]) at_X6_rules_105 rfl ?_
              refine E_aload_n at_X6_rules_107 rfl ?_
              refine E_getfield (v := .ref 89) at_X6_rules_108 w65 rfl (by decide) rfl ?_
              refine E_iload at_X6_rules_111 rfl ?_
              refine E_ialI (l := (lsF (bst t m (qN t) (2 ^ qN t)))) (v := qE (bst t m (qN t) (2 ^ qN t) c)) at_X6_rules_113 w89 (by omega) (by omega) (lsF_get (by omega)) ?_
              refine E_iload at_X6_rules_114 rfl ?_
              refine E_ic (t := 125) (b := true) at_X6_rules_116 rfl ((cn_eq rfl rfl).trans (decide_eq_true (by omega))) ?_
              refine E_aload_n at_X6_rules_125 rfl ?_
              refine E_iload at_X6_rules_126 rfl ?_
              refine E_callV (v := some (.int (qE (qGreedy t c)))) (As := [.ref 65, .int (nI c)]) (r0 := []) (cs2 := (ww im lf s d k ls rf rz ra rn rq lt m1 m2 m3 m4 bd fc hd sz el t g fm hm so si sh ce ca td wa kp la (lsF (bst t m (qN t) (2 ^ qN t))) oo bo pw ow tr)) at_X6_rules_128 rfl rfl (Nat.le_of_ble_eq_true rfl) rfl (ab_rvOf w65 rfl) (mo_greedyFor w_m I (by omega)) (by decide) rfl ?_
              refine E_iload at_X6_rules_131 rfl ?_
              refine E_ic (t := 142) (b := false) at_X6_rules_133 rfl ((cn_eq rfl rfl).trans (decide_eq_false (by omega))) ?_
              refine E_iload at_X6_rules_136 rfl ?_
              refine E_iconst (x := nI 1) at_X6_rules_138 (by decide) ?_
              refine E_iand (z := nI 1) at_X6_rules_139 (by decide) ?_
              refine E_istore (L2 := [some (.ref 65), some (.int (nI j)), some (.int (nI n)), some (.int (nI 0)), some (.int (nI 1)), some (.int (nI v)), some (.int (nI c)), some (.int (tw (el j) (2 * v + 1)))]) at_X6_rules_140 rfl ?_
              refine E_iinc (y := nI (v + 1)) (L2 := [some (.ref 65), some (.int (nI j)), some (.int (nI n)), some (.int (nI 0)), some (.int (nI 1)), some (.int (nI (v + 1))), some (.int (nI c)), some (.int (tw (el j) (2 * v + 1)))]) at_X6_rules_142 rfl (nI_1 _) rfl ?_
              refine E_goto (t := 77) at_X6_rules_145 rfl ?_
              have X := ih (v + 1) (some (.int (nI c))) (some (.int (tw (el j) (2 * v + 1)))) (by omega)
              rw [qq1, qq2] at X
              exact X
          · by_cases f4 : ((qE (qGreedy t c)).toInt) = ((tw (el j) (2 * v + 1)).toInt)
            · rw [hrp, hrq]
              have w9 : 2 ^ qN t ≤ 2 ^ 9 := Nat.pow_le_pow_right (by decide) (by omega)
              have := lsF_len (bst t m (qN t) (2 ^ qN t))
              have qq1 : ruF (ruP (bst t m (qN t) (2 ^ qN t)) (el j)) (v + 1) = 0 := ruF_f (ruP_f (f := bst t m (qN t) (2 ^ qN t)) (x := qE (bst t m (qN t) (2 ^ qN t) c)) (by omega) ec rfl (by omega))
              have qq2 : ruF (ruP (qGreedy t) (el j)) (v + 1) = 1 := (ruF_t (ruP_t (f := qGreedy t) (x := qE (qGreedy t c)) (by omega) ec rfl (by omega))).trans hrq
              refine E_iload at_X6_rules_77 rfl ?_
              refine E_iload_n at_X6_rules_79 rfl ?_
              refine E_ic (t := 148) (b := false) at_X6_rules_80 rfl ((cn_ge (nI_toInt (by omega)) (nI_toInt (by omega))).trans (decide_eq_false (by omega))) ?_
              refine E_aload_n at_X6_rules_83 rfl ?_
              refine E_iload_n at_X6_rules_84 rfl ?_
              refine E_iconst (x := nI 2) at_X6_rules_85 (by decide) ?_
              refine E_iload at_X6_rules_86 rfl ?_
              refine E_imul (z := nI (2 * v)) at_X6_rules_88 (pk_mul _ _) ?_
              refine E_callV (v := some (.int (nI c))) (As := [.ref 65, .int (nI j), .int (nI (2 * v))]) (r0 := []) (cs2 := (ww im lf s d k ls rf rz ra rn rq lt m1 m2 m3 m4 bd fc hd sz el t g fm hm so si sh ce ca td wa kp la (lsF (bst t m (qN t) (2 ^ qN t))) oo bo pw ow tr)) at_X6_rules_89 rfl rfl (Nat.le_of_ble_eq_true rfl) rfl (ab_rvOf w65 rfl) (Ev.vi ec (m_intAt (q := 2 * v) hj (by omega) l_ce hce)) (by decide) rfl ?_
              refine E_istore (L2 := [some (.ref 65), some (.int (nI j)), some (.int (nI n)), some (.int (nI 0)), some (.int (nI 3)), some (.int (nI v)), some (.int (nI c)), x7]) at_X6_rules_92 rfl ?_
              refine E_aload_n at_X6_rules_94 rfl ?_
              refine E_iload_n at_X6_rules_95 rfl ?_
              refine E_iconst (x := nI 2) at_X6_rules_96 (by decide) ?_
              refine E_iload at_X6_rules_97 rfl ?_
              refine E_imul (z := nI (2 * v)) at_X6_rules_99 (pk_mul _ _) ?_
              refine E_iconst (x := nI 1) at_X6_rules_100 (by decide) ?_
              refine E_iadd (z := nI ((2 * v) + 1)) at_X6_rules_101 (nI_add _ _) ?_
              refine E_callV (v := some (.int (tw (el j) (2 * v + 1)))) (As := [.ref 65, .int (nI j), .int (nI ((2 * v) + 1))]) (r0 := []) (cs2 := (ww im lf s d k ls rf rz ra rn rq lt m1 m2 m3 m4 bd fc hd sz el t g fm hm so si sh ce ca td wa kp la (lsF (bst t m (qN t) (2 ^ qN t))) oo bo pw ow tr)) at_X6_rules_102 rfl rfl (Nat.le_of_ble_eq_true rfl) rfl (ab_rvOf w65 rfl) (m_intAt (q := (2 * v) + 1) hj (by omega) l_ce hce) (by decide) rfl ?_
              refine E_istore (L2 := [some (.ref 65), some (.int (nI j)), some (.int (nI n)), some (.int (nI 0)), some (.int (nI 3)), some (.int (nI v)), some (.int (nI c)), some (.int (tw (el j) (2 * v + 1)))]) at_X6_rules_105 rfl ?_
              refine E_aload_n at_X6_rules_107 rfl ?_
              refine E_getfield (v := .ref 89) at_X6_rules_108 w65 rfl (by decide) rfl ?_
              refine E_iload at_X6_rules_111 rfl ?_
              refine E_ialI (l := (lsF (bst t m (qN t) (2 ^ qN t)))) (v := qE (bst t m (qN t) (2 ^ qN t) c)) at_X6_rules_113 w89 (by omega) (by omega) (lsF_get (by omega)) ?_
              refine E_iload at_X6_rules_114 rfl ?_
              refine E_ic (t := 125) (b := false) at_X6_rules_116 rfl ((cn_eq rfl rfl).trans (decide_eq_false (by omega))) ?_
              refine E_iload at_X6_rules_119 rfl ?_
              refine E_iconst (x := nI 2) at_X6_rules_121 (by decide) ?_
              refine E_iand (z := nI 2) at_X6_rules_122 (by decide) ?_
              refine E_istore (L2 := [some (.ref 65), some (.int (nI j)), some (.int (nI n)), some (.int (nI 0)), some (.int (nI 2)), some (.int (nI v)), some (.int (nI c)), some (.int (tw (el j) (2 * v + 1)))]) at_X6_rules_123 rfl ?_
              refine E_aload_n at_X6_rules_125 rfl ?_
              refine E_iload at_X6_rules_126 rfl ?_
              refine E_callV (v := some (.int (qE (qGreedy t c)))) (As := [.ref 65, .int (nI c)]) (r0 := []) (cs2 := (ww im lf s d k ls rf rz ra rn rq lt m1 m2 m3 m4 bd fc hd sz el t g fm hm so si sh ce ca td wa kp la (lsF (bst t m (qN t) (2 ^ qN t))) oo bo pw ow tr)) at_X6_rules_128 rfl rfl (Nat.le_of_ble_eq_true rfl) rfl (ab_rvOf w65 rfl) (mo_greedyFor w_m I (by omega)) (by decide) rfl ?_
              refine E_iload at_X6_rules_131 rfl ?_
              refine E_ic (t := 142) (b := true) at_X6_rules_133 rfl ((cn_eq rfl rfl).trans (decide_eq_true (by omega))) ?_
              refine E_iinc (y := nI (v + 1)) (L2 := [some (.ref 65), some (.int (nI j)), some (.int (nI n)), some (.int (nI 0)), some (.int (nI 2)), some (.int (nI (v + 1))), some (.int (nI c)), some (.int (tw (el j) (2 * v + 1)))]) at_X6_rules_142 rfl (nI_1 _) rfl ?_
              refine E_goto (t := 77) at_X6_rules_145 rfl ?_
              have X := ih (v + 1) (some (.int (nI c))) (some (.int (tw (el j) (2 * v + 1)))) (by omega)
              rw [qq1, qq2] at X
              exact X
            · rw [hrp, hrq]
              have w9 : 2 ^ qN t ≤ 2 ^ 9 := Nat.pow_le_pow_right (by decide) (by omega)
              have := lsF_len (bst t m (qN t) (2 ^ qN t))
              have qq1 : ruF (ruP (bst t m (qN t) (2 ^ qN t)) (el j)) (v + 1) = 0 := ruF_f (ruP_f (f := bst t m (qN t) (2 ^ qN t)) (x := qE (bst t m (qN t) (2 ^ qN t) c)) (by omega) ec rfl (by omega))
              have qq2 : ruF (ruP (qGreedy t) (el j)) (v + 1) = 0 := ruF_f (ruP_f (f := qGreedy t) (x := qE (qGreedy t c)) (by omega) ec rfl (by omega))
              refine E_iload at_X6_rules_77 rfl ?_
              refine E_iload_n at_X6_rules_79 rfl ?_
              refine E_ic (t := 148) (b := false) at_X6_rules_80 rfl ((cn_ge (nI_toInt (by omega)) (nI_toInt (by omega))).trans (decide_eq_false (by omega))) ?_
              refine E_aload_n at_X6_rules_83 rfl ?_
              refine E_iload_n at_X6_rules_84 rfl ?_
              refine E_iconst (x := nI 2) at_X6_rules_85 (by decide) ?_
              refine E_iload at_X6_rules_86 rfl ?_
              refine E_imul (z := nI (2 * v)) at_X6_rules_88 (pk_mul _ _) ?_
              refine E_callV (v := some (.int (nI c))) (As := [.ref 65, .int (nI j), .int (nI (2 * v))]) (r0 := []) (cs2 := (ww im lf s d k ls rf rz ra rn rq lt m1 m2 m3 m4 bd fc hd sz el t g fm hm so si sh ce ca td wa kp la (lsF (bst t m (qN t) (2 ^ qN t))) oo bo pw ow tr)) at_X6_rules_89 rfl rfl (Nat.le_of_ble_eq_true rfl) rfl (ab_rvOf w65 rfl) (Ev.vi ec (m_intAt (q := 2 * v) hj (by omega) l_ce hce)) (by decide) rfl ?_
              refine E_istore (L2 := [some (.ref 65), some (.int (nI j)), some (.int (nI n)), some (.int (nI 0)), some (.int (nI 3)), some (.int (nI v)), some (.int (nI c)), x7]) at_X6_rules_92 rfl ?_
              refine E_aload_n at_X6_rules_94 rfl ?_
              refine E_iload_n at_X6_rules_95 rfl ?_
              refine E_iconst (x := nI 2) at_X6_rules_96 (by decide) ?_
              refine E_iload at_X6_rules_97 rfl ?_
              refine E_imul (z := nI (2 * v)) at_X6_rules_99 (pk_mul _ _) ?_
              refine E_iconst (x := nI 1) at_X6_rules_100 (by decide) ?_
              refine E_iadd (z := nI ((2 * v) + 1)) at_X6_rules_101 (nI_add _ _) ?_
              refine E_callV (v := some (.int (tw (el j) (2 * v + 1)))) (As := [.ref 65, .int (nI j), .int (nI ((2 * v) + 1))]) (r0 := []) (cs2 := (ww im lf s d k ls rf rz ra rn rq lt m1 m2 m3 m4 bd fc hd sz el t g fm hm so si sh ce ca td wa kp la (lsF (bst t m (qN t) (2 ^ qN t))) oo bo pw ow tr)) at_X6_rules_102 rfl rfl (Nat.le_of_ble_eq_true rfl) rfl (ab_rvOf w65 rfl) (m_intAt (q := (2 * v) + 1) hj (by omega) l_ce hce) (by decide) rfl ?_
              refine E_istore (L2 := [some (.ref 65), some (.int (nI j)), some (.int (nI n)), some (.int (nI 0)), some (.int (nI 3)), some (.int (nI v)), some (.int (nI c)), some (.int (tw (el j) (2 * v + 1)))]) at_X6_rules_105 rfl ?_
              refine E_aload_n at_X6_rules_107 rfl ?_
              refine E_getfield (v := .ref 89) at_X6_rules_108 w65 rfl (by decide) rfl ?_
              refine E_iload at_X6_rules_111 rfl ?_
              refine E_ialI (l := (lsF (bst t m (qN t) (2 ^ qN t)))) (v := qE (bst t m (qN t) (2 ^ qN t) c)) at_X6_rules_113 w89 (by omega) (by omega) (lsF_get (by omega)) ?_
              refine E_iload at_X6_rules_114 rfl ?_
              refine E_ic (t := 125) (b := false) at_X6_rules_116 rfl ((cn_eq rfl rfl).trans (decide_eq_false (by omega))) ?_
              refine E_iload at_X6_rules_119 rfl ?_
              refine E_iconst (x := nI 2) at_X6_rules_121 (by decide) ?_
              refine E_iand (z := nI 2) at_X6_rules_122 (by decide) ?_
              refine E_istore (L2 := [some (.ref 65), some (.int (nI j)), some (.int (nI n)), some (.int (nI 0)), some (.int (nI 2)), some (.int (nI v)), some (.int (nI c)), some (.int (tw (el j) (2 * v + 1)))]) at_X6_rules_123 rfl ?_
              refine E_aload_n at_X6_rules_125 rfl ?_
              refine E_iload at_X6_rules_126 rfl ?_
              refine E_callV (v := some (.int (qE (qGreedy t c)))) (As := [.ref 65, .int (nI c)]) (r0 := []) (cs2 := (ww im lf s d k ls rf rz ra rn rq lt m1 m2 m3 m4 bd fc hd sz el t g fm hm so si sh ce ca td wa kp la (lsF (bst t m (qN t) (2 ^ qN t))) oo bo pw ow tr)) at_X6_rules_128 rfl rfl (Nat.le_of_ble_eq_true rfl) rfl (ab_rvOf w65 rfl) (mo_greedyFor w_m I (by omega)) (by decide) rfl ?_
              refine E_iload at_X6_rules_131 rfl ?_
              refine E_ic (t := 142) (b := false) at_X6_rules_133 rfl ((cn_eq rfl rfl).trans (decide_eq_false (by omega))) ?_
              refine E_iload at_X6_rules_136 rfl ?_
              refine E_iconst (x := nI 1) at_X6_rules_138 (by decide) ?_
              refine E_iand (z := nI 0) at_X6_rules_139 (by decide) ?_
              refine E_istore (L2 := [some (.ref 65), some (.int (nI j)), some (.int (nI n)), some (.int (nI 0)), some (.int (nI 0)), some (.int (nI v)), some (.int (nI c)), some (.int (tw (el j) (2 * v + 1)))]) at_X6_rules_140 rfl ?_
              refine E_iinc (y := nI (v + 1)) (L2 := [some (.ref 65), some (.int (nI j)), some (.int (nI n)), some (.int (nI 0)), some (.int (nI 0)), some (.int (nI (v + 1))), some (.int (nI c)), some (.int (tw (el j) (2 * v + 1)))]) at_X6_rules_142 rfl (nI_1 _) rfl ?_
              refine E_goto (t := 77) at_X6_rules_145 rfl ?_
              have X := ih (v + 1) (some (.int (nI c))) (some (.int (tw (el j) (2 * v + 1)))) (by omega)
              rw [qq1, qq2] at X
              exact X
end RU
