/-! what prices tell of a cost; by program (wip/tools/mkcosts.py) -/
theorem qWn_C {s : ab_q} {l : List Nat} {w : Nat} : ∀ i, qWn (qs_C s l) w i = qWn s w i
  | 0 => rfl
  | i + 1 => by
    show qWn (qs_C s l) w i + _ = qWn s w i + _
    rw [qWn_C i]
    rfl
theorem qPr_C {s : ab_q} {l : List Nat} {p w u : Nat} (h : l.getD w 0 = u) : qPr (qs_C s l) p w = qPrc s p w u := by
  unfold qPr
  rw [show (qC (qs_C s l)).getD w 0 = u from h]
  unfold qPrc qOth
  rw [show qM (qs_C s l) = qM s from rfl, qWn_C]
  rfl
/-- all told prices from the v-th on are these: 1, 0 -/
def coQ (f : Nat → Nat) (e : List Int64) : Nat → Nat → Nat
  | 0, _ => 1
  | n + 1, v => if nI (f (tw e (2 * v)).toNatClampNeg) = tw e (2 * v + 1) then coQ f e n (v + 1) else 0
theorem coQ_t {f : Nat → Nat} {e : List Int64} {n v c : Nat} (hc : c < 2 ^ 31) (ec : tw e (2 * v) = nI c) (hf : f c < 2 ^ 31) (h : (f c : Int) = (tw e (2 * v + 1)).toInt) : coQ f e (n + 1) v = coQ f e n (v + 1) := by
  refine if_pos ?_
  rw [ec, nI_clamp hc]
  exact Int32.toInt_inj.mp ((nI_toInt hf).trans h)
theorem coQ_f {f : Nat → Nat} {e : List Int64} {n v c : Nat} (hc : c < 2 ^ 31) (ec : tw e (2 * v) = nI c) (hf : f c < 2 ^ 31) (h : ¬ (f c : Int) = (tw e (2 * v + 1)).toInt) : coQ f e (n + 1) v = 0 := by
  refine if_neg ?_
  rw [ec, nI_clamp hc]
  exact fun z => h ((nI_toInt hf).symm.trans (congrArg Int32.toInt z))
theorem coQ_01 (f : Nat → Nat) (e : List Int64) : ∀ n v, coQ f e n v = 0 ∨ coQ f e n v = 1
  | 0, _ => Or.inr rfl
  | n + 1, v => by
    show (if _ then _ else _ : Nat) = 0 ∨ (if _ then _ else _ : Nat) = 1
    split
    · exact coQ_01 f e n (v + 1)
    · exact Or.inl rfl
theorem coQ_co {f h : Nat → Nat} {e : List Int64} (x : ∀ p, f p = h p) (n v : Nat) : coQ f e n v = coQ h e n v := by
  rw [funext x]
def coN (P : Nat → Nat) : Nat → Nat
  | 0 => 0
  | i + 1 => if P (60 - i) = 0 then coN P i else coN P i + 1
def coL (P : Nat → Nat) : Nat → Nat
  | 0 => 0
  | i + 1 => if P (60 - i) = 0 then coL P i else 60 - i + 1
theorem coN_f {P : Nat → Nat} {i : Nat} (h : P (60 - i) = 0) : coN P (i + 1) = coN P i ∧ coL P (i + 1) = coL P i := ⟨if_pos h, if_pos h⟩
theorem coN_t {P : Nat → Nat} {i : Nat} (h : ¬ P (60 - i) = 0) : coN P (i + 1) = coN P i + 1 ∧ coL P (i + 1) = 60 - i + 1 := ⟨if_neg h, if_neg h⟩
theorem coN_in (P : Nat → Nat) : ∀ i, coN P i ≤ i
  | 0 => Nat.le_refl _
  | i + 1 => by
    have := coN_in P i
    show (if P (60 - i) = 0 then coN P i else coN P i + 1) ≤ i + 1
    split <;> omega
def coC (s : ab_q) (w : Nat) : Nat → List Nat
  | 0 => qC s
  | i + 1 => (qC s).set w (60 - i)
theorem coC_set (s : ab_q) (w x : Nat) : ∀ i, (coC s w i).set w x = (qC s).set w x
  | 0 => rfl
  | i + 1 => by
    show ((qC s).set w (60 - i)).set w x = _
    rw [List.set_set]
theorem coC_len (s : ab_q) (w : Nat) : ∀ i, (coC s w i).length = (qC s).length
  | 0 => rfl
  | i + 1 => List.length_set
theorem qs_CC {s : ab_q} {l m : List Nat} : qs_C (qs_C s l) m = qs_C s m := rfl
theorem qs_Cself {s : ab_q} : qs_C s (qC s) = s := rfl
theorem coC_self {s : ab_q} {w : Nat} (h : w < (qC s).length) : (qC s).set w ((qC s).getD w 0) = qC s := by
  apply List.ext_getElem?
  intro i
  by_cases c : w = i
  · subst c
    rw [List.getElem?_set_self h, ab_gD (z := 0) h]
  · rw [List.getElem?_set_ne c]
section CO
variable {im : Int32} {lf : Int32} {s : ab_q} {d : ab_q} {k : ab_q} {ls : List Int32} {rf : Int32} {rz : Int32} {ra : Int32} {rn : Int32} {rq : ab_q} {lt : List Int32} {m1 : Int32} {m2 : Int32} {m3 : Int32} {m4 : Int32} {bd : List Int32} {fc : List Int32} {hd : Nat → Int32} {sz : Nat → Int32} {el : Nat → List Int64} {t : ab_q} {g : Nat → Int32} {fm : List Int32} {hm : List Nat} {so : List Nat} {si : List Nat} {sh : List Int32} {ce : List Int64} {ca : List Int64} {td : List Int32} {wa : List Int32} {kp : List Int32} {la : List Int32} {bf : List Int32} {oo : List Int32} {bo : List Int32} {pw : List Int32} {ow : List Int32} {tr : List Int32}
set_option maxHeartbeats 1000000 in
theorem th_cg {j n1 : Nat} (hj : j < 8) (hz : sz j = nI n1) (hn1 : n1 ≤ 160) (le : (el j).length = 160) {n : Nat} (hn : 2 * n ≤ n1) {b0 : Nat} (h6 : b0 ≤ 6) (hMs : qM s = b0) (hMt : qM t = b0) (ha : ∀ q, q < n → isB (el j) b0 q) : ∀ n0 v , v + n0 = n → Ef ab_Z0 4 mX5_areAllThere (2, [some (.ref 0), some (.ref (49 + 2 * j)), some (.int (nI n)), some (.int (nI v))], [], (ww im lf s d k ls rf rz ra rn rq lt m1 m2 m3 m4 bd fc hd sz el t g fm hm so si sh ce ca td wa kp la bf oo bo pw ow tr)) (some (.int (nI 1)), (ww im lf s d k ls rf rz ra rn rq lt m1 m2 m3 m4 bd fc hd sz el t g fm hm so si sh ce ca td wa kp la bf oo bo pw ow tr)) := by
  intro n0
  induction n0 with
  | zero =>
    intro v  hi
    have hi : v = n := by omega
    rw [hi]
    refine E_iload_n at_X5_areAllThere_2 rfl ?_
    refine E_iload_n at_X5_areAllThere_3 rfl ?_
    refine E_ic (t := 30) (b := true) at_X5_areAllThere_4 rfl ((cn_ge (nI_toInt (by omega)) (nI_toInt (by omega))).trans (decide_eq_true (by omega))) ?_
    refine E_iconst (x := nI 1) rfl (by decide) ?_
    exact E_iret rfl rfl
  | succ n0 ih =>
    intro v  hi
    obtain ⟨c, hc, ec⟩ := ha v (by omega)
    refine E_iload_n at_X5_areAllThere_2 rfl ?_
    refine E_iload_n at_X5_areAllThere_3 rfl ?_
    refine E_ic (t := 30) (b := false) at_X5_areAllThere_4 rfl ((cn_ge (nI_toInt (by omega)) (nI_toInt (by omega))).trans (decide_eq_false (by omega))) ?_
    refine E_aload_n at_X5_areAllThere_7 rfl ?_
    refine E_getfield (v := .ref 1) at_X5_areAllThere_8 w0 rfl (by decide) rfl ?_
    refine E_aload_n at_X5_areAllThere_11 rfl ?_
    refine E_iload_n at_X5_areAllThere_12 rfl ?_
    refine E_callV (v := some (.int (nI c))) (As := [.ref (49 + 2 * j), .int (nI v)]) (r0 := [.ref 1]) (cs2 := (ww im lf s d k ls rf rz ra rn rq lt m1 m2 m3 m4 bd fc hd sz el t g fm hm so si sh ce ca td wa kp la bf oo bo pw ow tr)) at_X5_areAllThere_13 rfl rfl (Nat.le_of_ble_eq_true rfl) rfl (ab_rvOf (w_shv (j := j) (by omega) rfl hz) rfl) (Ev.vi ec (w_first hj hz (x := v) (by omega) hn1 le)) (by decide) rfl ?_
    have e1 : Ev ab_Z0 1 51 [.ref 1, .int (nI c)] (ww im lf s d k ls rf rz ra rn rq lt m1 m2 m3 m4 bd fc hd sz el t g fm hm so si sh ce ca td wa kp la bf oo bo pw ow tr) (some (.int (nI 1)), (ww im lf s d k ls rf rz ra rn rq lt m1 m2 m3 m4 bd fc hd sz el t g fm hm so si sh ce ca td wa kp la bf oo bo pw ow tr)) := by
      refine Ef.in (md := mX4_isPerson) (L := [some (.ref 1), some (.int (nI c))]) rfl (Nat.le_of_ble_eq_true rfl) rfl ?_
      refine E_iload_n at_X4_isPerson_0 rfl ?_
      refine E_if (t := 16) (b := false) at_X4_isPerson_1 rfl ((cn_lt (nI_toInt (by omega)) (by decide : (0 : Int32).toInt = 0)).trans (decide_eq_false (by omega))) ?_
      refine E_iload_n at_X4_isPerson_4 rfl ?_
      refine E_aload_n at_X4_isPerson_5 rfl ?_
      refine E_getfield (v := .int (nI (qM s))) at_X4_isPerson_6 w1 rfl (by decide) rfl ?_
      refine E_ic (t := 16) (b := false) at_X4_isPerson_9 rfl ((cn_ge (nI_toInt (by omega)) (nI_toInt (by omega))).trans (decide_eq_false (by omega))) ?_
      refine E_iconst (x := nI 1) at_X4_isPerson_12 (by decide) ?_
      refine E_goto (t := 17) at_X4_isPerson_13 rfl ?_
      exact E_iret at_X4_isPerson_17 rfl
    refine E_callV (v := some (.int (nI 1))) (As := [.ref 1, .int (nI c)]) (r0 := []) (cs2 := (ww im lf s d k ls rf rz ra rn rq lt m1 m2 m3 m4 bd fc hd sz el t g fm hm so si sh ce ca td wa kp la bf oo bo pw ow tr)) at_X5_areAllThere_16 rfl rfl (Nat.le_of_ble_eq_true rfl) rfl (ab_rvOf w1 rfl) e1 (by decide) rfl ?_
    refine E_if (t := 24) (b := true) at_X5_areAllThere_19 rfl (by decide) ?_
    refine E_iinc (y := nI (v + 1)) (L2 := [some (.ref 0), some (.ref (49 + 2 * j)), some (.int (nI n)), some (.int (nI (v + 1)))]) rfl rfl (nI_1 _) rfl ?_
    refine E_goto (t := 2) rfl rfl ?_
    exact ih (v + 1) (by omega)
set_option maxHeartbeats 1000000 in
theorem th_cb {j n1 : Nat} (hj : j < 8) (hz : sz j = nI n1) (hn1 : n1 ≤ 160) (le : (el j).length = 160) {n : Nat} (hn : 2 * n ≤ n1) {b0 : Nat} (h6 : b0 ≤ 6) (hMs : qM s = b0) (hMt : qM t = b0) (l_fc : fc.length = 8) : ∀ n0 v , v + n0 = n → (∃ q, v ≤ q ∧ q < n ∧ ¬ isB (el j) b0 q) → Ef ab_Z0 4 mX5_areAllThere (2, [some (.ref 0), some (.ref (49 + 2 * j)), some (.int (nI n)), some (.int (nI v))], [], (ww im lf s d k ls rf rz ra rn rq lt m1 m2 m3 m4 bd fc hd sz el t g fm hm so si sh ce ca td wa kp la bf oo bo pw ow tr)) (some (.int (nI 0)), (ww im lf s d k ls rf rz ra rn rq lt m1 m2 m3 m4 bd fc hd sz el t g fm hm so si sh ce ca td wa kp la bf oo bo pw ow tr)) := by
  intro n0
  induction n0 with
  | zero =>
    intro v  hi hq
    obtain ⟨q, h1, h2, h3⟩ := hq
    omega
  | succ n0 ih =>
    intro v  hi hq
    rcases Classical.em (isB (el j) b0 v) with ⟨c, hc, ec⟩ | hna
    · refine E_iload_n at_X5_areAllThere_2 rfl ?_
      refine E_iload_n at_X5_areAllThere_3 rfl ?_
      refine E_ic (t := 30) (b := false) at_X5_areAllThere_4 rfl ((cn_ge (nI_toInt (by omega)) (nI_toInt (by omega))).trans (decide_eq_false (by omega))) ?_
      refine E_aload_n at_X5_areAllThere_7 rfl ?_
      refine E_getfield (v := .ref 1) at_X5_areAllThere_8 w0 rfl (by decide) rfl ?_
      refine E_aload_n at_X5_areAllThere_11 rfl ?_
      refine E_iload_n at_X5_areAllThere_12 rfl ?_
      refine E_callV (v := some (.int (nI c))) (As := [.ref (49 + 2 * j), .int (nI v)]) (r0 := [.ref 1]) (cs2 := (ww im lf s d k ls rf rz ra rn rq lt m1 m2 m3 m4 bd fc hd sz el t g fm hm so si sh ce ca td wa kp la bf oo bo pw ow tr)) at_X5_areAllThere_13 rfl rfl (Nat.le_of_ble_eq_true rfl) rfl (ab_rvOf (w_shv (j := j) (by omega) rfl hz) rfl) (Ev.vi ec (w_first hj hz (x := v) (by omega) hn1 le)) (by decide) rfl ?_
      have e1 : Ev ab_Z0 1 51 [.ref 1, .int (nI c)] (ww im lf s d k ls rf rz ra rn rq lt m1 m2 m3 m4 bd fc hd sz el t g fm hm so si sh ce ca td wa kp la bf oo bo pw ow tr) (some (.int (nI 1)), (ww im lf s d k ls rf rz ra rn rq lt m1 m2 m3 m4 bd fc hd sz el t g fm hm so si sh ce ca td wa kp la bf oo bo pw ow tr)) := by
        refine Ef.in (md := mX4_isPerson) (L := [some (.ref 1), some (.int (nI c))]) rfl (Nat.le_of_ble_eq_true rfl) rfl ?_
        refine E_iload_n at_X4_isPerson_0 rfl ?_
        refine E_if (t := 16) (b := false) at_X4_isPerson_1 rfl ((cn_lt (nI_toInt (by omega)) (by decide : (0 : Int32).toInt = 0)).trans (decide_eq_false (by omega))) ?_
        refine E_iload_n at_X4_isPerson_4 rfl ?_
        refine E_aload_n at_X4_isPerson_5 rfl ?_
        refine E_getfield (v := .int (nI (qM s))) at_X4_isPerson_6 w1 rfl (by decide) rfl ?_
        refine E_ic (t := 16) (b := false) at_X4_isPerson_9 rfl ((cn_ge (nI_toInt (by omega)) (nI_toInt (by omega))).trans (decide_eq_false (by omega))) ?_
        refine E_iconst (x := nI 1) at_X4_isPerson_12 (by decide) ?_
        refine E_goto (t := 17) at_X4_isPerson_13 rfl ?_
        exact E_iret at_X4_isPerson_17 rfl
      refine E_callV (v := some (.int (nI 1))) (As := [.ref 1, .int (nI c)]) (r0 := []) (cs2 := (ww im lf s d k ls rf rz ra rn rq lt m1 m2 m3 m4 bd fc hd sz el t g fm hm so si sh ce ca td wa kp la bf oo bo pw ow tr)) at_X5_areAllThere_16 rfl rfl (Nat.le_of_ble_eq_true rfl) rfl (ab_rvOf w1 rfl) e1 (by decide) rfl ?_
      refine E_if (t := 24) (b := true) at_X5_areAllThere_19 rfl (by decide) ?_
      refine E_iinc (y := nI (v + 1)) (L2 := [some (.ref 0), some (.ref (49 + 2 * j)), some (.int (nI n)), some (.int (nI (v + 1)))]) rfl rfl (nI_1 _) rfl ?_
      refine E_goto (t := 2) rfl rfl ?_
      exact ih (v + 1) (by omega) (isB_next hq ⟨c, hc, ec⟩)
    · rcases ab_int (tw (el j) (2 * v)) with ⟨c, hc, ec⟩ | hc
      · have hc2 : ¬ c < b0 := fun z => hna ⟨c, z, ec⟩
        refine E_iload_n at_X5_areAllThere_2 rfl ?_
        refine E_iload_n at_X5_areAllThere_3 rfl ?_
        refine E_ic (t := 30) (b := false) at_X5_areAllThere_4 rfl ((cn_ge (nI_toInt (by omega)) (nI_toInt (by omega))).trans (decide_eq_false (by omega))) ?_
        refine E_aload_n at_X5_areAllThere_7 rfl ?_
        refine E_getfield (v := .ref 1) at_X5_areAllThere_8 w0 rfl (by decide) rfl ?_
        refine E_aload_n at_X5_areAllThere_11 rfl ?_
        refine E_iload_n at_X5_areAllThere_12 rfl ?_
        refine E_callV (v := some (.int (nI c))) (As := [.ref (49 + 2 * j), .int (nI v)]) (r0 := [.ref 1]) (cs2 := (ww im lf s d k ls rf rz ra rn rq lt m1 m2 m3 m4 bd fc hd sz el t g fm hm so si sh ce ca td wa kp la bf oo bo pw ow tr)) at_X5_areAllThere_13 rfl rfl (Nat.le_of_ble_eq_true rfl) rfl (ab_rvOf (w_shv (j := j) (by omega) rfl hz) rfl) (Ev.vi ec (w_first hj hz (x := v) (by omega) hn1 le)) (by decide) rfl ?_
        have e1 : Ev ab_Z0 1 51 [.ref 1, .int (nI c)] (ww im lf s d k ls rf rz ra rn rq lt m1 m2 m3 m4 bd fc hd sz el t g fm hm so si sh ce ca td wa kp la bf oo bo pw ow tr) (some (.int (nI 0)), (ww im lf s d k ls rf rz ra rn rq lt m1 m2 m3 m4 bd fc hd sz el t g fm hm so si sh ce ca td wa kp la bf oo bo pw ow tr)) := by
          refine Ef.in (md := mX4_isPerson) (L := [some (.ref 1), some (.int (nI c))]) rfl (Nat.le_of_ble_eq_true rfl) rfl ?_
          refine E_iload_n at_X4_isPerson_0 rfl ?_
          refine E_if (t := 16) (b := false) at_X4_isPerson_1 rfl ((cn_lt (nI_toInt (by omega)) (by decide : (0 : Int32).toInt = 0)).trans (decide_eq_false (by omega))) ?_
          refine E_iload_n at_X4_isPerson_4 rfl ?_
          refine E_aload_n at_X4_isPerson_5 rfl ?_
          refine E_getfield (v := .int (nI (qM s))) at_X4_isPerson_6 w1 rfl (by decide) rfl ?_
          refine E_ic (t := 16) (b := true) at_X4_isPerson_9 rfl ((cn_ge (nI_toInt (by omega)) (nI_toInt (by omega))).trans (decide_eq_true (by omega))) ?_
          refine E_iconst (x := nI 0) at_X4_isPerson_16 (by decide) ?_
          exact E_iret at_X4_isPerson_17 rfl
        refine E_callV (v := some (.int (nI 0))) (As := [.ref 1, .int (nI c)]) (r0 := []) (cs2 := (ww im lf s d k ls rf rz ra rn rq lt m1 m2 m3 m4 bd fc hd sz el t g fm hm so si sh ce ca td wa kp la bf oo bo pw ow tr)) at_X5_areAllThere_16 rfl rfl (Nat.le_of_ble_eq_true rfl) rfl (ab_rvOf w1 rfl) e1 (by decide) rfl ?_
        refine E_if (t := 24) (b := false) at_X5_areAllThere_19 rfl (by decide) ?_
        refine E_iconst (x := nI 0) rfl (by decide) ?_
        exact E_iret rfl rfl
      · refine E_iload_n at_X5_areAllThere_2 rfl ?_
        refine E_iload_n at_X5_areAllThere_3 rfl ?_
        refine E_ic (t := 30) (b := false) at_X5_areAllThere_4 rfl ((cn_ge (nI_toInt (by omega)) (nI_toInt (by omega))).trans (decide_eq_false (by omega))) ?_
        refine E_aload_n at_X5_areAllThere_7 rfl ?_
        refine E_getfield (v := .ref 1) at_X5_areAllThere_8 w0 rfl (by decide) rfl ?_
        refine E_aload_n at_X5_areAllThere_11 rfl ?_
        refine E_iload_n at_X5_areAllThere_12 rfl ?_
        refine E_callV (v := some (.int (tw (el j) (2 * v)))) (As := [.ref (49 + 2 * j), .int (nI v)]) (r0 := [.ref 1]) (cs2 := (ww im lf s d k ls rf rz ra rn rq lt m1 m2 m3 m4 bd fc hd sz el t g fm hm so si sh ce ca td wa kp la bf oo bo pw ow tr)) at_X5_areAllThere_13 rfl rfl (Nat.le_of_ble_eq_true rfl) rfl (ab_rvOf (w_shv (j := j) (by omega) rfl hz) rfl) (w_first hj hz (x := v) (by omega) hn1 le) (by decide) rfl ?_
        have e1 : Ev ab_Z0 1 51 [.ref 1, .int (tw (el j) (2 * v))] (ww im lf s d k ls rf rz ra rn rq lt m1 m2 m3 m4 bd fc hd sz el t g fm hm so si sh ce ca td wa kp la bf oo bo pw ow tr) (some (.int (nI 0)), (ww im lf s d k ls rf rz ra rn rq lt m1 m2 m3 m4 bd fc hd sz el t g fm hm so si sh ce ca td wa kp la bf oo bo pw ow tr)) := by
          refine Ef.in (md := mX4_isPerson) (L := [some (.ref 1), some (.int (tw (el j) (2 * v)))]) rfl (Nat.le_of_ble_eq_true rfl) rfl ?_
          refine E_iload_n at_X4_isPerson_0 rfl ?_
          refine E_if (t := 16) (b := true) at_X4_isPerson_1 rfl ((cn_lt rfl (by decide : (0 : Int32).toInt = 0)).trans (decide_eq_true (by omega))) ?_
          refine E_iconst (x := nI 0) at_X4_isPerson_16 (by decide) ?_
          exact E_iret at_X4_isPerson_17 rfl
        refine E_callV (v := some (.int (nI 0))) (As := [.ref 1, .int (tw (el j) (2 * v))]) (r0 := []) (cs2 := (ww im lf s d k ls rf rz ra rn rq lt m1 m2 m3 m4 bd fc hd sz el t g fm hm so si sh ce ca td wa kp la bf oo bo pw ow tr)) at_X5_areAllThere_16 rfl rfl (Nat.le_of_ble_eq_true rfl) rfl (ab_rvOf w1 rfl) e1 (by decide) rfl ?_
        refine E_if (t := 24) (b := false) at_X5_areAllThere_19 rfl (by decide) ?_
        refine E_iconst (x := nI 0) rfl (by decide) ?_
        exact E_iret rfl rfl
set_option maxHeartbeats 1000000 in
theorem th_mg {j n1 : Nat} (hj : j < 8) (hz : sz j = nI n1) (hn1 : n1 ≤ 160) (le : (el j).length = 160) {n : Nat} (hn : 2 * n ≤ n1) {b0 w wh : Nat} (h6 : b0 ≤ 6) (hMs : qM s = b0) (hMt : qM t = b0) {x7 x8 x9 x10 x11 : Option Value} (l_ce : ce.length = 1280) (hce : ∀ q, q < 160 → (el j).getD q 0 = ce.getD (160 * j + q) 0) (ha : ∀ q, q < n → isB (el j) b0 q) {r : Option Value × List ab_C} (K : Ef ab_Z0 3 mX6_costs (80, [some (.ref 65), some (.int (nI j)), some (.int (nI n)), some (.int (nI w)), some (.int (nI wh)), some (.int (nI 0)), some (.int (nI n)), x7, x8, x9, x10, x11], [], (ww im lf s d k ls rf rz ra rn rq lt m1 m2 m3 m4 bd fc hd sz el t g fm hm so si sh ce ca td wa kp la bf oo bo pw ow tr)) r) : ∀ n0 v , v + n0 = n → Ef ab_Z0 3 mX6_costs (44, [some (.ref 65), some (.int (nI j)), some (.int (nI n)), some (.int (nI w)), some (.int (nI wh)), some (.int (nI 0)), some (.int (nI v)), x7, x8, x9, x10, x11], [], (ww im lf s d k ls rf rz ra rn rq lt m1 m2 m3 m4 bd fc hd sz el t g fm hm so si sh ce ca td wa kp la bf oo bo pw ow tr)) r := by
  intro n0
  induction n0 with
  | zero =>
    intro v  hi
    have hi : v = n := by omega
    rw [hi]
    refine E_iload at_X6_costs_44 rfl ?_
    refine E_iload_n at_X6_costs_46 rfl ?_
    refine E_ic (t := 80) (b := true) at_X6_costs_47 rfl ((cn_ge (nI_toInt (by omega)) (nI_toInt (by omega))).trans (decide_eq_true (by omega))) ?_
    exact K
  | succ n0 ih =>
    intro v  hi
    obtain ⟨c, hc, ec⟩ := ha v (by omega)
    refine E_iload at_X6_costs_44 rfl ?_
    refine E_iload_n at_X6_costs_46 rfl ?_
    refine E_ic (t := 80) (b := false) at_X6_costs_47 rfl ((cn_ge (nI_toInt (by omega)) (nI_toInt (by omega))).trans (decide_eq_false (by omega))) ?_
    refine E_iload at_X6_costs_50 rfl ?_
    refine E_if (t := 80) (b := false) at_X6_costs_52 rfl (by decide) ?_
    refine E_aload_n at_X6_costs_55 rfl ?_
    refine E_aload_n at_X6_costs_56 rfl ?_
    refine E_iload_n at_X6_costs_57 rfl ?_
    refine E_iconst (x := nI 2) at_X6_costs_58 (by decide) ?_
    refine E_iload at_X6_costs_59 rfl ?_
    refine E_imul (z := nI (2 * v)) at_X6_costs_61 (pk_mul _ _) ?_
    refine E_callV (v := some (.int (nI c))) (As := [.ref 65, .int (nI j), .int (nI (2 * v))]) (r0 := [.ref 65]) (cs2 := (ww im lf s d k ls rf rz ra rn rq lt m1 m2 m3 m4 bd fc hd sz el t g fm hm so si sh ce ca td wa kp la bf oo bo pw ow tr)) at_X6_costs_62 rfl rfl (Nat.le_of_ble_eq_true rfl) rfl (ab_rvOf w65 rfl) (Ev.vi ec (m_intAt (q := 2 * v) hj (by omega) l_ce hce)) (by decide) rfl ?_
    have e1 : Ev ab_Z0 1 133 [.ref 65, .int (nI c)] (ww im lf s d k ls rf rz ra rn rq lt m1 m2 m3 m4 bd fc hd sz el t g fm hm so si sh ce ca td wa kp la bf oo bo pw ow tr) (some (.int (nI 1)), (ww im lf s d k ls rf rz ra rn rq lt m1 m2 m3 m4 bd fc hd sz el t g fm hm so si sh ce ca td wa kp la bf oo bo pw ow tr)) := by
      refine Ef.in (md := mX6_isOne) (L := [some (.ref 65), some (.int (nI c))]) rfl (Nat.le_of_ble_eq_true rfl) rfl ?_
      refine E_iload_n at_X6_isOne_0 rfl ?_
      refine E_if (t := 16) (b := false) at_X6_isOne_1 rfl ((cn_lt (nI_toInt (by omega)) (by decide : (0 : Int32).toInt = 0)).trans (decide_eq_false (by omega))) ?_
      refine E_iload_n at_X6_isOne_4 rfl ?_
      refine E_aload_n at_X6_isOne_5 rfl ?_
      refine E_getfield (v := .int (nI (qM t))) at_X6_isOne_6 w65 rfl (by decide) rfl ?_
      refine E_ic (t := 16) (b := false) at_X6_isOne_9 rfl ((cn_ge (nI_toInt (by omega)) (nI_toInt (by omega))).trans (decide_eq_false (by omega))) ?_
      refine E_iconst (x := nI 1) at_X6_isOne_12 (by decide) ?_
      refine E_goto (t := 17) at_X6_isOne_13 rfl ?_
      exact E_iret at_X6_isOne_17 rfl
    refine E_callV (v := some (.int (nI 1))) (As := [.ref 65, .int (nI c)]) (r0 := []) (cs2 := (ww im lf s d k ls rf rz ra rn rq lt m1 m2 m3 m4 bd fc hd sz el t g fm hm so si sh ce ca td wa kp la bf oo bo pw ow tr)) at_X6_costs_65 rfl rfl (Nat.le_of_ble_eq_true rfl) rfl (ab_rvOf w65 rfl) e1 (by decide) rfl ?_
    refine E_if (t := 74) (b := true) at_X6_costs_68 rfl (by decide) ?_
    refine E_iinc (y := nI (v + 1)) (L2 := [some (.ref 65), some (.int (nI j)), some (.int (nI n)), some (.int (nI w)), some (.int (nI wh)), some (.int (nI 0)), some (.int (nI (v + 1))), x7, x8, x9, x10, x11]) at_X6_costs_74 rfl (nI_1 _) rfl ?_
    refine E_goto (t := 44) at_X6_costs_77 rfl ?_
    exact ih (v + 1) (by omega)
set_option maxHeartbeats 1000000 in
theorem th_mb {j n1 : Nat} (hj : j < 8) (hz : sz j = nI n1) (hn1 : n1 ≤ 160) (le : (el j).length = 160) {n : Nat} (hn : 2 * n ≤ n1) {b0 w wh : Nat} (h6 : b0 ≤ 6) (hMs : qM s = b0) (hMt : qM t = b0) {x7 x8 x9 x10 x11 : Option Value} (l_ce : ce.length = 1280) (hce : ∀ q, q < 160 → (el j).getD q 0 = ce.getD (160 * j + q) 0) {r : Option Value × List ab_C} (K : ∀ v : Nat, v < 2147483648 → Ef ab_Z0 3 mX6_costs (80, [some (.ref 65), some (.int (nI j)), some (.int (nI n)), some (.int (nI w)), some (.int (nI wh)), some (.int (-1)), some (.int (nI v)), x7, x8, x9, x10, x11], [], (ww im lf s d k ls rf rz ra rn rq lt m1 m2 m3 m4 bd fc hd sz el t g fm hm so si sh ce ca td wa kp la bf oo bo pw ow tr)) r) : ∀ n0 v , v + n0 = n → (∃ q, v ≤ q ∧ q < n ∧ ¬ isB (el j) b0 q) → Ef ab_Z0 3 mX6_costs (44, [some (.ref 65), some (.int (nI j)), some (.int (nI n)), some (.int (nI w)), some (.int (nI wh)), some (.int (nI 0)), some (.int (nI v)), x7, x8, x9, x10, x11], [], (ww im lf s d k ls rf rz ra rn rq lt m1 m2 m3 m4 bd fc hd sz el t g fm hm so si sh ce ca td wa kp la bf oo bo pw ow tr)) r := by
  intro n0
  induction n0 with
  | zero =>
    intro v  hi hq
    obtain ⟨q, h1, h2, h3⟩ := hq
    omega
  | succ n0 ih =>
    intro v  hi hq
    rcases Classical.em (isB (el j) b0 v) with ⟨c, hc, ec⟩ | hna
    · refine E_iload at_X6_costs_44 rfl ?_
      refine E_iload_n at_X6_costs_46 rfl ?_
      refine E_ic (t := 80) (b := false) at_X6_costs_47 rfl ((cn_ge (nI_toInt (by omega)) (nI_toInt (by omega))).trans (decide_eq_false (by omega))) ?_
      refine E_iload at_X6_costs_50 rfl ?_
      refine E_if (t := 80) (b := false) at_X6_costs_52 rfl (by decide) ?_
      refine E_aload_n at_X6_costs_55 rfl ?_
      refine E_aload_n at_X6_costs_56 rfl ?_
      refine E_iload_n at_X6_costs_57 rfl ?_
      refine E_iconst (x := nI 2) at_X6_costs_58 (by decide) ?_
      refine E_iload at_X6_costs_59 rfl ?_
      refine E_imul (z := nI (2 * v)) at_X6_costs_61 (pk_mul _ _) ?_
      refine E_callV (v := some (.int (nI c))) (As := [.ref 65, .int (nI j), .int (nI (2 * v))]) (r0 := [.ref 65]) (cs2 := (ww im lf s d k ls rf rz ra rn rq lt m1 m2 m3 m4 bd fc hd sz el t g fm hm so si sh ce ca td wa kp la bf oo bo pw ow tr)) at_X6_costs_62 rfl rfl (Nat.le_of_ble_eq_true rfl) rfl (ab_rvOf w65 rfl) (Ev.vi ec (m_intAt (q := 2 * v) hj (by omega) l_ce hce)) (by decide) rfl ?_
      have e1 : Ev ab_Z0 1 133 [.ref 65, .int (nI c)] (ww im lf s d k ls rf rz ra rn rq lt m1 m2 m3 m4 bd fc hd sz el t g fm hm so si sh ce ca td wa kp la bf oo bo pw ow tr) (some (.int (nI 1)), (ww im lf s d k ls rf rz ra rn rq lt m1 m2 m3 m4 bd fc hd sz el t g fm hm so si sh ce ca td wa kp la bf oo bo pw ow tr)) := by
        refine Ef.in (md := mX6_isOne) (L := [some (.ref 65), some (.int (nI c))]) rfl (Nat.le_of_ble_eq_true rfl) rfl ?_
        refine E_iload_n at_X6_isOne_0 rfl ?_
        refine E_if (t := 16) (b := false) at_X6_isOne_1 rfl ((cn_lt (nI_toInt (by omega)) (by decide : (0 : Int32).toInt = 0)).trans (decide_eq_false (by omega))) ?_
        refine E_iload_n at_X6_isOne_4 rfl ?_
        refine E_aload_n at_X6_isOne_5 rfl ?_
        refine E_getfield (v := .int (nI (qM t))) at_X6_isOne_6 w65 rfl (by decide) rfl ?_
        refine E_ic (t := 16) (b := false) at_X6_isOne_9 rfl ((cn_ge (nI_toInt (by omega)) (nI_toInt (by omega))).trans (decide_eq_false (by omega))) ?_
        refine E_iconst (x := nI 1) at_X6_isOne_12 (by decide) ?_
        refine E_goto (t := 17) at_X6_isOne_13 rfl ?_
        exact E_iret at_X6_isOne_17 rfl
      refine E_callV (v := some (.int (nI 1))) (As := [.ref 65, .int (nI c)]) (r0 := []) (cs2 := (ww im lf s d k ls rf rz ra rn rq lt m1 m2 m3 m4 bd fc hd sz el t g fm hm so si sh ce ca td wa kp la bf oo bo pw ow tr)) at_X6_costs_65 rfl rfl (Nat.le_of_ble_eq_true rfl) rfl (ab_rvOf w65 rfl) e1 (by decide) rfl ?_
      refine E_if (t := 74) (b := true) at_X6_costs_68 rfl (by decide) ?_
      refine E_iinc (y := nI (v + 1)) (L2 := [some (.ref 65), some (.int (nI j)), some (.int (nI n)), some (.int (nI w)), some (.int (nI wh)), some (.int (nI 0)), some (.int (nI (v + 1))), x7, x8, x9, x10, x11]) at_X6_costs_74 rfl (nI_1 _) rfl ?_
      refine E_goto (t := 44) at_X6_costs_77 rfl ?_
      exact ih (v + 1) (by omega) (isB_next hq ⟨c, hc, ec⟩)
    · rcases ab_int (tw (el j) (2 * v)) with ⟨c, hc, ec⟩ | hc
      · by_cases f2 : v + 1 < n
        · have hc2 : ¬ c < b0 := fun z => hna ⟨c, z, ec⟩
          refine E_iload at_X6_costs_44 rfl ?_
          refine E_iload_n at_X6_costs_46 rfl ?_
          refine E_ic (t := 80) (b := false) at_X6_costs_47 rfl ((cn_ge (nI_toInt (by omega)) (nI_toInt (by omega))).trans (decide_eq_false (by omega))) ?_
          refine E_iload at_X6_costs_50 rfl ?_
          refine E_if (t := 80) (b := false) at_X6_costs_52 rfl (by decide) ?_
          refine E_aload_n at_X6_costs_55 rfl ?_
          refine E_aload_n at_X6_costs_56 rfl ?_
          refine E_iload_n at_X6_costs_57 rfl ?_
          refine E_iconst (x := nI 2) at_X6_costs_58 (by decide) ?_
          refine E_iload at_X6_costs_59 rfl ?_
          refine E_imul (z := nI (2 * v)) at_X6_costs_61 (pk_mul _ _) ?_
          refine E_callV (v := some (.int (nI c))) (As := [.ref 65, .int (nI j), .int (nI (2 * v))]) (r0 := [.ref 65]) (cs2 := (ww im lf s d k ls rf rz ra rn rq lt m1 m2 m3 m4 bd fc hd sz el t g fm hm so si sh ce ca td wa kp la bf oo bo pw ow tr)) at_X6_costs_62 rfl rfl (Nat.le_of_ble_eq_true rfl) rfl (ab_rvOf w65 rfl) (Ev.vi ec (m_intAt (q := 2 * v) hj (by omega) l_ce hce)) (by decide) rfl ?_
          have e1 : Ev ab_Z0 1 133 [.ref 65, .int (nI c)] (ww im lf s d k ls rf rz ra rn rq lt m1 m2 m3 m4 bd fc hd sz el t g fm hm so si sh ce ca td wa kp la bf oo bo pw ow tr) (some (.int (nI 0)), (ww im lf s d k ls rf rz ra rn rq lt m1 m2 m3 m4 bd fc hd sz el t g fm hm so si sh ce ca td wa kp la bf oo bo pw ow tr)) := by
            refine Ef.in (md := mX6_isOne) (L := [some (.ref 65), some (.int (nI c))]) rfl (Nat.le_of_ble_eq_true rfl) rfl ?_
            refine E_iload_n at_X6_isOne_0 rfl ?_
            refine E_if (t := 16) (b := false) at_X6_isOne_1 rfl ((cn_lt (nI_toInt (by omega)) (by decide : (0 : Int32).toInt = 0)).trans (decide_eq_false (by omega))) ?_
            refine E_iload_n at_X6_isOne_4 rfl ?_
            refine E_aload_n at_X6_isOne_5 rfl ?_
            refine E_getfield (v := .int (nI (qM t))) at_X6_isOne_6 w65 rfl (by decide) rfl ?_
            refine E_ic (t := 16) (b := true) at_X6_isOne_9 rfl ((cn_ge (nI_toInt (by omega)) (nI_toInt (by omega))).trans (decide_eq_true (by omega))) ?_
            refine E_iconst (x := nI 0) at_X6_isOne_16 (by decide) ?_
            exact E_iret at_X6_isOne_17 rfl
          refine E_callV (v := some (.int (nI 0))) (As := [.ref 65, .int (nI c)]) (r0 := []) (cs2 := (ww im lf s d k ls rf rz ra rn rq lt m1 m2 m3 m4 bd fc hd sz el t g fm hm so si sh ce ca td wa kp la bf oo bo pw ow tr)) at_X6_costs_65 rfl rfl (Nat.le_of_ble_eq_true rfl) rfl (ab_rvOf w65 rfl) e1 (by decide) rfl ?_
          refine E_if (t := 74) (b := false) at_X6_costs_68 rfl (by decide) ?_
          refine E_iconst (x := (-1)) at_X6_costs_71 (by decide) ?_
          refine E_istore (L2 := [some (.ref 65), some (.int (nI j)), some (.int (nI n)), some (.int (nI w)), some (.int (nI wh)), some (.int (-1)), some (.int (nI v)), x7, x8, x9, x10, x11]) at_X6_costs_72 rfl ?_
          refine E_iinc (y := nI (v + 1)) (L2 := [some (.ref 65), some (.int (nI j)), some (.int (nI n)), some (.int (nI w)), some (.int (nI wh)), some (.int (-1)), some (.int (nI (v + 1))), x7, x8, x9, x10, x11]) at_X6_costs_74 rfl (nI_1 _) rfl ?_
          refine E_goto (t := 44) at_X6_costs_77 rfl ?_
          refine E_iload at_X6_costs_44 rfl ?_
          refine E_iload_n at_X6_costs_46 rfl ?_
          refine E_ic (t := 80) (b := false) at_X6_costs_47 rfl ((cn_ge (nI_toInt (by omega)) (nI_toInt (by omega))).trans (decide_eq_false (by omega))) ?_
          refine E_iload at_X6_costs_50 rfl ?_
          refine E_if (t := 80) (b := true) at_X6_costs_52 rfl (by decide) ?_
          exact K _ (by omega)
        · have hc2 : ¬ c < b0 := fun z => hna ⟨c, z, ec⟩
          refine E_iload at_X6_costs_44 rfl ?_
          refine E_iload_n at_X6_costs_46 rfl ?_
          refine E_ic (t := 80) (b := false) at_X6_costs_47 rfl ((cn_ge (nI_toInt (by omega)) (nI_toInt (by omega))).trans (decide_eq_false (by omega))) ?_
          refine E_iload at_X6_costs_50 rfl ?_
          refine E_if (t := 80) (b := false) at_X6_costs_52 rfl (by decide) ?_
          refine E_aload_n at_X6_costs_55 rfl ?_
          refine E_aload_n at_X6_costs_56 rfl ?_
          refine E_iload_n at_X6_costs_57 rfl ?_
          refine E_iconst (x := nI 2) at_X6_costs_58 (by decide) ?_
          refine E_iload at_X6_costs_59 rfl ?_
          refine E_imul (z := nI (2 * v)) at_X6_costs_61 (pk_mul _ _) ?_
          refine E_callV (v := some (.int (nI c))) (As := [.ref 65, .int (nI j), .int (nI (2 * v))]) (r0 := [.ref 65]) (cs2 := (ww im lf s d k ls rf rz ra rn rq lt m1 m2 m3 m4 bd fc hd sz el t g fm hm so si sh ce ca td wa kp la bf oo bo pw ow tr)) at_X6_costs_62 rfl rfl (Nat.le_of_ble_eq_true rfl) rfl (ab_rvOf w65 rfl) (Ev.vi ec (m_intAt (q := 2 * v) hj (by omega) l_ce hce)) (by decide) rfl ?_
          have e1 : Ev ab_Z0 1 133 [.ref 65, .int (nI c)] (ww im lf s d k ls rf rz ra rn rq lt m1 m2 m3 m4 bd fc hd sz el t g fm hm so si sh ce ca td wa kp la bf oo bo pw ow tr) (some (.int (nI 0)), (ww im lf s d k ls rf rz ra rn rq lt m1 m2 m3 m4 bd fc hd sz el t g fm hm so si sh ce ca td wa kp la bf oo bo pw ow tr)) := by
            refine Ef.in (md := mX6_isOne) (L := [some (.ref 65), some (.int (nI c))]) rfl (Nat.le_of_ble_eq_true rfl) rfl ?_
            refine E_iload_n at_X6_isOne_0 rfl ?_
            refine E_if (t := 16) (b := false) at_X6_isOne_1 rfl ((cn_lt (nI_toInt (by omega)) (by decide : (0 : Int32).toInt = 0)).trans (decide_eq_false (by omega))) ?_
            refine E_iload_n at_X6_isOne_4 rfl ?_
            refine E_aload_n at_X6_isOne_5 rfl ?_
            refine E_getfield (v := .int (nI (qM t))) at_X6_isOne_6 w65 rfl (by decide) rfl ?_
            refine E_ic (t := 16) (b := true) at_X6_isOne_9 rfl ((cn_ge (nI_toInt (by omega)) (nI_toInt (by omega))).trans (decide_eq_true (by omega))) ?_
            refine E_iconst (x := nI 0) at_X6_isOne_16 (by decide) ?_
            exact E_iret at_X6_isOne_17 rfl
          refine E_callV (v := some (.int (nI 0))) (As := [.ref 65, .int (nI c)]) (r0 := []) (cs2 := (ww im lf s d k ls rf rz ra rn rq lt m1 m2 m3 m4 bd fc hd sz el t g fm hm so si sh ce ca td wa kp la bf oo bo pw ow tr)) at_X6_costs_65 rfl rfl (Nat.le_of_ble_eq_true rfl) rfl (ab_rvOf w65 rfl) e1 (by decide) rfl ?_
          refine E_if (t := 74) (b := false) at_X6_costs_68 rfl (by decide) ?_
          refine E_iconst (x := (-1)) at_X6_costs_71 (by decide) ?_
          refine E_istore (L2 := [some (.ref 65), some (.int (nI j)), some (.int (nI n)), some (.int (nI w)), some (.int (nI wh)), some (.int (-1)), some (.int (nI v)), x7, x8, x9, x10, x11]) at_X6_costs_72 rfl ?_
          refine E_iinc (y := nI (v + 1)) (L2 := [some (.ref 65), some (.int (nI j)), some (.int (nI n)), some (.int (nI w)), some (.int (nI wh)), some (.int (-1)), some (.int (nI (v + 1))), x7, x8, x9, x10, x11]) at_X6_costs_74 rfl (nI_1 _) rfl ?_
          refine E_goto (t := 44) at_X6_costs_77 rfl ?_
          refine E_iload at_X6_costs_44 rfl ?_
          refine E_iload_n at_X6_costs_46 rfl ?_
          refine E_ic (t := 80) (b := true) at_X6_costs_47 rfl ((cn_ge (nI_toInt (by omega)) (nI_toInt (by omega))).trans (decide_eq_true (by omega))) ?_
          exact K _ (by omega)
      · by_cases f2 : v + 1 < n
        · refine E_iload at_X6_costs_44 rfl ?_
          refine E_iload_n at_X6_costs_46 rfl ?_
          refine E_ic (t := 80) (b := false) at_X6_costs_47 rfl ((cn_ge (nI_toInt (by omega)) (nI_toInt (by omega))).trans (decide_eq_false (by omega))) ?_
          refine E_iload at_X6_costs_50 rfl ?_
          refine E_if (t := 80) (b := false) at_X6_costs_52 rfl (by decide) ?_
          refine E_aload_n at_X6_costs_55 rfl ?_
          refine E_aload_n at_X6_costs_56 rfl ?_
          refine E_iload_n at_X6_costs_57 rfl ?_
          refine E_iconst (x := nI 2) at_X6_costs_58 (by decide) ?_
          refine E_iload at_X6_costs_59 rfl ?_
          refine E_imul (z := nI (2 * v)) at_X6_costs_61 (pk_mul _ _) ?_
          refine E_callV (v := some (.int (tw (el j) (2 * v)))) (As := [.ref 65, .int (nI j), .int (nI (2 * v))]) (r0 := [.ref 65]) (cs2 := (ww im lf s d k ls rf rz ra rn rq lt m1 m2 m3 m4 bd fc hd sz el t g fm hm so si sh ce ca td wa kp la bf oo bo pw ow tr)) at_X6_costs_62 rfl rfl (Nat.le_of_ble_eq_true rfl) rfl (ab_rvOf w65 rfl) (m_intAt (q := 2 * v) hj (by omega) l_ce hce) (by decide) rfl ?_
          have e1 : Ev ab_Z0 1 133 [.ref 65, .int (tw (el j) (2 * v))] (ww im lf s d k ls rf rz ra rn rq lt m1 m2 m3 m4 bd fc hd sz el t g fm hm so si sh ce ca td wa kp la bf oo bo pw ow tr) (some (.int (nI 0)), (ww im lf s d k ls rf rz ra rn rq lt m1 m2 m3 m4 bd fc hd sz el t g fm hm so si sh ce ca td wa kp la bf oo bo pw ow tr)) := by
            refine Ef.in (md := mX6_isOne) (L := [some (.ref 65), some (.int (tw (el j) (2 * v)))]) rfl (Nat.le_of_ble_eq_true rfl) rfl ?_
            refine E_iload_n at_X6_isOne_0 rfl ?_
            refine E_if (t := 16) (b := true) at_X6_isOne_1 rfl ((cn_lt rfl (by decide : (0 : Int32).toInt = 0)).trans (decide_eq_true (by omega))) ?_
            refine E_iconst (x := nI 0) at_X6_isOne_16 (by decide) ?_
            exact E_iret at_X6_isOne_17 rfl
          refine E_callV (v := some (.int (nI 0))) (As := [.ref 65, .int (tw (el j) (2 * v))]) (r0 := []) (cs2 := (ww im lf s d k ls rf rz ra rn rq lt m1 m2 m3 m4 bd fc hd sz el t g fm hm so si sh ce ca td wa kp la bf oo bo pw ow tr)) at_X6_costs_65 rfl rfl (Nat.le_of_ble_eq_true rfl) rfl (ab_rvOf w65 rfl) e1 (by decide) rfl ?_
          refine E_if (t := 74) (b := false) at_X6_costs_68 rfl (by decide) ?_
          refine E_iconst (x := (-1)) at_X6_costs_71 (by decide) ?_
          refine E_istore (L2 := [some (.ref 65), some (.int (nI j)), some (.int (nI n)), some (.int (nI w)), some (.int (nI wh)), some (.int (-1)), some (.int (nI v)), x7, x8, x9, x10, x11]) at_X6_costs_72 rfl ?_
          refine E_iinc (y := nI (v + 1)) (L2 := [some (.ref 65), some (.int (nI j)), some (.int (nI n)), some (.int (nI w)), some (.int (nI wh)), some (.int (-1)), some (.int (nI (v + 1))), x7, x8, x9, x10, x11]) at_X6_costs_74 rfl (nI_1 _) rfl ?_
          refine E_goto (t := 44) at_X6_costs_77 rfl ?_
          refine E_iload at_X6_costs_44 rfl ?_
          refine E_iload_n at_X6_costs_46 rfl ?_
          refine E_ic (t := 80) (b := false) at_X6_costs_47 rfl ((cn_ge (nI_toInt (by omega)) (nI_toInt (by omega))).trans (decide_eq_false (by omega))) ?_
          refine E_iload at_X6_costs_50 rfl ?_
          refine E_if (t := 80) (b := true) at_X6_costs_52 rfl (by decide) ?_
          exact K _ (by omega)
        · refine E_iload at_X6_costs_44 rfl ?_
          refine E_iload_n at_X6_costs_46 rfl ?_
          refine E_ic (t := 80) (b := false) at_X6_costs_47 rfl ((cn_ge (nI_toInt (by omega)) (nI_toInt (by omega))).trans (decide_eq_false (by omega))) ?_
          refine E_iload at_X6_costs_50 rfl ?_
          refine E_if (t := 80) (b := false) at_X6_costs_52 rfl (by decide) ?_
          refine E_aload_n at_X6_costs_55 rfl ?_
          refine E_aload_n at_X6_costs_56 rfl ?_
          refine E_iload_n at_X6_costs_57 rfl ?_
          refine E_iconst (x := nI 2) at_X6_costs_58 (by decide) ?_
          refine E_iload at_X6_costs_59 rfl ?_
          refine E_imul (z := nI (2 * v)) at_X6_costs_61 (pk_mul _ _) ?_
          refine E_callV (v := some (.int (tw (el j) (2 * v)))) (As := [.ref 65, .int (nI j), .int (nI (2 * v))]) (r0 := [.ref 65]) (cs2 := (ww im lf s d k ls rf rz ra rn rq lt m1 m2 m3 m4 bd fc hd sz el t g fm hm so si sh ce ca td wa kp la bf oo bo pw ow tr)) at_X6_costs_62 rfl rfl (Nat.le_of_ble_eq_true rfl) rfl (ab_rvOf w65 rfl) (m_intAt (q := 2 * v) hj (by omega) l_ce hce) (by decide) rfl ?_
          have e1 : Ev ab_Z0 1 133 [.ref 65, .int (tw (el j) (2 * v))] (ww im lf s d k ls rf rz ra rn rq lt m1 m2 m3 m4 bd fc hd sz el t g fm hm so si sh ce ca td wa kp la bf oo bo pw ow tr) (some (.int (nI 0)), (ww im lf s d k ls rf rz ra rn rq lt m1 m2 m3 m4 bd fc hd sz el t g fm hm so si sh ce ca td wa kp la bf oo bo pw ow tr)) := by
            refine Ef.in (md := mX6_isOne) (L := [some (.ref 65), some (.int (tw (el j) (2 * v)))]) rfl (Nat.le_of_ble_eq_true rfl) rfl ?_
            refine E_iload_n at_X6_isOne_0 rfl ?_
            refine E_if (t := 16) (b := true) at_X6_isOne_1 rfl ((cn_lt rfl (by decide : (0 : Int32).toInt = 0)).trans (decide_eq_true (by omega))) ?_
            refine E_iconst (x := nI 0) at_X6_isOne_16 (by decide) ?_
            exact E_iret at_X6_isOne_17 rfl
          refine E_callV (v := some (.int (nI 0))) (As := [.ref 65, .int (tw (el j) (2 * v))]) (r0 := []) (cs2 := (ww im lf s d k ls rf rz ra rn rq lt m1 m2 m3 m4 bd fc hd sz el t g fm hm so si sh ce ca td wa kp la bf oo bo pw ow tr)) at_X6_costs_65 rfl rfl (Nat.le_of_ble_eq_true rfl) rfl (ab_rvOf w65 rfl) e1 (by decide) rfl ?_
          refine E_if (t := 74) (b := false) at_X6_costs_68 rfl (by decide) ?_
          refine E_iconst (x := (-1)) at_X6_costs_71 (by decide) ?_
          refine E_istore (L2 := [some (.ref 65), some (.int (nI j)), some (.int (nI n)), some (.int (nI w)), some (.int (nI wh)), some (.int (-1)), some (.int (nI v)), x7, x8, x9, x10, x11]) at_X6_costs_72 rfl ?_
          refine E_iinc (y := nI (v + 1)) (L2 := [some (.ref 65), some (.int (nI j)), some (.int (nI n)), some (.int (nI w)), some (.int (nI wh)), some (.int (-1)), some (.int (nI (v + 1))), x7, x8, x9, x10, x11]) at_X6_costs_74 rfl (nI_1 _) rfl ?_
          refine E_goto (t := 44) at_X6_costs_77 rfl ?_
          refine E_iload at_X6_costs_44 rfl ?_
          refine E_iload_n at_X6_costs_46 rfl ?_
          refine E_ic (t := 80) (b := true) at_X6_costs_47 rfl ((cn_ge (nI_toInt (by omega)) (nI_toInt (by omega))).trans (decide_eq_true (by omega))) ?_
          exact K _ (by omega)
set_option maxHeartbeats 1000000 in
theorem ic_c {j n1 : Nat} (hj : j < 8) (hz : sz j = nI n1) (hn1 : n1 ≤ 160) (le : (el j).length = 160) {n w u : Nat} (hn : 2 * n ≤ n1) (hn40 : n ≤ 40) (hw : w < 8) (hu1 : 1 ≤ u) (hu : u ≤ 60) (ha : ∀ q, q < n → isB (el j) (qM s) q) (I : qI s) : ∀ n0 v , v + n0 = n → Ef ab_Z0 4 mX5_isCost (3, [some (.ref 0), some (.ref (49 + 2 * j)), some (.int (nI n)), some (.int (nI w)), some (.int (nI u)), some (.int (nI v))], [], (ww im lf s d k ls rf rz ra rn rq lt m1 m2 m3 m4 bd fc hd sz el t g fm hm so si sh ce ca td wa kp la bf oo bo pw ow tr)) (some (.int (nI (coQ (fun p => qPrc s p w u) (el j) n0 v))), (ww im lf s d k ls rf rz ra rn rq lt m1 m2 m3 m4 bd fc hd sz el t g fm hm so si sh ce ca td wa kp la bf oo bo pw ow tr)) := by
  have h9 := I.2.2.1.2
  intro n0
  induction n0 with
  | zero =>
    intro v  hi
    have hi : v = n := by omega
    rw [hi]
    refine E_iload rfl rfl ?_
    refine E_iload_n rfl rfl ?_
    refine E_ic (t := 42) (b := true) rfl rfl ((cn_ge (nI_toInt (by omega)) (nI_toInt (by omega))).trans (decide_eq_true (by omega))) ?_
    refine E_iconst (x := nI 1) rfl (by decide) ?_
    exact E_iret rfl rfl
  | succ n0 ih =>
    intro v  hi
    obtain ⟨c, hc, ec⟩ := ha v (by omega)
    by_cases f0 : (qPrc s c w u : Int) = ((tw (el j) (2 * v + 1)).toInt)
    · have hp := qPrc_in I c w (c := u) (by omega)
      have e : coQ (fun p => qPrc s p w u) (el j) (n0 + 1) v = coQ (fun p => qPrc s p w u) (el j) n0 (v + 1) := coQ_t (f := (fun p => qPrc s p w u)) (by omega) ec (by omega) (by omega)
      rw [e]
      refine E_iload rfl rfl ?_
      refine E_iload_n rfl rfl ?_
      refine E_ic (t := 42) (b := false) rfl rfl ((cn_ge (nI_toInt (by omega)) (nI_toInt (by omega))).trans (decide_eq_false (by omega))) ?_
      refine E_aload_n rfl rfl ?_
      refine E_getfield (v := .ref 1) rfl w0 rfl (by decide) rfl ?_
      refine E_aload_n rfl rfl ?_
      refine E_iload rfl rfl ?_
      refine E_callV (v := some (.int (nI c))) (As := [.ref (49 + 2 * j), .int (nI v)]) (r0 := [.ref 1]) (cs2 := (ww im lf s d k ls rf rz ra rn rq lt m1 m2 m3 m4 bd fc hd sz el t g fm hm so si sh ce ca td wa kp la bf oo bo pw ow tr)) rfl rfl rfl (Nat.le_of_ble_eq_true rfl) rfl (ab_rvOf (w_shv (j := j) (by omega) rfl hz) rfl) (Ev.vi ec (w_first hj hz (x := v) (by omega) hn1 le)) (by decide) rfl ?_
      refine E_iload_n rfl rfl ?_
      refine E_iload rfl rfl ?_
      refine E_callV (v := some (.int (nI (qPrc s c w u)))) (As := [.ref 1, .int (nI c), .int (nI w), .int (nI u)]) (r0 := []) (cs2 := (ww im lf s d k ls rf rz ra rn rq lt m1 m2 m3 m4 bd fc hd sz el t g fm hm so si sh ce ca td wa kp la bf oo bo pw ow tr)) rfl rfl rfl (Nat.le_of_ble_eq_true rfl) rfl (ab_rvOf w1 rfl) (sq_priceByCost w_q1 I (by omega) (by omega) (by omega)) (by decide) rfl ?_
      refine E_aload_n rfl rfl ?_
      refine E_iload rfl rfl ?_
      refine E_callV (v := some (.int (tw (el j) (2 * v + 1)))) (As := [.ref (49 + 2 * j), .int (nI v)]) (r0 := [.int (nI (qPrc s c w u))]) (cs2 := (ww im lf s d k ls rf rz ra rn rq lt m1 m2 m3 m4 bd fc hd sz el t g fm hm so si sh ce ca td wa kp la bf oo bo pw ow tr)) rfl rfl rfl (Nat.le_of_ble_eq_true rfl) rfl (ab_rvOf (w_shv (j := j) (by omega) rfl hz) rfl) (w_second hj hz (x := v) (by omega) hn1 le) (by decide) rfl ?_
      refine E_ic (t := 36) (b := true) rfl rfl ((cn_eq (nI_toInt (by omega)) rfl).trans (decide_eq_true (by omega))) ?_
      refine E_iinc (y := nI (v + 1)) (L2 := [some (.ref 0), some (.ref (49 + 2 * j)), some (.int (nI n)), some (.int (nI w)), some (.int (nI u)), some (.int (nI (v + 1)))]) rfl rfl (nI_1 _) rfl ?_
      refine E_goto (t := 3) rfl rfl ?_
      exact ih (v + 1) (by omega)
    · have hp := qPrc_in I c w (c := u) (by omega)
      have e : coQ (fun p => qPrc s p w u) (el j) (n0 + 1) v = 0 := coQ_f (f := (fun p => qPrc s p w u)) (by omega) ec (by omega) (by omega)
      rw [e]
      refine E_iload rfl rfl ?_
      refine E_iload_n rfl rfl ?_
      refine E_ic (t := 42) (b := false) rfl rfl ((cn_ge (nI_toInt (by omega)) (nI_toInt (by omega))).trans (decide_eq_false (by omega))) ?_
      refine E_aload_n rfl rfl ?_
      refine E_getfield (v := .ref 1) rfl w0 rfl (by decide) rfl ?_
      refine E_aload_n rfl rfl ?_
      refine E_iload rfl rfl ?_
      refine E_callV (v := some (.int (nI c))) (As := [.ref (49 + 2 * j), .int (nI v)]) (r0 := [.ref 1]) (cs2 := (ww im lf s d k ls rf rz ra rn rq lt m1 m2 m3 m4 bd fc hd sz el t g fm hm so si sh ce ca td wa kp la bf oo bo pw ow tr)) rfl rfl rfl (Nat.le_of_ble_eq_true rfl) rfl (ab_rvOf (w_shv (j := j) (by omega) rfl hz) rfl) (Ev.vi ec (w_first hj hz (x := v) (by omega) hn1 le)) (by decide) rfl ?_
      refine E_iload_n rfl rfl ?_
      refine E_iload rfl rfl ?_
      refine E_callV (v := some (.int (nI (qPrc s c w u)))) (As := [.ref 1, .int (nI c), .int (nI w), .int (nI u)]) (r0 := []) (cs2 := (ww im lf s d k ls rf rz ra rn rq lt m1 m2 m3 m4 bd fc hd sz el t g fm hm so si sh ce ca td wa kp la bf oo bo pw ow tr)) rfl rfl rfl (Nat.le_of_ble_eq_true rfl) rfl (ab_rvOf w1 rfl) (sq_priceByCost w_q1 I (by omega) (by omega) (by omega)) (by decide) rfl ?_
      refine E_aload_n rfl rfl ?_
      refine E_iload rfl rfl ?_
      refine E_callV (v := some (.int (tw (el j) (2 * v + 1)))) (As := [.ref (49 + 2 * j), .int (nI v)]) (r0 := [.int (nI (qPrc s c w u))]) (cs2 := (ww im lf s d k ls rf rz ra rn rq lt m1 m2 m3 m4 bd fc hd sz el t g fm hm so si sh ce ca td wa kp la bf oo bo pw ow tr)) rfl rfl rfl (Nat.le_of_ble_eq_true rfl) rfl (ab_rvOf (w_shv (j := j) (by omega) rfl hz) rfl) (w_second hj hz (x := v) (by omega) hn1 le) (by decide) rfl ?_
      refine E_ic (t := 36) (b := false) rfl rfl ((cn_eq (nI_toInt (by omega)) rfl).trans (decide_eq_false (by omega))) ?_
      refine E_iconst (x := nI 0) rfl (by decide) ?_
      exact E_iret rfl rfl
theorem w_isCost {j n1 : Nat} (hj : j < 8) (hz : sz j = nI n1) (hn1 : n1 ≤ 160) (le : (el j).length = 160) {n w u : Nat} (hn : 2 * n ≤ n1) (hn40 : n ≤ 40) (hw : w < 8) (hu1 : 1 ≤ u) (hu : u ≤ 60) (ha : ∀ q, q < n → isB (el j) (qM s) q) (I : qI s) : Ev ab_Z0 5 125 [.ref 0, .ref (49 + 2 * j), .int (nI n), .int (nI w), .int (nI u)] (ww im lf s d k ls rf rz ra rn rq lt m1 m2 m3 m4 bd fc hd sz el t g fm hm so si sh ce ca td wa kp la bf oo bo pw ow tr) (some (.int (nI (coQ (fun p => qPrc s p w u) (el j) n 0))), (ww im lf s d k ls rf rz ra rn rq lt m1 m2 m3 m4 bd fc hd sz el t g fm hm so si sh ce ca td wa kp la bf oo bo pw ow tr)) := by
  refine Ef.in (md := mX5_isCost) (L := [some (.ref 0), some (.ref (49 + 2 * j)), some (.int (nI n)), some (.int (nI w)), some (.int (nI u)), none]) rfl (Nat.le_of_ble_eq_true rfl) rfl ?_
  refine E_iconst (x := nI 0) rfl (by decide) ?_
  refine E_istore (L2 := [some (.ref 0), some (.ref (49 + 2 * j)), some (.int (nI n)), some (.int (nI w)), some (.int (nI u)), some (.int (nI 0))]) rfl rfl ?_
  exact ic_c hj hz hn1 le hn hn40 hw hu1 hu ha I n 0 (Nat.zero_add _)
set_option maxHeartbeats 1000000 in
theorem ic_m {j n1 : Nat} (hj : j < 8) (hz : sz j = nI n1) (hn1 : n1 ≤ 160) (le : (el j).length = 160) {n w wh h0 : Nat} (hn : 2 * n ≤ n1) (hn40 : n ≤ 40) (hw : w < 8) (l_ce : ce.length = 1280) (hce : ∀ q, q < 160 → (el j).getD q 0 = ce.getD (160 * j + q) 0) (ha : ∀ q, q < n → isB (el j) (qM t) q) (I : qI t) {r : Option Value × List ab_C} {x7 x8 : Option Value} {u9 : Nat} : ∀ n0 v , v + n0 = n → (∀ x : Nat, x < 2147483648 → Ef ab_Z0 3 mX6_costs (182, [some (.ref 65), some (.int (nI j)), some (.int (nI n)), some (.int (nI w)), some (.int (nI wh)), some (.int (nI 0)), some (.int (nI h0)), x7, x8, some (.int (nI u9)), some (.int (nI (coQ (fun p => qPr t p w) (el j) n0 v))), some (.int (nI x))], [], (ww im lf s d k ls rf rz ra rn rq lt m1 m2 m3 m4 bd fc hd sz el t g fm hm so si sh ce ca td wa kp la bf oo bo pw ow tr)) r) → Ef ab_Z0 3 mX6_costs (130, [some (.ref 65), some (.int (nI j)), some (.int (nI n)), some (.int (nI w)), some (.int (nI wh)), some (.int (nI 0)), some (.int (nI h0)), x7, x8, some (.int (nI u9)), some (.int (nI 1)), some (.int (nI v))], [], (ww im lf s d k ls rf rz ra rn rq lt m1 m2 m3 m4 bd fc hd sz el t g fm hm so si sh ce ca td wa kp la bf oo bo pw ow tr)) r := by
  have h9 := I.2.2.1.2
  intro n0
  induction n0 with
  | zero =>
    intro v  hi hq
    have hi : v = n := by omega
    rw [hi]
    refine E_iload at_X6_costs_130 rfl ?_
    refine E_iload_n at_X6_costs_132 rfl ?_
    refine E_ic (t := 182) (b := true) at_X6_costs_133 rfl ((cn_ge (nI_toInt (by omega)) (nI_toInt (by omega))).trans (decide_eq_true (by omega))) ?_
    exact hq _ (by omega)
  | succ n0 ih =>
    intro v  hi hq
    obtain ⟨c, hc, ec⟩ := ha v (by omega)
    by_cases f0 : (qPr t c w : Int) = ((tw (el j) (2 * v + 1)).toInt)
    · have hp := qPr_in I c (w := w) (by omega)
      have e : coQ (fun p => qPr t p w) (el j) (n0 + 1) v = coQ (fun p => qPr t p w) (el j) n0 (v + 1) := coQ_t (f := (fun p => qPr t p w)) (by omega) ec (by omega) (by omega)
      rw [e] at hq
      refine E_iload at_X6_costs_130 rfl ?_
      refine E_iload_n at_X6_costs_132 rfl ?_
      refine E_ic (t := 182) (b := false) at_X6_costs_133 rfl ((cn_ge (nI_toInt (by omega)) (nI_toInt (by omega))).trans (decide_eq_false (by omega))) ?_
      refine E_iload at_X6_costs_136 rfl ?_
      refine E_if (t := 182) (b := false) at_X6_costs_138 rfl (by decide) ?_
      refine E_aload_n rfl rfl ?_
      refine E_aload_n rfl rfl ?_
      refine E_iload_n rfl rfl ?_
      refine E_iconst (x := nI 2) rfl (by decide) ?_
      refine E_iload rfl rfl ?_
      refine E_imul (z := nI (2 * v)) rfl (pk_mul _ _) ?_
      refine E_callV (v := some (.int (nI c))) (As := [.ref 65, .int (nI j), .int (nI (2 * v))]) (r0 := [.ref 65]) (cs2 := (ww im lf s d k ls rf rz ra rn rq lt m1 m2 m3 m4 bd fc hd sz el t g fm hm so si sh ce ca td wa kp la bf oo bo pw ow tr)) rfl rfl rfl (Nat.le_of_ble_eq_true rfl) rfl (ab_rvOf w65 rfl) (Ev.vi ec (m_intAt (q := 2 * v) hj (by omega) l_ce hce)) (by decide) rfl ?_
      refine E_iload_n rfl rfl ?_
      refine E_callV (v := some (.int (nI (qPr t c w)))) (As := [.ref 65, .int (nI c), .int (nI w)]) (r0 := []) (cs2 := (ww im lf s d k ls rf rz ra rn rq lt m1 m2 m3 m4 bd fc hd sz el t g fm hm so si sh ce ca td wa kp la bf oo bo pw ow tr)) rfl rfl rfl (Nat.le_of_ble_eq_true rfl) rfl (ab_rvOf w65 rfl) (mo_priceFor w_m I (by omega) (by omega)) (by decide) rfl ?_
      refine E_aload_n rfl rfl ?_
      refine E_iload_n rfl rfl ?_
      refine E_iconst (x := nI 2) rfl (by decide) ?_
      refine E_iload rfl rfl ?_
      refine E_imul (z := nI (2 * v)) rfl (pk_mul _ _) ?_
      refine E_iconst (x := nI 1) rfl (by decide) ?_
      refine E_iadd (z := nI ((2 * v) + 1)) rfl (nI_add _ _) ?_
      refine E_callV (v := some (.int (tw (el j) (2 * v + 1)))) (As := [.ref 65, .int (nI j), .int (nI ((2 * v) + 1))]) (r0 := [.int (nI (qPr t c w))]) (cs2 := (ww im lf s d k ls rf rz ra rn rq lt m1 m2 m3 m4 bd fc hd sz el t g fm hm so si sh ce ca td wa kp la bf oo bo pw ow tr)) rfl rfl rfl (Nat.le_of_ble_eq_true rfl) rfl (ab_rvOf w65 rfl) (m_intAt (q := (2 * v) + 1) hj (by omega) l_ce hce) (by decide) rfl ?_
      refine E_ic (t := 173) (b := false) rfl rfl ((cn_ne (nI_toInt (by omega)) rfl).trans (decide_eq_false (by omega))) ?_
      refine E_iconst (x := nI 1) rfl (by decide) ?_
      refine E_goto (t := 174) rfl rfl ?_
      refine E_istore (L2 := [some (.ref 65), some (.int (nI j)), some (.int (nI n)), some (.int (nI w)), some (.int (nI wh)), some (.int (nI 0)), some (.int (nI h0)), x7, x8, some (.int (nI u9)), some (.int (nI 1)), some (.int (nI v))]) rfl rfl ?_
      refine E_iinc (y := nI (v + 1)) (L2 := [some (.ref 65), some (.int (nI j)), some (.int (nI n)), some (.int (nI w)), some (.int (nI wh)), some (.int (nI 0)), some (.int (nI h0)), x7, x8, some (.int (nI u9)), some (.int (nI 1)), some (.int (nI (v + 1)))]) rfl rfl (nI_1 _) rfl ?_
      refine E_goto (t := 130) rfl rfl ?_
      exact ih (v + 1) (by omega) hq
    · by_cases f1 : v + 1 < n
      · have hp := qPr_in I c (w := w) (by omega)
        have e : coQ (fun p => qPr t p w) (el j) (n0 + 1) v = 0 := coQ_f (f := (fun p => qPr t p w)) (by omega) ec (by omega) (by omega)
        rw [e] at hq
        refine E_iload at_X6_costs_130 rfl ?_
        refine E_iload_n at_X6_costs_132 rfl ?_
        refine E_ic (t := 182) (b := false) at_X6_costs_133 rfl ((cn_ge (nI_toInt (by omega)) (nI_toInt (by omega))).trans (decide_eq_false (by omega))) ?_
        refine E_iload at_X6_costs_136 rfl ?_
        refine E_if (t := 182) (b := false) at_X6_costs_138 rfl (by decide) ?_
        refine E_aload_n rfl rfl ?_
        refine E_aload_n rfl rfl ?_
        refine E_iload_n rfl rfl ?_
        refine E_iconst (x := nI 2) rfl (by decide) ?_
        refine E_iload rfl rfl ?_
        refine E_imul (z := nI (2 * v)) rfl (pk_mul _ _) ?_
        refine E_callV (v := some (.int (nI c))) (As := [.ref 65, .int (nI j), .int (nI (2 * v))]) (r0 := [.ref 65]) (cs2 := (ww im lf s d k ls rf rz ra rn rq lt m1 m2 m3 m4 bd fc hd sz el t g fm hm so si sh ce ca td wa kp la bf oo bo pw ow tr)) rfl rfl rfl (Nat.le_of_ble_eq_true rfl) rfl (ab_rvOf w65 rfl) (Ev.vi ec (m_intAt (q := 2 * v) hj (by omega) l_ce hce)) (by decide) rfl ?_
        refine E_iload_n rfl rfl ?_
        refine E_callV (v := some (.int (nI (qPr t c w)))) (As := [.ref 65, .int (nI c), .int (nI w)]) (r0 := []) (cs2 := (ww im lf s d k ls rf rz ra rn rq lt m1 m2 m3 m4 bd fc hd sz el t g fm hm so si sh ce ca td wa kp la bf oo bo pw ow tr)) rfl rfl rfl (Nat.le_of_ble_eq_true rfl) rfl (ab_rvOf w65 rfl) (mo_priceFor w_m I (by omega) (by omega)) (by decide) rfl ?_
        refine E_aload_n rfl rfl ?_
        refine E_iload_n rfl rfl ?_
        refine E_iconst (x := nI 2) rfl (by decide) ?_
        refine E_iload rfl rfl ?_
        refine E_imul (z := nI (2 * v)) rfl (pk_mul _ _) ?_
        refine E_iconst (x := nI 1) rfl (by decide) ?_
        refine E_iadd (z := nI ((2 * v) + 1)) rfl (nI_add _ _) ?_
        refine E_callV (v := some (.int (tw (el j) (2 * v + 1)))) (As := [.ref 65, .int (nI j), .int (nI ((2 * v) + 1))]) (r0 := [.int (nI (qPr t c w))]) (cs2 := (ww im lf s d k ls rf rz ra rn rq lt m1 m2 m3 m4 bd fc hd sz el t g fm hm so si sh ce ca td wa kp la bf oo bo pw ow tr)) rfl rfl rfl (Nat.le_of_ble_eq_true rfl) rfl (ab_rvOf w65 rfl) (m_intAt (q := (2 * v) + 1) hj (by omega) l_ce hce) (by decide) rfl ?_
        refine E_ic (t := 173) (b := true) rfl rfl ((cn_ne (nI_toInt (by omega)) rfl).trans (decide_eq_true (by omega))) ?_
        refine E_iconst (x := nI 0) rfl (by decide) ?_
        refine E_istore (L2 := [some (.ref 65), some (.int (nI j)), some (.int (nI n)), some (.int (nI w)), some (.int (nI wh)), some (.int (nI 0)), some (.int (nI h0)), x7, x8, some (.int (nI u9)), some (.int (nI 0)), some (.int (nI v))]) rfl rfl ?_
        refine E_iinc (y := nI (v + 1)) (L2 := [some (.ref 65), some (.int (nI j)), some (.int (nI n)), some (.int (nI w)), some (.int (nI wh)), some (.int (nI 0)), some (.int (nI h0)), x7, x8, some (.int (nI u9)), some (.int (nI 0)), some (.int (nI (v + 1)))]) rfl rfl (nI_1 _) rfl ?_
        refine E_goto (t := 130) rfl rfl ?_
        refine E_iload at_X6_costs_130 rfl ?_
        refine E_iload_n at_X6_costs_132 rfl ?_
        refine E_ic (t := 182) (b := false) at_X6_costs_133 rfl ((cn_ge (nI_toInt (by omega)) (nI_toInt (by omega))).trans (decide_eq_false (by omega))) ?_
        refine E_iload at_X6_costs_136 rfl ?_
        refine E_if (t := 182) (b := true) at_X6_costs_138 rfl (by decide) ?_
        exact hq _ (by omega)
      · have hp := qPr_in I c (w := w) (by omega)
        have e : coQ (fun p => qPr t p w) (el j) (n0 + 1) v = 0 := coQ_f (f := (fun p => qPr t p w)) (by omega) ec (by omega) (by omega)
        rw [e] at hq
        refine E_iload at_X6_costs_130 rfl ?_
        refine E_iload_n at_X6_costs_132 rfl ?_
        refine E_ic (t := 182) (b := false) at_X6_costs_133 rfl ((cn_ge (nI_toInt (by omega)) (nI_toInt (by omega))).trans (decide_eq_false (by omega))) ?_
        refine E_iload at_X6_costs_136 rfl ?_
        refine E_if (t := 182) (b := false) at_X6_costs_138 rfl (by decide) ?_
        refine E_aload_n rfl rfl ?_
        refine E_aload_n rfl rfl ?_
        refine E_iload_n rfl rfl ?_
        refine E_iconst (x := nI 2) rfl (by decide) ?_
        refine E_iload rfl rfl ?_
        refine E_imul (z := nI (2 * v)) rfl (pk_mul _ _) ?_
        refine E_callV (v := some (.int (nI c))) (As := [.ref 65, .int (nI j), .int (nI (2 * v))]) (r0 := [.ref 65]) (cs2 := (ww im lf s d k ls rf rz ra rn rq lt m1 m2 m3 m4 bd fc hd sz el t g fm hm so si sh ce ca td wa kp la bf oo bo pw ow tr)) rfl rfl rfl (Nat.le_of_ble_eq_true rfl) rfl (ab_rvOf w65 rfl) (Ev.vi ec (m_intAt (q := 2 * v) hj (by omega) l_ce hce)) (by decide) rfl ?_
        refine E_iload_n rfl rfl ?_
        refine E_callV (v := some (.int (nI (qPr t c w)))) (As := [.ref 65, .int (nI c), .int (nI w)]) (r0 := []) (cs2 := (ww im lf s d k ls rf rz ra rn rq lt m1 m2 m3 m4 bd fc hd sz el t g fm hm so si sh ce ca td wa kp la bf oo bo pw ow tr)) rfl rfl rfl (Nat.le_of_ble_eq_true rfl) rfl (ab_rvOf w65 rfl) (mo_priceFor w_m I (by omega) (by omega)) (by decide) rfl ?_
        refine E_aload_n rfl rfl ?_
        refine E_iload_n rfl rfl ?_
        refine E_iconst (x := nI 2) rfl (by decide) ?_
        refine E_iload rfl rfl ?_
        refine E_imul (z := nI (2 * v)) rfl (pk_mul _ _) ?_
        refine E_iconst (x := nI 1) rfl (by decide) ?_
        refine E_iadd (z := nI ((2 * v) + 1)) rfl (nI_add _ _) ?_
        refine E_callV (v := some (.int (tw (el j) (2 * v + 1)))) (As := [.ref 65, .int (nI j), .int (nI ((2 * v) + 1))]) (r0 := [.int (nI (qPr t c w))]) (cs2 := (ww im lf s d k ls rf rz ra rn rq lt m1 m2 m3 m4 bd fc hd sz el t g fm hm so si sh ce ca td wa kp la bf oo bo pw ow tr)) rfl rfl rfl (Nat.le_of_ble_eq_true rfl) rfl (ab_rvOf w65 rfl) (m_intAt (q := (2 * v) + 1) hj (by omega) l_ce hce) (by decide) rfl ?_
        refine E_ic (t := 173) (b := true) rfl rfl ((cn_ne (nI_toInt (by omega)) rfl).trans (decide_eq_true (by omega))) ?_
        refine E_iconst (x := nI 0) rfl (by decide) ?_
        refine E_istore (L2 := [some (.ref 65), some (.int (nI j)), some (.int (nI n)), some (.int (nI w)), some (.int (nI wh)), some (.int (nI 0)), some (.int (nI h0)), x7, x8, some (.int (nI u9)), some (.int (nI 0)), some (.int (nI v))]) rfl rfl ?_
        refine E_iinc (y := nI (v + 1)) (L2 := [some (.ref 65), some (.int (nI j)), some (.int (nI n)), some (.int (nI w)), some (.int (nI wh)), some (.int (nI 0)), some (.int (nI h0)), x7, x8, some (.int (nI u9)), some (.int (nI 0)), some (.int (nI (v + 1)))]) rfl rfl (nI_1 _) rfl ?_
        refine E_goto (t := 130) rfl rfl ?_
        refine E_iload at_X6_costs_130 rfl ?_
        refine E_iload_n at_X6_costs_132 rfl ?_
        refine E_ic (t := 182) (b := true) at_X6_costs_133 rfl ((cn_ge (nI_toInt (by omega)) (nI_toInt (by omega))).trans (decide_eq_true (by omega))) ?_
        exact hq _ (by omega)
set_option maxHeartbeats 1000000 in
theorem co_c {j n1 : Nat} (hj : j < 8) (hz : sz j = nI n1) (hn1 : n1 ≤ 160) (le : (el j).length = 160) {n w wh : Nat} (hn : 2 * n ≤ n1) (hn40 : n ≤ 40) (hw : w < 8) (ha : ∀ q, q < n → isB (el j) (qM s) q) (I : qI s) {r : Option Value × List ab_C} (K : Ef ab_Z0 5 mX5_costs (116, [some (.ref 0), some (.int (nI j)), some (.int (nI n)), some (.int (nI w)), some (.int (nI wh)), some (.int (nI 0)), some (.int (nI (coN (fun u => coQ (fun p => qPrc s p w u) (el j) n 0) 60))), some (.int (qE (coL (fun u => coQ (fun p => qPrc s p w u) (el j) n 0) 60))), some (.int (nI (60 - 60)))], [], (ww im lf s d k ls rf rz ra rn rq lt m1 m2 m3 m4 bd fc hd sz el t g fm hm so si sh ce ca td wa kp la bf oo bo pw ow tr)) r) : ∀ n0 v , v + n0 = 60 → Ef ab_Z0 5 mX5_costs (81, [some (.ref 0), some (.int (nI j)), some (.int (nI n)), some (.int (nI w)), some (.int (nI wh)), some (.int (nI 0)), some (.int (nI (coN (fun u => coQ (fun p => qPrc s p w u) (el j) n 0) v))), some (.int (qE (coL (fun u => coQ (fun p => qPrc s p w u) (el j) n 0) v))), some (.int (nI (60 - v)))], [], (ww im lf s d k ls rf rz ra rn rq lt m1 m2 m3 m4 bd fc hd sz el t g fm hm so si sh ce ca td wa kp la bf oo bo pw ow tr)) r := by
  have h9 := I.2.2.1.2
  intro n0
  induction n0 with
  | zero =>
    intro v  hi
    have hi : v = 60 := by omega
    rw [hi]
    refine E_iload at_X5_costs_81 rfl ?_
    refine E_if (t := 116) (b := true) at_X5_costs_83 rfl ((cn_le (nI_toInt (by omega)) (by decide : (0 : Int32).toInt = 0)).trans (decide_eq_true (by omega))) ?_
    exact K
  | succ n0 ih =>
    intro v  hi
    by_cases f0 : (coQ (fun p => qPrc s p w (60 - v)) (el j) n 0) = 0
    · have hcn := coN_in (fun u => coQ (fun p => qPrc s p w u) (el j) n 0) v
      have h01 := coQ_01 (fun p => qPrc s p w (60 - v)) (el j) n 0
      have e := coN_f (P := (fun u => coQ (fun p => qPrc s p w u) (el j) n 0)) (i := v) (by show (_ = 0); omega)
      refine E_iload at_X5_costs_81 rfl ?_
      refine E_if (t := 116) (b := false) at_X5_costs_83 rfl ((cn_le (nI_toInt (by omega)) (by decide : (0 : Int32).toInt = 0)).trans (decide_eq_false (by omega))) ?_
      refine E_aload_n rfl rfl ?_
      refine E_aload_n rfl rfl ?_
      refine E_getfield (v := .ref 31) rfl w0 rfl (by decide) rfl ?_
      refine E_iload_n rfl rfl ?_
      refine E_aalN (b := 49 + 2 * j) rfl w31 (by omega) (w_shs (by omega)) ?_
      refine E_iload_n rfl rfl ?_
      refine E_iload_n rfl rfl ?_
      refine E_iload rfl rfl ?_
      refine E_callV (v := some (.int (nI (coQ (fun p => qPrc s p w (60 - v)) (el j) n 0)))) (As := [.ref 0, .ref (49 + 2 * j), .int (nI n), .int (nI w), .int (nI (60 - v))]) (r0 := []) (cs2 := (ww im lf s d k ls rf rz ra rn rq lt m1 m2 m3 m4 bd fc hd sz el t g fm hm so si sh ce ca td wa kp la bf oo bo pw ow tr)) rfl rfl rfl (Nat.le_of_ble_eq_true rfl) rfl (ab_rvOf w0 rfl) (w_isCost (u := 60 - v) hj hz hn1 le hn hn40 hw (by omega) (by omega) ha I) (by decide) rfl ?_
      refine E_if (t := 110) (b := true) rfl rfl ((cn_eq (nI_toInt (by omega)) (by decide : (0 : Int32).toInt = 0)).trans (decide_eq_true (by omega))) ?_
      refine E_iinc (y := nI (60 - (v + 1))) (L2 := [some (.ref 0), some (.int (nI j)), some (.int (nI n)), some (.int (nI w)), some (.int (nI wh)), some (.int (nI 0)), some (.int (nI (coN (fun u => coQ (fun p => qPrc s p w u) (el j) n 0) v))), some (.int (qE (coL (fun u => coQ (fun p => qPrc s p w u) (el j) n 0) v))), some (.int (nI (60 - (v + 1))))]) rfl rfl ((ab_dec (by omega)).trans (congrArg nI (by omega))) rfl ?_
      refine E_goto (t := 81) rfl rfl ?_
      have X := ih (v + 1)  (by omega)
      rw [e.1, e.2] at X
      exact X
    · have hcn := coN_in (fun u => coQ (fun p => qPrc s p w u) (el j) n 0) v
      have h01 := coQ_01 (fun p => qPrc s p w (60 - v)) (el j) n 0
      have e := coN_t (P := (fun u => coQ (fun p => qPrc s p w u) (el j) n 0)) (i := v) (by show ¬ (_ = 0); omega)
      refine E_iload at_X5_costs_81 rfl ?_
      refine E_if (t := 116) (b := false) at_X5_costs_83 rfl ((cn_le (nI_toInt (by omega)) (by decide : (0 : Int32).toInt = 0)).trans (decide_eq_false (by omega))) ?_
      refine E_aload_n rfl rfl ?_
      refine E_aload_n rfl rfl ?_
      refine E_getfield (v := .ref 31) rfl w0 rfl (by decide) rfl ?_
      refine E_iload_n rfl rfl ?_
      refine E_aalN (b := 49 + 2 * j) rfl w31 (by omega) (w_shs (by omega)) ?_
      refine E_iload_n rfl rfl ?_
      refine E_iload_n rfl rfl ?_
      refine E_iload rfl rfl ?_
      refine E_callV (v := some (.int (nI (coQ (fun p => qPrc s p w (60 - v)) (el j) n 0)))) (As := [.ref 0, .ref (49 + 2 * j), .int (nI n), .int (nI w), .int (nI (60 - v))]) (r0 := []) (cs2 := (ww im lf s d k ls rf rz ra rn rq lt m1 m2 m3 m4 bd fc hd sz el t g fm hm so si sh ce ca td wa kp la bf oo bo pw ow tr)) rfl rfl rfl (Nat.le_of_ble_eq_true rfl) rfl (ab_rvOf w0 rfl) (w_isCost (u := 60 - v) hj hz hn1 le hn hn40 hw (by omega) (by omega) ha I) (by decide) rfl ?_
      refine E_if (t := 110) (b := false) rfl rfl ((cn_eq (nI_toInt (by omega)) (by decide : (0 : Int32).toInt = 0)).trans (decide_eq_false (by omega))) ?_
      refine E_iinc (y := nI (coN (fun u => coQ (fun p => qPrc s p w u) (el j) n 0) v + 1)) (L2 := [some (.ref 0), some (.int (nI j)), some (.int (nI n)), some (.int (nI w)), some (.int (nI wh)), some (.int (nI 0)), some (.int (nI (coN (fun u => coQ (fun p => qPrc s p w u) (el j) n 0) v + 1))), some (.int (qE (coL (fun u => coQ (fun p => qPrc s p w u) (el j) n 0) v))), some (.int (nI (60 - v)))]) rfl rfl (nI_1 _) rfl ?_
      refine E_iload rfl rfl ?_
      refine E_istore (L2 := [some (.ref 0), some (.int (nI j)), some (.int (nI n)), some (.int (nI w)), some (.int (nI wh)), some (.int (nI 0)), some (.int (nI (coN (fun u => coQ (fun p => qPrc s p w u) (el j) n 0) v + 1))), some (.int (nI (60 - v))), some (.int (nI (60 - v)))]) rfl rfl ?_
      refine E_iinc (y := nI (60 - (v + 1))) (L2 := [some (.ref 0), some (.int (nI j)), some (.int (nI n)), some (.int (nI w)), some (.int (nI wh)), some (.int (nI 0)), some (.int (nI (coN (fun u => coQ (fun p => qPrc s p w u) (el j) n 0) v + 1))), some (.int (nI (60 - v))), some (.int (nI (60 - (v + 1))))]) rfl rfl ((ab_dec (by omega)).trans (congrArg nI (by omega))) rfl ?_
      refine E_goto (t := 81) rfl rfl ?_
      have X := ih (v + 1)  (by omega)
      rw [e.1, e.2] at X
      exact X
set_option maxHeartbeats 1000000 in
theorem co_m {j n1 : Nat} (hj : j < 8) (hz : sz j = nI n1) (hn1 : n1 ≤ 160) (le : (el j).length = 160) {q : ab_q} {n w wh : Nat} (hn : 2 * n ≤ n1) (hn40 : n ≤ 40) (hw : w < 8) (l_ce : ce.length = 1280) (hce : ∀ q, q < 160 → (el j).getD q 0 = ce.getD (160 * j + q) 0) (ha : ∀ p, p < n → isB (el j) (qM q) p) (I : qI q) {r : Option Value × List ab_C} (K : ∀ x10 x11 : Option Value, Ef ab_Z0 3 mX6_costs (211, [some (.ref 65), some (.int (nI j)), some (.int (nI n)), some (.int (nI w)), some (.int (nI wh)), some (.int (nI 0)), some (.int (nI ((qC q).getD w 0))), some (.int (nI (coN (fun u => coQ (fun p => qPrc q p w u) (el j) n 0) 60))), some (.int (qE (coL (fun u => coQ (fun p => qPrc q p w u) (el j) n 0) 60))), some (.int (nI (60 - 60))), x10, x11], [], (ww im lf s d k ls rf rz ra rn rq lt m1 m2 m3 m4 bd fc hd sz el q g fm hm so si sh ce ca td wa kp la bf oo bo pw ow tr)) r) : ∀ n0 v (x10 x11 : Option Value), v + n0 = 60 → Ef ab_Z0 3 mX6_costs (110, [some (.ref 65), some (.int (nI j)), some (.int (nI n)), some (.int (nI w)), some (.int (nI wh)), some (.int (nI 0)), some (.int (nI ((qC q).getD w 0))), some (.int (nI (coN (fun u => coQ (fun p => qPrc q p w u) (el j) n 0) v))), some (.int (qE (coL (fun u => coQ (fun p => qPrc q p w u) (el j) n 0) v))), some (.int (nI (60 - v))), x10, x11], [], (ww im lf s d k ls rf rz ra rn rq lt m1 m2 m3 m4 bd fc hd sz el (qs_C q (coC q w v)) g fm hm so si sh ce ca td wa kp la bf oo bo pw ow tr)) r := by
  have h9 := I.2.2.1.2
  have l8 := I.2.1.2.2.2.2
  intro n0
  induction n0 with
  | zero =>
    intro v x10 x11 hi
    have lcc := coC_len q w 60
    have hi : v = 60 := by omega
    rw [hi]
    have : (coC q w 60).length = 8 := by first | omega | (simp only [List.length_set]; omega)
    refine E_iload rfl rfl ?_
    refine E_iconst (x := nI 1) rfl (by decide) ?_
    refine E_ic (t := 203) (b := true) rfl rfl ((cn_lt (nI_toInt (by omega)) (nI_toInt (by omega))).trans (decide_eq_true (by omega))) ?_
    refine E_aload_n rfl rfl ?_
    refine E_getfield (v := .ref 75) rfl w65 rfl (by decide) rfl ?_
    refine E_iload_n rfl rfl ?_
    refine E_iload rfl rfl ?_
    refine E_iasN (l := (coC q w 60)) (cs2 := (ww im lf s d k ls rf rz ra rn rq lt m1 m2 m3 m4 bd fc hd sz el (qs_C (qs_C q (coC q w 60)) ((coC q w 60).set w ((qC q).getD w 0))) g fm hm so si sh ce ca td wa kp la bf oo bo pw ow tr)) rfl (w75v qg_CC) (by omega) (by omega) w_pt65_C ?_
    rw [coC_set, qs_CC, coC_self (by omega), qs_Cself]
    exact K _ _
  | succ n0 ih =>
    intro v x10 x11 hi
    by_cases f0 : (coQ (fun p => qPrc q p w (60 - v)) (el j) n 0) = 0
    · have hcn := coN_in (fun u => coQ (fun p => qPrc q p w u) (el j) n 0) v
      have lcc := coC_len q w v
      have : (coC q w v).length = 8 := by first | omega | (simp only [List.length_set]; omega)
      have h01 := coQ_01 (fun p => qPrc q p w (60 - v)) (el j) n 0
      have eq2 : qs_C (qs_C q (coC q w v)) ((coC q w v).set w (60 - v)) = (qs_C q ((qC q).set w (60 - v))) := by rw [coC_set, qs_CC]
      have eqq : coQ (fun p => qPr (qs_C q ((qC q).set w (60 - v))) p w) (el j) n 0 = coQ (fun p => qPrc q p w (60 - v)) (el j) n 0 := coQ_co (fun p => qPr_C (ab_gs2 (by omega))) n 0
      have e := coN_f (P := (fun u => coQ (fun p => qPrc q p w u) (el j) n 0)) (i := v) (by show (_ = 0); omega)
      refine E_iload rfl rfl ?_
      refine E_iconst (x := nI 1) rfl (by decide) ?_
      refine E_ic (t := 203) (b := false) rfl rfl ((cn_lt (nI_toInt (by omega)) (nI_toInt (by omega))).trans (decide_eq_false (by omega))) ?_
      refine E_aload_n rfl rfl ?_
      refine E_getfield (v := .ref 75) rfl w65 rfl (by decide) rfl ?_
      refine E_iload_n rfl rfl ?_
      refine E_iload rfl rfl ?_
      refine E_iasN (l := (coC q w v)) (cs2 := (ww im lf s d k ls rf rz ra rn rq lt m1 m2 m3 m4 bd fc hd sz el (qs_C (qs_C q (coC q w v)) ((coC q w v).set w (60 - v))) g fm hm so si sh ce ca td wa kp la bf oo bo pw ow tr)) rfl (w75v qg_CC) (by omega) (by omega) w_pt65_C ?_
      refine E_iconst (x := nI 1) rfl (by decide) ?_
      refine E_istore (L2 := [some (.ref 65), some (.int (nI j)), some (.int (nI n)), some (.int (nI w)), some (.int (nI wh)), some (.int (nI 0)), some (.int (nI ((qC q).getD w 0))), some (.int (nI (coN (fun u => coQ (fun p => qPrc q p w u) (el j) n 0) v))), some (.int (qE (coL (fun u => coQ (fun p => qPrc q p w u) (el j) n 0) v))), some (.int (nI (60 - v))), some (.int (nI 1)), x11]) rfl rfl ?_
      refine E_iconst (x := nI 0) rfl (by decide) ?_
      refine E_istore (L2 := [some (.ref 65), some (.int (nI j)), some (.int (nI n)), some (.int (nI w)), some (.int (nI wh)), some (.int (nI 0)), some (.int (nI ((qC q).getD w 0))), some (.int (nI (coN (fun u => coQ (fun p => qPrc q p w u) (el j) n 0) v))), some (.int (qE (coL (fun u => coQ (fun p => qPrc q p w u) (el j) n 0) v))), some (.int (nI (60 - v))), some (.int (nI 1)), some (.int (nI 0))]) rfl rfl ?_
      rw [eq2]
      refine ic_m (t := (qs_C q ((qC q).set w (60 - v)))) hj hz hn1 le hn hn40 hw l_ce hce ha (kC I (by omega) (by omega)) n 0 (Nat.zero_add _) ?_
      rw [eqq]
      intro x11 hx11
      refine E_iload rfl rfl ?_
      refine E_if (t := 190) (b := false) rfl rfl ((cn_ne (nI_toInt (by omega)) (by decide : (0 : Int32).toInt = 0)).trans (decide_eq_false (by omega))) ?_
      refine E_goto (t := 197) rfl rfl ?_
      refine E_iinc (y := nI (60 - (v + 1))) (L2 := [some (.ref 65), some (.int (nI j)), some (.int (nI n)), some (.int (nI w)), some (.int (nI wh)), some (.int (nI 0)), some (.int (nI ((qC q).getD w 0))), some (.int (nI (coN (fun u => coQ (fun p => qPrc q p w u) (el j) n 0) v))), some (.int (qE (coL (fun u => coQ (fun p => qPrc q p w u) (el j) n 0) v))), some (.int (nI (60 - (v + 1)))), some (.int (nI (coQ (fun p => qPrc q p w (60 - v)) (el j) n 0))), some (.int (nI x11))]) rfl rfl ((ab_dec (by omega)).trans (congrArg nI (by omega))) rfl ?_
      refine E_goto (t := 110) rfl rfl ?_
      have X := ih (v + 1) (some (.int (nI (coQ (fun p => qPrc q p w (60 - v)) (el j) n 0)))) (some (.int (nI x11))) (by omega)
      rw [e.1, e.2] at X
      exact X
    · have hcn := coN_in (fun u => coQ (fun p => qPrc q p w u) (el j) n 0) v
      have lcc := coC_len q w v
      have : (coC q w v).length = 8 := by first | omega | (simp only [List.length_set]; omega)
      have h01 := coQ_01 (fun p => qPrc q p w (60 - v)) (el j) n 0
      have eq2 : qs_C (qs_C q (coC q w v)) ((coC q w v).set w (60 - v)) = (qs_C q ((qC q).set w (60 - v))) := by rw [coC_set, qs_CC]
      have eqq : coQ (fun p => qPr (qs_C q ((qC q).set w (60 - v))) p w) (el j) n 0 = coQ (fun p => qPrc q p w (60 - v)) (el j) n 0 := coQ_co (fun p => qPr_C (ab_gs2 (by omega))) n 0
      have e := coN_t (P := (fun u => coQ (fun p => qPrc q p w u) (el j) n 0)) (i := v) (by show ¬ (_ = 0); omega)
      refine E_iload rfl rfl ?_
      refine E_iconst (x := nI 1) rfl (by decide) ?_
      refine E_ic (t := 203) (b := false) rfl rfl ((cn_lt (nI_toInt (by omega)) (nI_toInt (by omega))).trans (decide_eq_false (by omega))) ?_
      refine E_aload_n rfl rfl ?_
      refine E_getfield (v := .ref 75) rfl w65 rfl (by decide) rfl ?_
      refine E_iload_n rfl rfl ?_
      refine E_iload rfl rfl ?_
      refine E_iasN (l := (coC q w v)) (cs2 := (ww im lf s d k ls rf rz ra rn rq lt m1 m2 m3 m4 bd fc hd sz el (qs_C (qs_C q (coC q w v)) ((coC q w v).set w (60 - v))) g fm hm so si sh ce ca td wa kp la bf oo bo pw ow tr)) rfl (w75v qg_CC) (by omega) (by omega) w_pt65_C ?_
      refine E_iconst (x := nI 1) rfl (by decide) ?_
      refine E_istore (L2 := [some (.ref 65), some (.int (nI j)), some (.int (nI n)), some (.int (nI w)), some (.int (nI wh)), some (.int (nI 0)), some (.int (nI ((qC q).getD w 0))), some (.int (nI (coN (fun u => coQ (fun p => qPrc q p w u) (el j) n 0) v))), some (.int (qE (coL (fun u => coQ (fun p => qPrc q p w u) (el j) n 0) v))), some (.int (nI (60 - v))), some (.int (nI 1)), x11]) rfl rfl ?_
      refine E_iconst (x := nI 0) rfl (by decide) ?_
      refine E_istore (L2 := [some (.ref 65), some (.int (nI j)), some (.int (nI n)), some (.int (nI w)), some (.int (nI wh)), some (.int (nI 0)), some (.int (nI ((qC q).getD w 0))), some (.int (nI (coN (fun u => coQ (fun p => qPrc q p w u) (el j) n 0) v))), some (.int (qE (coL (fun u => coQ (fun p => qPrc q p w u) (el j) n 0) v))), some (.int (nI (60 - v))), some (.int (nI 1)), some (.int (nI 0))]) rfl rfl ?_
      rw [eq2]
      refine ic_m (t := (qs_C q ((qC q).set w (60 - v)))) hj hz hn1 le hn hn40 hw l_ce hce ha (kC I (by omega) (by omega)) n 0 (Nat.zero_add _) ?_
      rw [eqq]
      intro x11 hx11
      refine E_iload rfl rfl ?_
      refine E_if (t := 190) (b := true) rfl rfl ((cn_ne (nI_toInt (by omega)) (by decide : (0 : Int32).toInt = 0)).trans (decide_eq_true (by omega))) ?_
      refine E_iinc (y := nI (coN (fun u => coQ (fun p => qPrc q p w u) (el j) n 0) v + 1)) (L2 := [some (.ref 65), some (.int (nI j)), some (.int (nI n)), some (.int (nI w)), some (.int (nI wh)), some (.int (nI 0)), some (.int (nI ((qC q).getD w 0))), some (.int (nI (coN (fun u => coQ (fun p => qPrc q p w u) (el j) n 0) v + 1))), some (.int (qE (coL (fun u => coQ (fun p => qPrc q p w u) (el j) n 0) v))), some (.int (nI (60 - v))), some (.int (nI (coQ (fun p => qPrc q p w (60 - v)) (el j) n 0))), some (.int (nI x11))]) rfl rfl (nI_1 _) rfl ?_
      refine E_iload rfl rfl ?_
      refine E_istore (L2 := [some (.ref 65), some (.int (nI j)), some (.int (nI n)), some (.int (nI w)), some (.int (nI wh)), some (.int (nI 0)), some (.int (nI ((qC q).getD w 0))), some (.int (nI (coN (fun u => coQ (fun p => qPrc q p w u) (el j) n 0) v + 1))), some (.int (nI (60 - v))), some (.int (nI (60 - v))), some (.int (nI (coQ (fun p => qPrc q p w (60 - v)) (el j) n 0))), some (.int (nI x11))]) rfl rfl ?_
      refine E_iinc (y := nI (60 - (v + 1))) (L2 := [some (.ref 65), some (.int (nI j)), some (.int (nI n)), some (.int (nI w)), some (.int (nI wh)), some (.int (nI 0)), some (.int (nI ((qC q).getD w 0))), some (.int (nI (coN (fun u => coQ (fun p => qPrc q p w u) (el j) n 0) v + 1))), some (.int (nI (60 - v))), some (.int (nI (60 - (v + 1)))), some (.int (nI (coQ (fun p => qPrc q p w (60 - v)) (el j) n 0))), some (.int (nI x11))]) rfl rfl ((ab_dec (by omega)).trans (congrArg nI (by omega))) rfl ?_
      refine E_goto (t := 110) rfl rfl ?_
      have X := ih (v + 1) (some (.int (nI (coQ (fun p => qPrc q p w (60 - v)) (el j) n 0)))) (some (.int (nI x11))) (by omega)
      rw [e.1, e.2] at X
      exact X
theorem co_ms {j n1 : Nat} (hj : j < 8) (hz : sz j = nI n1) (hn1 : n1 ≤ 160) (le : (el j).length = 160) {q : ab_q} {n w wh : Nat} (hn : 2 * n ≤ n1) (hn40 : n ≤ 40) (hw : w < 8) (l_ce : ce.length = 1280) (hce : ∀ q, q < 160 → (el j).getD q 0 = ce.getD (160 * j + q) 0) (ha : ∀ p, p < n → isB (el j) (qM q) p) (I : qI q) {r : Option Value × List ab_C} (K : ∀ x10 x11 : Option Value, Ef ab_Z0 3 mX6_costs (211, [some (.ref 65), some (.int (nI j)), some (.int (nI n)), some (.int (nI w)), some (.int (nI wh)), some (.int (nI 0)), some (.int (nI ((qC q).getD w 0))), some (.int (nI (coN (fun u => coQ (fun p => qPrc q p w u) (el j) n 0) 60))), some (.int (qE (coL (fun u => coQ (fun p => qPrc q p w u) (el j) n 0) 60))), some (.int (nI (60 - 60))), x10, x11], [], (ww im lf s d k ls rf rz ra rn rq lt m1 m2 m3 m4 bd fc hd sz el q g fm hm so si sh ce ca td wa kp la bf oo bo pw ow tr)) r) (x10 x11 : Option Value) : Ef ab_Z0 3 mX6_costs (110, [some (.ref 65), some (.int (nI j)), some (.int (nI n)), some (.int (nI w)), some (.int (nI wh)), some (.int (nI 0)), some (.int (nI ((qC q).getD w 0))), some (.int (nI 0)), some (.int (-1)), some (.int (nI 60)), x10, x11], [], (ww im lf s d k ls rf rz ra rn rq lt m1 m2 m3 m4 bd fc hd sz el q g fm hm so si sh ce ca td wa kp la bf oo bo pw ow tr)) r := by
  have X := co_m hj hz hn1 le hn hn40 hw l_ce hce ha I K 60 0 x10 x11 rfl
  rw [show qs_C q (coC q w 0) = q from qs_Cself] at X
  exact X
end CO
