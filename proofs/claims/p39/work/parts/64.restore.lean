/-! restore's loops; by program (wip/tools/mk63.py) -/
/-- a PIECE that isn't there any more -/
def rsC (n : Nat) (h : Int32) : Prop := 0 ≤ h.toInt ∧ h.toInt < 100 ∧ (n : Int) ≤ h.toInt
noncomputable def rsV (n : Nat) (h v w : Int32) : Int32 := @ite _ (rsC n h) (Classical.propDecidable _) v w
theorem rsV_1 {n : Nat} {h v w : Int32} (c : rsC n h) : rsV n h v w = v := if_pos c
theorem rsV_0 {n : Nat} {h v w : Int32} (c : ¬ rsC n h) : rsV n h v w = w := if_neg c
noncomputable def rsF (n : Nat) (hd f : Nat → Int32) (v : Int32) (i : Nat) : Nat → Int32 := fun j => if j < i then rsV n (hd j) v (f j) else f j
theorem rsF_0 (n : Nat) (hd f : Nat → Int32) (v : Int32) : rsF n hd f v 0 = f := by
  funext j
  exact if_neg (by omega)
theorem rsF_at {n : Nat} {hd f : Nat → Int32} {v : Int32} {i j : Nat} (h : i ≤ j) : rsF n hd f v i j = f j := if_neg (by omega)
theorem rsF_1 {n : Nat} {hd f : Nat → Int32} {v : Int32} {i : Nat} (c : rsC n (hd i)) : fUp (rsF n hd f v i) i v = rsF n hd f v (i + 1) := by
  funext j
  unfold fUp rsF
  by_cases e : j = i
  · subst e
    rw [if_pos rfl, if_pos (by omega), rsV_1 c]
  · rw [if_neg e]
    by_cases e2 : j < i
    · rw [if_pos e2, if_pos (by omega)]
    · rw [if_neg e2, if_neg (by omega)]
theorem rsF_2 {n : Nat} {hd f : Nat → Int32} {v : Int32} {i : Nat} (c : ¬ rsC n (hd i)) : rsF n hd f v i = rsF n hd f v (i + 1) := by
  funext j
  unfold rsF
  by_cases e : j = i
  · subst e
    rw [if_neg (by omega), if_pos (by omega), rsV_0 c]
  · by_cases e2 : j < i
    · rw [if_pos e2, if_pos (by omega)]
    · rw [if_neg e2, if_neg (by omega)]
/-- the reference's shelves, the first i looked through -/
def rsM (hm : List Nat) (sh : List Int32) (n : Nat) : Nat → List Nat
  | 0 => hm
  | i + 1 => if hm.getD i 0 = 2 ∧ (n : Int) ≤ (sh.getD i 0).toInt then (rsM hm sh n i).set i 0 else rsM hm sh n i
theorem rsM_len (hm : List Nat) (sh : List Int32) (n : Nat) : ∀ i, (rsM hm sh n i).length = hm.length
  | 0 => rfl
  | i + 1 => by
    have := rsM_len hm sh n i
    show (if _ then _ else _ : List Nat).length = _
    split
    · rw [List.length_set]
      exact this
    · exact this
theorem rsM_1 {hm : List Nat} {sh : List Int32} {n i : Nat} (h : hm.getD i 0 = 2 ∧ (n : Int) ≤ (sh.getD i 0).toInt) : (rsM hm sh n i).set i 0 = rsM hm sh n (i + 1) := (if_pos h).symm
theorem rsM_2 {hm : List Nat} {sh : List Int32} {n i : Nat} (h : ¬ (hm.getD i 0 = 2 ∧ (n : Int) ≤ (sh.getD i 0).toInt)) : rsM hm sh n i = rsM hm sh n (i + 1) := (if_neg h).symm
theorem rsM_get {hm : List Nat} {sh : List Int32} {n : Nat} : ∀ i j, i ≤ hm.length → (rsM hm sh n i).getD j 0 = if j < i ∧ hm.getD j 0 = 2 ∧ (n : Int) ≤ (sh.getD j 0).toInt then 0 else hm.getD j 0
  | 0, j, _ => by rw [if_neg (by omega)]; rfl
  | i + 1, j, h => by
    have ih := rsM_get (hm := hm) (sh := sh) (n := n) i j (by omega)
    have hl := rsM_len hm sh n i
    by_cases c : hm.getD i 0 = 2 ∧ (n : Int) ≤ (sh.getD i 0).toInt
    · rw [← rsM_1 c, ab_gsI (by omega), ih]
      by_cases e : j = i
      · subst e
        rw [if_pos rfl, if_pos ⟨by omega, c⟩]
      · rw [if_neg e]
        by_cases e2 : j < i ∧ hm.getD j 0 = 2 ∧ (n : Int) ≤ (sh.getD j 0).toInt
        · rw [if_pos e2, if_pos ⟨by omega, e2.2⟩]
        · rw [if_neg e2, if_neg (fun q => e2 ⟨by omega, q.2⟩)]
    · rw [← rsM_2 c, ih]
      by_cases e : j = i
      · subst e
        rw [if_neg (by omega), if_neg (fun q => c q.2)]
      · by_cases e2 : j < i ∧ hm.getD j 0 = 2 ∧ (n : Int) ≤ (sh.getD j 0).toInt
        · rw [if_pos e2, if_pos ⟨by omega, e2.2⟩]
        · rw [if_neg e2, if_neg (fun q => e2 ⟨by omega, q.2⟩)]
theorem iS_restore {s k : ab_q} {hd sz : Nat → Int32} {el : Nat → List Int64} {hm so si : List Nat} {sh : List Int32} {ce : List Int64} (h : iS s hd sz el hm so si sh ce) (h9 : qN s ≤ 9) (l : hm.length = 8) :
    iS k (rsF (qN k) hd hd (-1) 8) (rsF (qN k) hd sz (nI 0) 8) el (rsM hm sh (qN k) 8) so si sh ce := by
  intro j hj
  rw [rsM_get 8 j (by omega)]
  unfold rsF
  rw [if_pos hj, if_pos hj]
  rcases h j hj with ⟨a, b, c⟩ | ⟨x, a, b, c, d, e⟩ | ⟨a, b, c, d, e, f⟩
  · have nc : ¬ rsC (qN k) (hd j) := by
      rw [a]
      intro q
      have := q.1
      revert this
      decide
    rw [rsV_0 nc, rsV_0 nc, if_neg (by omega)]
    exact Or.inl ⟨a, b, c⟩
  · have hx : (hd j).toInt = x := by rw [b]; exact nI_toInt (by omega)
    have hs : (sh.getD j 0).toInt = x := by rw [e]; exact nI_toInt (by omega)
    by_cases q : qN k ≤ x
    · have nc : rsC (qN k) (hd j) := ⟨by omega, by omega, by omega⟩
      rw [rsV_1 nc, rsV_1 nc, if_pos ⟨hj, d, by omega⟩]
      exact Or.inl ⟨rfl, rfl, rfl⟩
    · have nc : ¬ rsC (qN k) (hd j) := fun z => by
        have := z.2.2
        omega
      rw [rsV_0 nc, rsV_0 nc, if_neg (fun z => by omega)]
      exact Or.inr (Or.inl ⟨x, by omega, b, c, d, e⟩)
  · have hx : (hd j).toInt = ((100 + so.getD j 0 : Nat) : Int) := by rw [a]; exact nI_toInt (by omega)
    have nc : ¬ rsC (qN k) (hd j) := fun z => by
      have := z.2.1
      omega
    rw [rsV_0 nc, rsV_0 nc, if_neg (by omega)]
    exact Or.inr (Or.inr ⟨a, b, c, d, e, f⟩)
theorem iS_m {s : ab_q} {hd sz : Nat → Int32} {el : Nat → List Int64} {hm so si : List Nat} {sh : List Int32} {ce : List Int64} (h : iS s hd sz el hm so si sh ce) : ∀ j, j < 8 → hm.getD j 0 ≤ 2 := fun j hj => by
  rcases h j hj with h | ⟨x, h1, h2, h3, h4, h5⟩ | h
  · omega
  · omega
  · omega
theorem ab_K7 {k : Nat} (h : k ≤ 6) : k = 0 ∨ k = 1 ∨ k = 2 ∨ k = 3 ∨ k = 4 ∨ k = 5 ∨ k = 6 := by omega
section RS
variable {im : Int32} {lf : Int32} {s : ab_q} {d : ab_q} {k : ab_q} {ls : List Int32} {rf : Int32} {rz : Int32} {ra : Int32} {rn : Int32} {rq : ab_q} {lt : List Int32} {m1 : Int32} {m2 : Int32} {m3 : Int32} {m4 : Int32} {bd : List Int32} {fc : List Int32} {hd : Nat → Int32} {sz : Nat → Int32} {el : Nat → List Int64} {t : ab_q} {g : Nat → Int32} {fm : List Int32} {hm : List Nat} {so : List Nat} {si : List Nat} {sh : List Int32} {ce : List Int64} {ca : List Int64} {td : List Int32} {wa : List Int32} {kp : List Int32} {la : List Int32} {bf : List Int32} {oo : List Int32} {bo : List Int32} {pw : List Int32} {ow : List Int32} {tr : List Int32}
set_option maxHeartbeats 1000000 in
theorem crs_l {dd : Nat} {r : Option Value × List ab_C} (i9 : qN s ≤ 9) (K : ∀ x2, Ef ab_Z0 (dd + 1) mX5_restore (72, [some (.ref 0), some (.int (nI 8)), x2], [], (ww im lf s d k ls rf rz ra rn rq lt m1 m2 m3 m4 bd fc (rsF (qN s) hd hd (-1) 8) (rsF (qN s) hd sz (nI 0) 8) el t g fm hm so si sh ce ca td wa kp la bf oo bo pw ow tr)) r) : ∀ m v x2, v + m = 8 → Ef ab_Z0 (dd + 1) mX5_restore (27, [some (.ref 0), some (.int (nI v)), x2], [], (ww im lf s d k ls rf rz ra rn rq lt m1 m2 m3 m4 bd fc (rsF (qN s) hd hd (-1) v) (rsF (qN s) hd sz (nI 0) v) el t g fm hm so si sh ce ca td wa kp la bf oo bo pw ow tr)) r := by
  intro m
  induction m with
  | zero =>
    intro v x2 hi
    obtain rfl : v = 8 := by omega
    refine E_iload_n rfl rfl ?_
    refine E_bipush (x := nI 8) rfl (by decide) ?_
    refine E_ic (t := 72) (b := true) rfl rfl (by decide) ?_
    exact K x2
  | succ m ih =>
    intro v x2 hi
    by_cases f0 : ((hd v).toInt) < 0
    · refine E_iload_n rfl rfl ?_
      refine E_bipush (x := nI 8) rfl (by decide) ?_
      refine E_ic (t := 72) (b := false) rfl rfl ((cn_ge (nI_toInt (by omega)) (nI_toInt (by omega))).trans (decide_eq_false (by omega))) ?_
      refine E_aload_n rfl rfl ?_
      refine E_getfield (v := .ref 31) rfl w0 rfl (by decide) rfl ?_
      refine E_iload_n rfl rfl ?_
      refine E_aalN (b := 49 + 2 * v) rfl w31 (by omega) (w_shs (by omega)) ?_
      refine E_astore_n (L2 := [some (.ref 0), some (.int (nI v)), some (.ref (49 + 2 * v))]) rfl rfl ?_
      refine E_aload_n rfl rfl ?_
      have e1 : Ev ab_Z0 1 33 [.ref (49 + 2 * v)] (ww im lf s d k ls rf rz ra rn rq lt m1 m2 m3 m4 bd fc (rsF (qN s) hd hd (-1) v) (rsF (qN s) hd sz (nI 0) v) el t g fm hm so si sh ce ca td wa kp la bf oo bo pw ow tr) (some (.int (nI 0)), (ww im lf s d k ls rf rz ra rn rq lt m1 m2 m3 m4 bd fc (rsF (qN s) hd hd (-1) v) (rsF (qN s) hd sz (nI 0) v) el t g fm hm so si sh ce ca td wa kp la bf oo bo pw ow tr)) := by
        refine Ef.in (md := mX3_isOtherThanRow) (L := [some (.ref (49 + 2 * v))]) rfl (Nat.le_of_ble_eq_true rfl) rfl ?_
        refine E_aload_n at_X3_isOtherThanRow_0 rfl ?_
        refine E_getfield (v := .int (hd v)) at_X3_isOtherThanRow_1 (w_shv (j := v) (by omega) (rsF_at (Nat.le_refl _)) (rsF_at (Nat.le_refl _))) rfl (by decide) rfl ?_
        refine E_if (t := 20) (b := true) at_X3_isOtherThanRow_4 rfl ((cn_lt rfl (by decide : (0 : Int32).toInt = 0)).trans (decide_eq_true (by omega))) ?_
        refine E_iconst (x := nI 0) at_X3_isOtherThanRow_20 (by decide) ?_
        exact E_iret at_X3_isOtherThanRow_21 rfl
      refine E_callV (v := some (.int (nI 0))) (As := [.ref (49 + 2 * v)]) (r0 := []) (cs2 := (ww im lf s d k ls rf rz ra rn rq lt m1 m2 m3 m4 bd fc (rsF (qN s) hd hd (-1) v) (rsF (qN s) hd sz (nI 0) v) el t g fm hm so si sh ce ca td wa kp la bf oo bo pw ow tr)) rfl rfl rfl (Nat.le_of_ble_eq_true rfl) rfl (ab_rvOf (w_shv (j := v) (by omega) (rsF_at (Nat.le_refl _)) (rsF_at (Nat.le_refl _))) rfl) e1 (by omega) rfl ?_
      refine E_if (t := 66) (b := true) rfl rfl (by decide) ?_
      refine E_iinc (y := nI (v + 1)) (L2 := [some (.ref 0), some (.int (nI (v + 1))), some (.ref (49 + 2 * v))]) rfl rfl (nI_1 _) rfl ?_
      refine E_goto (t := 27) rfl rfl ?_
      have c1 : ¬ rsC (qN s) (hd v) := fun z => by have z1 := z.1; have z2 := z.2.1; have z3 := z.2.2; omega
      have X := ih (v + 1) (some (.ref (49 + 2 * v))) (by omega)
      rw [← rsF_2 (f := hd) c1, ← rsF_2 (f := sz) c1] at X
      exact X
    · by_cases f1 : ((hd v).toInt) < 100
      · by_cases f2 : ((hd v).toInt) < (qN s : Int)
        · refine E_iload_n rfl rfl ?_
          refine E_bipush (x := nI 8) rfl (by decide) ?_
          refine E_ic (t := 72) (b := false) rfl rfl ((cn_ge (nI_toInt (by omega)) (nI_toInt (by omega))).trans (decide_eq_false (by omega))) ?_
          refine E_aload_n rfl rfl ?_
          refine E_getfield (v := .ref 31) rfl w0 rfl (by decide) rfl ?_
          refine E_iload_n rfl rfl ?_
          refine E_aalN (b := 49 + 2 * v) rfl w31 (by omega) (w_shs (by omega)) ?_
          refine E_astore_n (L2 := [some (.ref 0), some (.int (nI v)), some (.ref (49 + 2 * v))]) rfl rfl ?_
          refine E_aload_n rfl rfl ?_
          have e1 : Ev ab_Z0 1 33 [.ref (49 + 2 * v)] (ww im lf s d k ls rf rz ra rn rq lt m1 m2 m3 m4 bd fc (rsF (qN s) hd hd (-1) v) (rsF (qN s) hd sz (nI 0) v) el t g fm hm so si sh ce ca td wa kp la bf oo bo pw ow tr) (some (.int (nI 1)), (ww im lf s d k ls rf rz ra rn rq lt m1 m2 m3 m4 bd fc (rsF (qN s) hd hd (-1) v) (rsF (qN s) hd sz (nI 0) v) el t g fm hm so si sh ce ca td wa kp la bf oo bo pw ow tr)) := by
            refine Ef.in (md := mX3_isOtherThanRow) (L := [some (.ref (49 + 2 * v))]) rfl (Nat.le_of_ble_eq_true rfl) rfl ?_
            refine E_aload_n at_X3_isOtherThanRow_0 rfl ?_
            refine E_getfield (v := .int (hd v)) at_X3_isOtherThanRow_1 (w_shv (j := v) (by omega) (rsF_at (Nat.le_refl _)) (rsF_at (Nat.le_refl _))) rfl (by decide) rfl ?_
            refine E_if (t := 20) (b := false) at_X3_isOtherThanRow_4 rfl ((cn_lt rfl (by decide : (0 : Int32).toInt = 0)).trans (decide_eq_false (by omega))) ?_
            refine E_aload_n at_X3_isOtherThanRow_7 rfl ?_
            refine E_getfield (v := .int (hd v)) at_X3_isOtherThanRow_8 (w_shv (j := v) (by omega) (rsF_at (Nat.le_refl _)) (rsF_at (Nat.le_refl _))) rfl (by decide) rfl ?_
            refine E_bipush (x := nI 100) at_X3_isOtherThanRow_11 (by decide) ?_
            refine E_ic (t := 20) (b := false) at_X3_isOtherThanRow_13 rfl ((cn_ge rfl (nI_toInt (by omega))).trans (decide_eq_false (by omega))) ?_
            refine E_iconst (x := nI 1) at_X3_isOtherThanRow_16 (by decide) ?_
            refine E_goto (t := 21) at_X3_isOtherThanRow_17 rfl ?_
            exact E_iret at_X3_isOtherThanRow_21 rfl
          refine E_callV (v := some (.int (nI 1))) (As := [.ref (49 + 2 * v)]) (r0 := []) (cs2 := (ww im lf s d k ls rf rz ra rn rq lt m1 m2 m3 m4 bd fc (rsF (qN s) hd hd (-1) v) (rsF (qN s) hd sz (nI 0) v) el t g fm hm so si sh ce ca td wa kp la bf oo bo pw ow tr)) rfl rfl rfl (Nat.le_of_ble_eq_true rfl) rfl (ab_rvOf (w_shv (j := v) (by omega) (rsF_at (Nat.le_refl _)) (rsF_at (Nat.le_refl _))) rfl) e1 (by omega) rfl ?_
          refine E_if (t := 66) (b := false) rfl rfl (by decide) ?_
          refine E_aload_n rfl rfl ?_
          refine E_getfield (v := .ref 1) rfl w0 rfl (by decide) rfl ?_
          refine E_aload_n rfl rfl ?_
          refine E_getfield (v := .int (hd v)) rfl (w_shv (j := v) (by omega) (rsF_at (Nat.le_refl _)) (rsF_at (Nat.le_refl _))) rfl (by decide) rfl ?_
          have e2 : Ev ab_Z0 1 50 [.ref 1, .int (hd v)] (ww im lf s d k ls rf rz ra rn rq lt m1 m2 m3 m4 bd fc (rsF (qN s) hd hd (-1) v) (rsF (qN s) hd sz (nI 0) v) el t g fm hm so si sh ce ca td wa kp la bf oo bo pw ow tr) (some (.int (nI 1)), (ww im lf s d k ls rf rz ra rn rq lt m1 m2 m3 m4 bd fc (rsF (qN s) hd hd (-1) v) (rsF (qN s) hd sz (nI 0) v) el t g fm hm so si sh ce ca td wa kp la bf oo bo pw ow tr)) := by
            refine Ef.in (md := mX4_isPiece) (L := [some (.ref 1), some (.int (hd v))]) rfl (Nat.le_of_ble_eq_true rfl) rfl ?_
            refine E_iload_n at_X4_isPiece_0 rfl ?_
            refine E_if (t := 16) (b := false) at_X4_isPiece_1 rfl ((cn_lt rfl (by decide : (0 : Int32).toInt = 0)).trans (decide_eq_false (by omega))) ?_
            refine E_iload_n at_X4_isPiece_4 rfl ?_
            refine E_aload_n at_X4_isPiece_5 rfl ?_
            refine E_getfield (v := .int (nI (qN s))) at_X4_isPiece_6 w1 rfl (by decide) rfl ?_
            refine E_ic (t := 16) (b := false) at_X4_isPiece_9 rfl ((cn_ge rfl (nI_toInt (by omega))).trans (decide_eq_false (by omega))) ?_
            refine E_iconst (x := nI 1) at_X4_isPiece_12 (by decide) ?_
            refine E_goto (t := 17) at_X4_isPiece_13 rfl ?_
            exact E_iret at_X4_isPiece_17 rfl
          refine E_callV (v := some (.int (nI 1))) (As := [.ref 1, .int (hd v)]) (r0 := []) (cs2 := (ww im lf s d k ls rf rz ra rn rq lt m1 m2 m3 m4 bd fc (rsF (qN s) hd hd (-1) v) (rsF (qN s) hd sz (nI 0) v) el t g fm hm so si sh ce ca td wa kp la bf oo bo pw ow tr)) rfl rfl rfl (Nat.le_of_ble_eq_true rfl) rfl (ab_rvOf w1 rfl) e2 (by omega) rfl ?_
          refine E_if (t := 66) (b := true) rfl rfl (by decide) ?_
          refine E_iinc (y := nI (v + 1)) (L2 := [some (.ref 0), some (.int (nI (v + 1))), some (.ref (49 + 2 * v))]) rfl rfl (nI_1 _) rfl ?_
          refine E_goto (t := 27) rfl rfl ?_
          have c1 : ¬ rsC (qN s) (hd v) := fun z => by have z1 := z.1; have z2 := z.2.1; have z3 := z.2.2; omega
          have X := ih (v + 1) (some (.ref (49 + 2 * v))) (by omega)
          rw [← rsF_2 (f := hd) c1, ← rsF_2 (f := sz) c1] at X
          exact X
        · refine E_iload_n rfl rfl ?_
          refine E_bipush (x := nI 8) rfl (by decide) ?_
          refine E_ic (t := 72) (b := false) rfl rfl ((cn_ge (nI_toInt (by omega)) (nI_toInt (by omega))).trans (decide_eq_false (by omega))) ?_
          refine E_aload_n rfl rfl ?_
          refine E_getfield (v := .ref 31) rfl w0 rfl (by decide) rfl ?_
          refine E_iload_n rfl rfl ?_
          refine E_aalN (b := 49 + 2 * v) rfl w31 (by omega) (w_shs (by omega)) ?_
          refine E_astore_n (L2 := [some (.ref 0), some (.int (nI v)), some (.ref (49 + 2 * v))]) rfl rfl ?_
          refine E_aload_n rfl rfl ?_
          have e1 : Ev ab_Z0 1 33 [.ref (49 + 2 * v)] (ww im lf s d k ls rf rz ra rn rq lt m1 m2 m3 m4 bd fc (rsF (qN s) hd hd (-1) v) (rsF (qN s) hd sz (nI 0) v) el t g fm hm so si sh ce ca td wa kp la bf oo bo pw ow tr) (some (.int (nI 1)), (ww im lf s d k ls rf rz ra rn rq lt m1 m2 m3 m4 bd fc (rsF (qN s) hd hd (-1) v) (rsF (qN s) hd sz (nI 0) v) el t g fm hm so si sh ce ca td wa kp la bf oo bo pw ow tr)) := by
            refine Ef.in (md := mX3_isOtherThanRow) (L := [some (.ref (49 + 2 * v))]) rfl (Nat.le_of_ble_eq_true rfl) rfl ?_
            refine E_aload_n at_X3_isOtherThanRow_0 rfl ?_
            refine E_getfield (v := .int (hd v)) at_X3_isOtherThanRow_1 (w_shv (j := v) (by omega) (rsF_at (Nat.le_refl _)) (rsF_at (Nat.le_refl _))) rfl (by decide) rfl ?_
            refine E_if (t := 20) (b := false) at_X3_isOtherThanRow_4 rfl ((cn_lt rfl (by decide : (0 : Int32).toInt = 0)).trans (decide_eq_false (by omega))) ?_
            refine E_aload_n at_X3_isOtherThanRow_7 rfl ?_
            refine E_getfield (v := .int (hd v)) at_X3_isOtherThanRow_8 (w_shv (j := v) (by omega) (rsF_at (Nat.le_refl _)) (rsF_at (Nat.le_refl _))) rfl (by decide) rfl ?_
            refine E_bipush (x := nI 100) at_X3_isOtherThanRow_11 (by decide) ?_
            refine E_ic (t := 20) (b := false) at_X3_isOtherThanRow_13 rfl ((cn_ge rfl (nI_toInt (by omega))).trans (decide_eq_false (by omega))) ?_
            refine E_iconst (x := nI 1) at_X3_isOtherThanRow_16 (by decide) ?_
            refine E_goto (t := 21) at_X3_isOtherThanRow_17 rfl ?_
            exact E_iret at_X3_isOtherThanRow_21 rfl
          refine E_callV (v := some (.int (nI 1))) (As := [.ref (49 + 2 * v)]) (r0 := []) (cs2 := (ww im lf s d k ls rf rz ra rn rq lt m1 m2 m3 m4 bd fc (rsF (qN s) hd hd (-1) v) (rsF (qN s) hd sz (nI 0) v) el t g fm hm so si sh ce ca td wa kp la bf oo bo pw ow tr)) rfl rfl rfl (Nat.le_of_ble_eq_true rfl) rfl (ab_rvOf (w_shv (j := v) (by omega) (rsF_at (Nat.le_refl _)) (rsF_at (Nat.le_refl _))) rfl) e1 (by omega) rfl ?_
          refine E_if (t := 66) (b := false) rfl rfl (by decide) ?_
          refine E_aload_n rfl rfl ?_
          refine E_getfield (v := .ref 1) rfl w0 rfl (by decide) rfl ?_
          refine E_aload_n rfl rfl ?_
          refine E_getfield (v := .int (hd v)) rfl (w_shv (j := v) (by omega) (rsF_at (Nat.le_refl _)) (rsF_at (Nat.le_refl _))) rfl (by decide) rfl ?_
          have e2 : Ev ab_Z0 1 50 [.ref 1, .int (hd v)] (ww im lf s d k ls rf rz ra rn rq lt m1 m2 m3 m4 bd fc (rsF (qN s) hd hd (-1) v) (rsF (qN s) hd sz (nI 0) v) el t g fm hm so si sh ce ca td wa kp la bf oo bo pw ow tr) (some (.int (nI 0)), (ww im lf s d k ls rf rz ra rn rq lt m1 m2 m3 m4 bd fc (rsF (qN s) hd hd (-1) v) (rsF (qN s) hd sz (nI 0) v) el t g fm hm so si sh ce ca td wa kp la bf oo bo pw ow tr)) := by
            refine Ef.in (md := mX4_isPiece) (L := [some (.ref 1), some (.int (hd v))]) rfl (Nat.le_of_ble_eq_true rfl) rfl ?_
            refine E_iload_n at_X4_isPiece_0 rfl ?_
            refine E_if (t := 16) (b := false) at_X4_isPiece_1 rfl ((cn_lt rfl (by decide : (0 : Int32).toInt = 0)).trans (decide_eq_false (by omega))) ?_
            refine E_iload_n at_X4_isPiece_4 rfl ?_
            refine E_aload_n at_X4_isPiece_5 rfl ?_
            refine E_getfield (v := .int (nI (qN s))) at_X4_isPiece_6 w1 rfl (by decide) rfl ?_
            refine E_ic (t := 16) (b := true) at_X4_isPiece_9 rfl ((cn_ge rfl (nI_toInt (by omega))).trans (decide_eq_true (by omega))) ?_
            refine E_iconst (x := nI 0) at_X4_isPiece_16 (by decide) ?_
            exact E_iret at_X4_isPiece_17 rfl
          refine E_callV (v := some (.int (nI 0))) (As := [.ref 1, .int (hd v)]) (r0 := []) (cs2 := (ww im lf s d k ls rf rz ra rn rq lt m1 m2 m3 m4 bd fc (rsF (qN s) hd hd (-1) v) (rsF (qN s) hd sz (nI 0) v) el t g fm hm so si sh ce ca td wa kp la bf oo bo pw ow tr)) rfl rfl rfl (Nat.le_of_ble_eq_true rfl) rfl (ab_rvOf w1 rfl) e2 (by omega) rfl ?_
          refine E_if (t := 66) (b := false) rfl rfl (by decide) ?_
          refine E_aload_n rfl rfl ?_
          refine E_iconst (x := (-1)) rfl (by decide) ?_
          have e3 : Ev ab_Z0 1 31 [.ref (49 + 2 * v), .int (-1)] (ww im lf s d k ls rf rz ra rn rq lt m1 m2 m3 m4 bd fc (rsF (qN s) hd hd (-1) v) (rsF (qN s) hd sz (nI 0) v) el t g fm hm so si sh ce ca td wa kp la bf oo bo pw ow tr) (none, (ww im lf s d k ls rf rz ra rn rq lt m1 m2 m3 m4 bd fc (fUp (rsF (qN s) hd hd (-1) v) v (-1)) (fUp (rsF (qN s) hd sz (nI 0) v) v (nI 0)) el t g fm hm so si sh ce ca td wa kp la bf oo bo pw ow tr)) := by
            refine Ef.in (md := mX3_holdPiece) (L := [some (.ref (49 + 2 * v)), some (.int (-1))]) rfl (Nat.le_of_ble_eq_true rfl) rfl ?_
            refine E_aload_n at_X3_holdPiece_0 rfl ?_
            refine E_iload_n at_X3_holdPiece_1 rfl ?_
            refine E_putfield (cs2 := (ww im lf s d k ls rf rz ra rn rq lt m1 m2 m3 m4 bd fc (fUp (rsF (qN s) hd hd (-1) v) v (-1)) (fUp (rsF (qN s) hd sz (nI 0) v) v (sz v)) el t g fm hm so si sh ce ca td wa kp la bf oo bo pw ow tr)) at_X3_holdPiece_2 (w_shv (j := v) (by omega) (rsF_at (Nat.le_refl _)) (rsF_at (Nat.le_refl _))) rfl (by decide) (Nat.le_of_ble_eq_true rfl) rfl rfl rfl (w_shput (by omega)) ?_
            refine E_aload_n at_X3_holdPiece_5 rfl ?_
            refine E_iconst (x := nI 0) at_X3_holdPiece_6 (by decide) ?_
            refine E_putfield (cs2 := (ww im lf s d k ls rf rz ra rn rq lt m1 m2 m3 m4 bd fc (fUp (rsF (qN s) hd hd (-1) v) v (-1)) (fUp (rsF (qN s) hd sz (nI 0) v) v (nI 0)) el t g fm hm so si sh ce ca td wa kp la bf oo bo pw ow tr)) at_X3_holdPiece_7 (w_shv (j := v) (by omega) fUp_eq fUp_eq) rfl (by decide) (Nat.le_of_ble_eq_true rfl) rfl rfl rfl (w_shput2 (by omega)) ?_
            exact E_vret at_X3_holdPiece_10 rfl
          refine E_callV (v := none) (As := [.ref (49 + 2 * v), .int (-1)]) (r0 := []) (cs2 := (ww im lf s d k ls rf rz ra rn rq lt m1 m2 m3 m4 bd fc (fUp (rsF (qN s) hd hd (-1) v) v (-1)) (fUp (rsF (qN s) hd sz (nI 0) v) v (nI 0)) el t g fm hm so si sh ce ca td wa kp la bf oo bo pw ow tr)) rfl rfl rfl (Nat.le_of_ble_eq_true rfl) rfl (ab_rvOf (w_shv (j := v) (by omega) (rsF_at (Nat.le_refl _)) (rsF_at (Nat.le_refl _))) rfl) e3 (by omega) w_lens ?_
          refine E_iinc (y := nI (v + 1)) (L2 := [some (.ref 0), some (.int (nI (v + 1))), some (.ref (49 + 2 * v))]) rfl rfl (nI_1 _) rfl ?_
          refine E_goto (t := 27) rfl rfl ?_
          have c1 : rsC (qN s) (hd v) := ⟨by omega, by omega, by omega⟩
          have X := ih (v + 1) (some (.ref (49 + 2 * v))) (by omega)
          rw [← rsF_1 (f := hd) c1, ← rsF_1 (f := sz) c1] at X
          exact X
      · refine E_iload_n rfl rfl ?_
        refine E_bipush (x := nI 8) rfl (by decide) ?_
        refine E_ic (t := 72) (b := false) rfl rfl ((cn_ge (nI_toInt (by omega)) (nI_toInt (by omega))).trans (decide_eq_false (by omega))) ?_
        refine E_aload_n rfl rfl ?_
        refine E_getfield (v := .ref 31) rfl w0 rfl (by decide) rfl ?_
        refine E_iload_n rfl rfl ?_
        refine E_aalN (b := 49 + 2 * v) rfl w31 (by omega) (w_shs (by omega)) ?_
        refine E_astore_n (L2 := [some (.ref 0), some (.int (nI v)), some (.ref (49 + 2 * v))]) rfl rfl ?_
        refine E_aload_n rfl rfl ?_
        have e1 : Ev ab_Z0 1 33 [.ref (49 + 2 * v)] (ww im lf s d k ls rf rz ra rn rq lt m1 m2 m3 m4 bd fc (rsF (qN s) hd hd (-1) v) (rsF (qN s) hd sz (nI 0) v) el t g fm hm so si sh ce ca td wa kp la bf oo bo pw ow tr) (some (.int (nI 0)), (ww im lf s d k ls rf rz ra rn rq lt m1 m2 m3 m4 bd fc (rsF (qN s) hd hd (-1) v) (rsF (qN s) hd sz (nI 0) v) el t g fm hm so si sh ce ca td wa kp la bf oo bo pw ow tr)) := by
          refine Ef.in (md := mX3_isOtherThanRow) (L := [some (.ref (49 + 2 * v))]) rfl (Nat.le_of_ble_eq_true rfl) rfl ?_
          refine E_aload_n at_X3_isOtherThanRow_0 rfl ?_
          refine E_getfield (v := .int (hd v)) at_X3_isOtherThanRow_1 (w_shv (j := v) (by omega) (rsF_at (Nat.le_refl _)) (rsF_at (Nat.le_refl _))) rfl (by decide) rfl ?_
          refine E_if (t := 20) (b := false) at_X3_isOtherThanRow_4 rfl ((cn_lt rfl (by decide : (0 : Int32).toInt = 0)).trans (decide_eq_false (by omega))) ?_
          refine E_aload_n at_X3_isOtherThanRow_7 rfl ?_
          refine E_getfield (v := .int (hd v)) at_X3_isOtherThanRow_8 (w_shv (j := v) (by omega) (rsF_at (Nat.le_refl _)) (rsF_at (Nat.le_refl _))) rfl (by decide) rfl ?_
          refine E_bipush (x := nI 100) at_X3_isOtherThanRow_11 (by decide) ?_
          refine E_ic (t := 20) (b := true) at_X3_isOtherThanRow_13 rfl ((cn_ge rfl (nI_toInt (by omega))).trans (decide_eq_true (by omega))) ?_
          refine E_iconst (x := nI 0) at_X3_isOtherThanRow_20 (by decide) ?_
          exact E_iret at_X3_isOtherThanRow_21 rfl
        refine E_callV (v := some (.int (nI 0))) (As := [.ref (49 + 2 * v)]) (r0 := []) (cs2 := (ww im lf s d k ls rf rz ra rn rq lt m1 m2 m3 m4 bd fc (rsF (qN s) hd hd (-1) v) (rsF (qN s) hd sz (nI 0) v) el t g fm hm so si sh ce ca td wa kp la bf oo bo pw ow tr)) rfl rfl rfl (Nat.le_of_ble_eq_true rfl) rfl (ab_rvOf (w_shv (j := v) (by omega) (rsF_at (Nat.le_refl _)) (rsF_at (Nat.le_refl _))) rfl) e1 (by omega) rfl ?_
        refine E_if (t := 66) (b := true) rfl rfl (by decide) ?_
        refine E_iinc (y := nI (v + 1)) (L2 := [some (.ref 0), some (.int (nI (v + 1))), some (.ref (49 + 2 * v))]) rfl rfl (nI_1 _) rfl ?_
        refine E_goto (t := 27) rfl rfl ?_
        have c1 : ¬ rsC (qN s) (hd v) := fun z => by have z1 := z.1; have z2 := z.2.1; have z3 := z.2.2; omega
        have X := ih (v + 1) (some (.ref (49 + 2 * v))) (by omega)
        rw [← rsF_2 (f := hd) c1, ← rsF_2 (f := sz) c1] at X
        exact X
theorem crs {dd : Nat} {r : Option Value × List ab_C} (i9 : qN s ≤ 9) (K : ∀ x2, Ef ab_Z0 (dd + 1) mX5_restore (72, [some (.ref 0), some (.int (nI 8)), x2], [], (ww im lf s d k ls rf rz ra rn rq lt m1 m2 m3 m4 bd fc (rsF (qN s) hd hd (-1) 8) (rsF (qN s) hd sz (nI 0) 8) el t g fm hm so si sh ce ca td wa kp la bf oo bo pw ow tr)) r) (x2 : Option Value) : Ef ab_Z0 (dd + 1) mX5_restore (27, [some (.ref 0), some (.int (nI 0)), x2], [], (ww im lf s d k ls rf rz ra rn rq lt m1 m2 m3 m4 bd fc hd sz el t g fm hm so si sh ce ca td wa kp la bf oo bo pw ow tr)) r := by
  have X := crs_l i9 K 8 0 x2 rfl
  rw [rsF_0, rsF_0] at X
  exact X
set_option maxHeartbeats 2000000 in
theorem mrs_l {dd : Nat} {r : Option Value × List ab_C}  (i9 : qN t ≤ 9) (l_hm : hm.length = 8) (l_sh : sh.length = 8) (hmb : ∀ j, j < 8 → hm.getD j 0 ≤ 2) (K : Ef ab_Z0 dd mX6_restore (67, [some (.ref 65), some (.int (nI 8))], [], (ww im lf s d k ls rf rz ra rn rq lt m1 m2 m3 m4 bd fc hd sz el t g fm (rsM hm sh (qN t) 8) so si sh ce ca td wa kp la bf oo bo pw ow tr)) r) : ∀ m v, v + m = 8 → Ef ab_Z0 dd mX6_restore (25, [some (.ref 65), some (.int (nI v))], [], (ww im lf s d k ls rf rz ra rn rq lt m1 m2 m3 m4 bd fc hd sz el t g fm (rsM hm sh (qN t) v) so si sh ce ca td wa kp la bf oo bo pw ow tr)) r := by
  intro m
  induction m with
  | zero =>
    intro v hi
    have hi : v = 8 := by omega
    rw [hi]
    refine E_iload_n at_X6_restore_25 rfl ?_
    refine E_bipush (x := nI 8) at_X6_restore_26 (by decide) ?_
    refine E_ic (t := 67) (b := true) at_X6_restore_28 rfl (by decide) ?_
    exact K
  | succ m ih =>
    intro v hi
    by_cases f0 : (hm.getD v 0) = 2
    · by_cases f1 : ((sh.getD v 0).toInt) < (qN t : Int)
      · have := rsM_len hm sh (qN t) v
        have := hmb v (by omega)
        have : (rsM hm sh (qN t) v).length = 8 := by first | omega | (simp only [List.length_set]; omega)
        refine E_iload_n at_X6_restore_25 rfl ?_
        refine E_bipush (x := nI 8) at_X6_restore_26 (by decide) ?_
        refine E_ic (t := 67) (b := false) at_X6_restore_28 rfl ((cn_ge (nI_toInt (by omega)) (nI_toInt (by omega))).trans (decide_eq_false (by omega))) ?_
        refine E_aload_n rfl rfl ?_
        refine E_getfield (v := .ref 76) rfl w65 rfl (by decide) rfl ?_
        refine E_iload_n rfl rfl ?_
        refine E_ialN (l := (rsM hm sh (qN t) v)) (v := hm.getD v 0) rfl w76 (by omega) (by omega) ((rsM_get _ _ (by omega)).trans (if_neg (by omega))) ?_
        refine E_iconst (x := nI 2) rfl (by decide) ?_
        refine E_ic (t := 61) (b := false) rfl rfl ((cn_ne (nI_toInt (by omega)) (nI_toInt (by omega))).trans (decide_eq_false (by omega))) ?_
        refine E_aload_n rfl rfl ?_
        refine E_getfield (v := .ref 79) rfl w65 rfl (by decide) rfl ?_
        refine E_iload_n rfl rfl ?_
        refine E_ialI (l := sh) (v := sh.getD v 0) rfl w79 (by omega) (by omega) rfl ?_
        refine E_aload_n rfl rfl ?_
        refine E_getfield (v := .int (nI (qN t))) rfl w65 rfl (by decide) rfl ?_
        refine E_ic (t := 61) (b := true) rfl rfl ((cn_lt rfl (nI_toInt (by omega))).trans (decide_eq_true (by omega))) ?_
        refine E_iinc (y := nI (v + 1)) (L2 := [some (.ref 65), some (.int (nI (v + 1)))]) rfl rfl (nI_1 _) rfl ?_
        refine E_goto (t := 25) rfl rfl ?_
        have X := ih (v + 1) (by omega)
        rw [← rsM_2 (by omega)] at X
        exact X
      · have := rsM_len hm sh (qN t) v
        have := hmb v (by omega)
        have : (rsM hm sh (qN t) v).length = 8 := by first | omega | (simp only [List.length_set]; omega)
        refine E_iload_n at_X6_restore_25 rfl ?_
        refine E_bipush (x := nI 8) at_X6_restore_26 (by decide) ?_
        refine E_ic (t := 67) (b := false) at_X6_restore_28 rfl ((cn_ge (nI_toInt (by omega)) (nI_toInt (by omega))).trans (decide_eq_false (by omega))) ?_
        refine E_aload_n rfl rfl ?_
        refine E_getfield (v := .ref 76) rfl w65 rfl (by decide) rfl ?_
        refine E_iload_n rfl rfl ?_
        refine E_ialN (l := (rsM hm sh (qN t) v)) (v := hm.getD v 0) rfl w76 (by omega) (by omega) ((rsM_get _ _ (by omega)).trans (if_neg (by omega))) ?_
        refine E_iconst (x := nI 2) rfl (by decide) ?_
        refine E_ic (t := 61) (b := false) rfl rfl ((cn_ne (nI_toInt (by omega)) (nI_toInt (by omega))).trans (decide_eq_false (by omega))) ?_
        refine E_aload_n rfl rfl ?_
        refine E_getfield (v := .ref 79) rfl w65 rfl (by decide) rfl ?_
        refine E_iload_n rfl rfl ?_
        refine E_ialI (l := sh) (v := sh.getD v 0) rfl w79 (by omega) (by omega) rfl ?_
        refine E_aload_n rfl rfl ?_
        refine E_getfield (v := .int (nI (qN t))) rfl w65 rfl (by decide) rfl ?_
        refine E_ic (t := 61) (b := false) rfl rfl ((cn_lt rfl (nI_toInt (by omega))).trans (decide_eq_false (by omega))) ?_
        refine E_aload_n rfl rfl ?_
        refine E_getfield (v := .ref 76) rfl w65 rfl (by decide) rfl ?_
        refine E_iload_n rfl rfl ?_
        refine E_iconst (x := nI 0) rfl (by decide) ?_
        refine E_iasN (l := (rsM hm sh (qN t) v)) (cs2 := (ww im lf s d k ls rf rz ra rn rq lt m1 m2 m3 m4 bd fc hd sz el t g fm ((rsM hm sh (qN t) v).set v 0) so si sh ce ca td wa kp la bf oo bo pw ow tr)) rfl w76 (by omega) (by omega) rfl ?_
        refine E_iinc (y := nI (v + 1)) (L2 := [some (.ref 65), some (.int (nI (v + 1)))]) rfl rfl (nI_1 _) rfl ?_
        refine E_goto (t := 25) rfl rfl ?_
        have X := ih (v + 1) (by omega)
        rw [← rsM_1 (by omega)] at X
        exact X
    · have := rsM_len hm sh (qN t) v
      have := hmb v (by omega)
      have : (rsM hm sh (qN t) v).length = 8 := by first | omega | (simp only [List.length_set]; omega)
      refine E_iload_n at_X6_restore_25 rfl ?_
      refine E_bipush (x := nI 8) at_X6_restore_26 (by decide) ?_
      refine E_ic (t := 67) (b := false) at_X6_restore_28 rfl ((cn_ge (nI_toInt (by omega)) (nI_toInt (by omega))).trans (decide_eq_false (by omega))) ?_
      refine E_aload_n rfl rfl ?_
      refine E_getfield (v := .ref 76) rfl w65 rfl (by decide) rfl ?_
      refine E_iload_n rfl rfl ?_
      refine E_ialN (l := (rsM hm sh (qN t) v)) (v := hm.getD v 0) rfl w76 (by omega) (by omega) ((rsM_get _ _ (by omega)).trans (if_neg (by omega))) ?_
      refine E_iconst (x := nI 2) rfl (by decide) ?_
      refine E_ic (t := 61) (b := true) rfl rfl ((cn_ne (nI_toInt (by omega)) (nI_toInt (by omega))).trans (decide_eq_true (by omega))) ?_
      refine E_iinc (y := nI (v + 1)) (L2 := [some (.ref 65), some (.int (nI (v + 1)))]) rfl rfl (nI_1 _) rfl ?_
      refine E_goto (t := 25) rfl rfl ?_
      have X := ih (v + 1) (by omega)
      rw [← rsM_2 (by omega)] at X
      exact X
end RS
