/-! Square's reading methods, continued; by program (wip/tools/sq.py) -/
theorem ab_or (a b : Nat) : nI a ||| nI b = nI (a ||| b) := by
  apply Int32.toBitVec_inj.mp
  rw [Int32.toBitVec_or]
  show BitVec.ofNat 32 a ||| BitVec.ofNat 32 b = BitVec.ofNat 32 (a ||| b)
  rw [BitVec.ofNat_or]
theorem ab_orp {a i : Nat} (h : a < 2 ^ i) : nI a ||| nI (2 ^ i) = nI (a + 2 ^ i) := by
  rw [ab_or, Nat.or_comm, Nat.add_comm]
  have := Nat.two_pow_add_eq_or_of_lt h 1
  rw [Nat.mul_one] at this
  rw [this]
theorem ab_or0 (a : Nat) : nI a ||| nI 0 = nI a := by
  rw [ab_or, Nat.or_zero]
theorem ab_shl {i : Nat} (hi : i < 31) : nI 1 <<< (nI i &&& 31) = nI (2 ^ i) := by
  rw [pk_shlN (n := 1) (nI i &&& 31) i (ab_shk i hi) (by rw [Nat.one_mul]; exact Nat.pow_lt_pow_right (by decide) (by omega)), Nat.one_mul]
/-- the pieces at w, of the first i, as bits -/
def qPs (s : ab_q) (w : Nat) : Nat → Nat
  | 0 => 0
  | i + 1 => qPs s w i + (if (qP s).getD i 0 = w then 2 ^ i else 0)
theorem qPs_lt (s : ab_q) (w : Nat) : ∀ i, qPs s w i < 2 ^ i
  | 0 => Nat.one_pos
  | i + 1 => by
    have := qPs_lt s w i
    have e : 2 ^ (i + 1) = 2 ^ i + 2 ^ i := by rw [Nat.pow_succ]; omega
    show qPs s w i + (if _ then _ else _) < _
    rw [e]
    split
    · exact Nat.add_lt_add_right this _
    · exact Nat.lt_of_lt_of_le this (Nat.le_add_right _ _)
theorem qPs_1 {s : ab_q} {w i : Nat} (e : (qP s).getD i 0 = w) : nI (qPs s w i) ||| nI (2 ^ i) = nI (qPs s w (i + 1)) := by
  rw [ab_orp (qPs_lt s w i)]
  show _ = nI (_ + (if _ then _ else _))
  rw [if_pos e]
theorem qPs_0 {s : ab_q} {w i : Nat} (e : ¬ (qP s).getD i 0 = w) : nI (qPs s w i) ||| nI 0 = nI (qPs s w (i + 1)) := by
  rw [ab_or0]
  show _ = nI (_ + (if _ then _ else _))
  rw [if_neg e]
  rfl
theorem qPs_in (s : ab_q) (w : Nat) {i : Nat} (hi : i ≤ 9) : qPs s w i < 512 := Nat.lt_of_lt_of_le (qPs_lt s w i) (Nat.pow_le_pow_right (n := 2) (by decide) hi)
theorem sq_bitsAt_l {cs : List ab_C} {b : Nat} {s : ab_q} {w : Nat} {r : Option Value × List ab_C} (h : qAt cs b s) (I : qI s) (hw : w < 2 ^ 31) (K : Ef ab_Z0 0 mX4_bitsAt (38, [some (.ref b), some (.int (nI w)), some (.int (nI (qPs s w (qN s)))), some (.int (nI (qN s)))], [], cs) r) : ∀ n i, i + n = qN s → Ef ab_Z0 0 mX4_bitsAt (4, [some (.ref b), some (.int (nI w)), some (.int (nI (qPs s w i))), some (.int (nI i))], [], cs) r := by
  have hh := h
  obtain ⟨h0, h1, h2, h3, h4, h5, h6, h7, h8, h9⟩ := h
  obtain ⟨⟨i0, i1, i2, i3⟩, ⟨i4, i5, i6, i7, i8⟩, ⟨i9, i10⟩, I1, I2, I3, I4⟩ := id I
  have h := hh
  intro n
  induction n with
  | zero =>
    intro i hi
    obtain rfl : i = qN s := by omega
    refine E_iload_n rfl rfl ?_
    refine E_aload_n rfl rfl ?_
    refine E_getfield (v := .int (nI (qN s))) rfl h0 rfl (by decide) rfl ?_
    refine E_ic (t := 38) (b := true) rfl rfl ((cn_geN (by omega) (by omega)).trans (decide_eq_true (by omega))) ?_
    exact K
  | succ n ih =>
    intro i hi
    by_cases e : (qP s).getD i 0 = w
    · have J := I1 i (by omega)
      refine E_iload_n rfl rfl ?_
      refine E_aload_n rfl rfl ?_
      refine E_getfield (v := .int (nI (qN s))) rfl h0 rfl (by decide) rfl ?_
      refine E_ic (t := 38) (b := false) rfl rfl ((cn_geN (by omega) (by omega)).trans (decide_eq_false (by omega))) ?_
      refine E_iload_n rfl rfl ?_
      refine E_aload_n rfl rfl ?_
      refine E_getfield (v := .ref (b + 4)) rfl h0 rfl (by decide) rfl ?_
      refine E_iload_n rfl rfl ?_
      refine E_ialN (v := (qP s).getD i 0) rfl h4 (by omega) (by omega) rfl ?_
      refine E_iload_n rfl rfl ?_
      refine E_ic (t := 29) (b := false) rfl rfl ((cn_neN (by omega) (by omega)).trans (decide_eq_false (by omega))) ?_
      refine E_iconst (x := nI 1) rfl (by decide) ?_
      refine E_iload_n rfl rfl ?_
      refine E_ishl (z := nI (2 ^ i)) rfl (ab_shl (by omega)) ?_
      refine E_goto (t := 30) rfl rfl ?_
      refine E_ior (z := nI (qPs s w (i + 1))) rfl (qPs_1 e) ?_
      refine E_istore_n (L2 := [some (.ref b), some (.int (nI w)), some (.int (nI (qPs s w (i + 1)))), some (.int (nI i))]) rfl rfl ?_
      refine E_iinc (y := nI (i + 1)) (L2 := [some (.ref b), some (.int (nI w)), some (.int (nI (qPs s w (i + 1)))), some (.int (nI (i + 1)))]) rfl rfl (nI_1 _) rfl ?_
      refine E_goto (t := 4) rfl rfl ?_
      exact ih (i + 1) (by omega)
    · have J := I1 i (by omega)
      refine E_iload_n rfl rfl ?_
      refine E_aload_n rfl rfl ?_
      refine E_getfield (v := .int (nI (qN s))) rfl h0 rfl (by decide) rfl ?_
      refine E_ic (t := 38) (b := false) rfl rfl ((cn_geN (by omega) (by omega)).trans (decide_eq_false (by omega))) ?_
      refine E_iload_n rfl rfl ?_
      refine E_aload_n rfl rfl ?_
      refine E_getfield (v := .ref (b + 4)) rfl h0 rfl (by decide) rfl ?_
      refine E_iload_n rfl rfl ?_
      refine E_ialN (v := (qP s).getD i 0) rfl h4 (by omega) (by omega) rfl ?_
      refine E_iload_n rfl rfl ?_
      refine E_ic (t := 29) (b := true) rfl rfl ((cn_neN (by omega) (by omega)).trans (decide_eq_true (by omega))) ?_
      refine E_iconst (x := nI 0) rfl (by decide) ?_
      refine E_ior (z := nI (qPs s w (i + 1))) rfl (qPs_0 e) ?_
      refine E_istore_n (L2 := [some (.ref b), some (.int (nI w)), some (.int (nI (qPs s w (i + 1)))), some (.int (nI i))]) rfl rfl ?_
      refine E_iinc (y := nI (i + 1)) (L2 := [some (.ref b), some (.int (nI w)), some (.int (nI (qPs s w (i + 1)))), some (.int (nI (i + 1)))]) rfl rfl (nI_1 _) rfl ?_
      refine E_goto (t := 4) rfl rfl ?_
      exact ih (i + 1) (by omega)
theorem sq_bitsAt {cs : List ab_C} {b : Nat} {s : ab_q} {w : Nat} (h : qAt cs b s) (I : qI s) (hw : w < 2 ^ 31) : Ev ab_Z0 1 62 [.ref b, .int (nI w)] cs (some (.int (nI (qPs s w (qN s)))), cs) := by
  obtain ⟨h0, h1, h2, h3, h4, h5, h6, h7, h8, h9⟩ := h
  obtain ⟨⟨i0, i1, i2, i3⟩, ⟨i4, i5, i6, i7, i8⟩, ⟨i9, i10⟩, I1, I2, I3, I4⟩ := id I
  have hh : qAt cs b s := ⟨h0, h1, h2, h3, h4, h5, h6, h7, h8, h9⟩
  refine Ef.in (md := mX4_bitsAt) (L := [some (.ref b), some (.int (nI w)), none, none]) rfl (Nat.le_of_ble_eq_true rfl) rfl ?_
  refine E_iconst (x := nI 0) rfl (by decide) ?_
  refine E_istore_n (L2 := [some (.ref b), some (.int (nI w)), some (.int (nI 0)), none]) rfl rfl ?_
  refine E_iconst (x := nI 0) rfl (by decide) ?_
  refine E_istore_n (L2 := [some (.ref b), some (.int (nI w)), some (.int (nI 0)), some (.int (nI 0))]) rfl rfl ?_
  refine sq_bitsAt_l hh I hw ?_ (qN s) 0 (by omega)
  refine E_iload_n rfl rfl ?_
  exact E_iret rfl rfl
theorem sq_basin {cs : List ab_C} {b : Nat} {s : ab_q} (h : qAt cs b s) (I : qI s) : Ev ab_Z0 2 63 [.ref b] cs (some (.int (nI (qPs s 99 (qN s)))), cs) := by
  obtain ⟨h0, h1, h2, h3, h4, h5, h6, h7, h8, h9⟩ := h
  obtain ⟨⟨i0, i1, i2, i3⟩, ⟨i4, i5, i6, i7, i8⟩, ⟨i9, i10⟩, I1, I2, I3, I4⟩ := id I
  have hh : qAt cs b s := ⟨h0, h1, h2, h3, h4, h5, h6, h7, h8, h9⟩
  refine Ef.in (md := mX4_basin) (L := [some (.ref b)]) rfl (Nat.le_of_ble_eq_true rfl) rfl ?_
  refine E_aload_n rfl rfl ?_
  refine E_bipush (x := nI 99) rfl (by decide) ?_
  refine E_callV (v := some (.int (nI (qPs s 99 (qN s))))) (As := [.ref b, .int (nI 99)]) (r0 := []) (cs2 := cs) rfl rfl rfl (Nat.le_of_ble_eq_true rfl) rfl (ab_rvOf h0 rfl) (sq_bitsAt hh I (by decide)) (by decide) rfl ?_
  exact E_iret rfl rfl
/-- how many of the first i people want w -/
def qWn (s : ab_q) (w : Nat) : Nat → Nat
  | 0 => 0
  | i + 1 => qWn s w i + (if (qW s).getD i 0 = w then 1 else 0)
theorem qWn_1 {s : ab_q} {w i : Nat} (e : (qW s).getD i 0 = w) : nI (qWn s w i) + nI 1 = nI (qWn s w (i + 1)) := by
  rw [nI_add]
  show _ = nI (_ + (if _ then _ else _))
  rw [if_pos e]
theorem qWn_0 {s : ab_q} {w i : Nat} (e : ¬ (qW s).getD i 0 = w) : nI (qWn s w i) + nI 0 = nI (qWn s w (i + 1)) := by
  rw [nI_add]
  show _ = nI (_ + (if _ then _ else _))
  rw [if_neg e]
theorem qWn_le (s : ab_q) (w : Nat) : ∀ i, qWn s w i ≤ i
  | 0 => Nat.le_refl _
  | i + 1 => by
    have := qWn_le s w i
    show qWn s w i + (if _ then _ else _) ≤ _
    split <;> omega
theorem qWn_pos {s : ab_q} {w p : Nat} (e : (qW s).getD p 0 = w) : ∀ i, p < i → 1 ≤ qWn s w i
  | 0, h => by omega
  | i + 1, h => by
    show 1 ≤ qWn s w i + (if _ then _ else _)
    by_cases q : p = i
    · subst q
      rw [if_pos e]
      omega
    · have := qWn_pos e i (by omega)
      omega
theorem sq_wanting_l {cs : List ab_C} {b : Nat} {s : ab_q} {w : Nat} {r : Option Value × List ab_C} (h : qAt cs b s) (I : qI s) (hw : w < 2 ^ 31) (K : Ef ab_Z0 0 mX4_wanting (36, [some (.ref b), some (.int (nI w)), some (.int (nI (qWn s w (qM s)))), some (.int (nI (qM s)))], [], cs) r) : ∀ n i, i + n = qM s → Ef ab_Z0 0 mX4_wanting (4, [some (.ref b), some (.int (nI w)), some (.int (nI (qWn s w i))), some (.int (nI i))], [], cs) r := by
  have hh := h
  obtain ⟨h0, h1, h2, h3, h4, h5, h6, h7, h8, h9⟩ := h
  obtain ⟨⟨i0, i1, i2, i3⟩, ⟨i4, i5, i6, i7, i8⟩, ⟨i9, i10⟩, I1, I2, I3, I4⟩ := id I
  have h := hh
  intro n
  induction n with
  | zero =>
    intro i hi
    obtain rfl : i = qM s := by omega
    refine E_iload_n rfl rfl ?_
    refine E_aload_n rfl rfl ?_
    refine E_getfield (v := .int (nI (qM s))) rfl h0 rfl (by decide) rfl ?_
    refine E_ic (t := 36) (b := true) rfl rfl ((cn_geN (by omega) (by omega)).trans (decide_eq_true (by omega))) ?_
    exact K
  | succ n ih =>
    intro i hi
    by_cases e : (qW s).getD i 0 = w
    · have J := I2 i (by omega)
      refine E_iload_n rfl rfl ?_
      refine E_aload_n rfl rfl ?_
      refine E_getfield (v := .int (nI (qM s))) rfl h0 rfl (by decide) rfl ?_
      refine E_ic (t := 36) (b := false) rfl rfl ((cn_geN (by omega) (by omega)).trans (decide_eq_false (by omega))) ?_
      refine E_iload_n rfl rfl ?_
      refine E_aload_n rfl rfl ?_
      refine E_getfield (v := .ref (b + 7)) rfl h0 rfl (by decide) rfl ?_
      refine E_iload_n rfl rfl ?_
      refine E_ialN (v := (qW s).getD i 0) rfl h7 (by omega) (by omega) rfl ?_
      refine E_iload_n rfl rfl ?_
      refine E_ic (t := 27) (b := false) rfl rfl ((cn_neN (by omega) (by omega)).trans (decide_eq_false (by omega))) ?_
      refine E_iconst (x := nI 1) rfl (by decide) ?_
      refine E_goto (t := 28) rfl rfl ?_
      refine E_iadd (z := nI (qWn s w (i + 1))) rfl (qWn_1 e) ?_
      refine E_istore_n (L2 := [some (.ref b), some (.int (nI w)), some (.int (nI (qWn s w (i + 1)))), some (.int (nI i))]) rfl rfl ?_
      refine E_iinc (y := nI (i + 1)) (L2 := [some (.ref b), some (.int (nI w)), some (.int (nI (qWn s w (i + 1)))), some (.int (nI (i + 1)))]) rfl rfl (nI_1 _) rfl ?_
      refine E_goto (t := 4) rfl rfl ?_
      exact ih (i + 1) (by omega)
    · have J := I2 i (by omega)
      refine E_iload_n rfl rfl ?_
      refine E_aload_n rfl rfl ?_
      refine E_getfield (v := .int (nI (qM s))) rfl h0 rfl (by decide) rfl ?_
      refine E_ic (t := 36) (b := false) rfl rfl ((cn_geN (by omega) (by omega)).trans (decide_eq_false (by omega))) ?_
      refine E_iload_n rfl rfl ?_
      refine E_aload_n rfl rfl ?_
      refine E_getfield (v := .ref (b + 7)) rfl h0 rfl (by decide) rfl ?_
      refine E_iload_n rfl rfl ?_
      refine E_ialN (v := (qW s).getD i 0) rfl h7 (by omega) (by omega) rfl ?_
      refine E_iload_n rfl rfl ?_
      refine E_ic (t := 27) (b := true) rfl rfl ((cn_neN (by omega) (by omega)).trans (decide_eq_true (by omega))) ?_
      refine E_iconst (x := nI 0) rfl (by decide) ?_
      refine E_iadd (z := nI (qWn s w (i + 1))) rfl (qWn_0 e) ?_
      refine E_istore_n (L2 := [some (.ref b), some (.int (nI w)), some (.int (nI (qWn s w (i + 1)))), some (.int (nI i))]) rfl rfl ?_
      refine E_iinc (y := nI (i + 1)) (L2 := [some (.ref b), some (.int (nI w)), some (.int (nI (qWn s w (i + 1)))), some (.int (nI (i + 1)))]) rfl rfl (nI_1 _) rfl ?_
      refine E_goto (t := 4) rfl rfl ?_
      exact ih (i + 1) (by omega)
theorem sq_wanting {cs : List ab_C} {b : Nat} {s : ab_q} {w : Nat} (h : qAt cs b s) (I : qI s) (hw : w < 2 ^ 31) : Ev ab_Z0 1 64 [.ref b, .int (nI w)] cs (some (.int (nI (qWn s w (qM s)))), cs) := by
  obtain ⟨h0, h1, h2, h3, h4, h5, h6, h7, h8, h9⟩ := h
  obtain ⟨⟨i0, i1, i2, i3⟩, ⟨i4, i5, i6, i7, i8⟩, ⟨i9, i10⟩, I1, I2, I3, I4⟩ := id I
  have hh : qAt cs b s := ⟨h0, h1, h2, h3, h4, h5, h6, h7, h8, h9⟩
  refine Ef.in (md := mX4_wanting) (L := [some (.ref b), some (.int (nI w)), none, none]) rfl (Nat.le_of_ble_eq_true rfl) rfl ?_
  refine E_iconst (x := nI 0) rfl (by decide) ?_
  refine E_istore_n (L2 := [some (.ref b), some (.int (nI w)), some (.int (nI 0)), none]) rfl rfl ?_
  refine E_iconst (x := nI 0) rfl (by decide) ?_
  refine E_istore_n (L2 := [some (.ref b), some (.int (nI w)), some (.int (nI 0)), some (.int (nI 0))]) rfl rfl ?_
  refine sq_wanting_l hh I hw ?_ (qM s) 0 (by omega)
  refine E_iload_n rfl rfl ?_
  exact E_iret rfl rfl
def qGs (s : ab_q) : Nat → Int32
  | 0 => 0
  | i + 1 => qGs s i + (qG s).getD i 0
theorem sq_grantedTogether_l {cs : List ab_C} {b : Nat} {s : ab_q} {r : Option Value × List ab_C} (h : qAt cs b s) (I : qI s) (K : Ef ab_Z0 0 mX4_grantedTogether (27, [some (.ref b), some (.int (qGs s (qM s))), some (.int (nI (qM s)))], [], cs) r) : ∀ n i, i + n = qM s → Ef ab_Z0 0 mX4_grantedTogether (4, [some (.ref b), some (.int (qGs s i)), some (.int (nI i))], [], cs) r := by
  have hh := h
  obtain ⟨h0, h1, h2, h3, h4, h5, h6, h7, h8, h9⟩ := h
  obtain ⟨⟨i0, i1, i2, i3⟩, ⟨i4, i5, i6, i7, i8⟩, ⟨i9, i10⟩, I1, I2, I3, I4⟩ := id I
  have h := hh
  intro n
  induction n with
  | zero =>
    intro i hi
    obtain rfl : i = qM s := by omega
    refine E_iload_n rfl rfl ?_
    refine E_aload_n rfl rfl ?_
    refine E_getfield (v := .int (nI (qM s))) rfl h0 rfl (by decide) rfl ?_
    refine E_ic (t := 27) (b := true) rfl rfl ((cn_geN (by omega) (by omega)).trans (decide_eq_true (by omega))) ?_
    exact K
  | succ n ih =>
    intro i hi
    refine E_iload_n rfl rfl ?_
    refine E_aload_n rfl rfl ?_
    refine E_getfield (v := .int (nI (qM s))) rfl h0 rfl (by decide) rfl ?_
    refine E_ic (t := 27) (b := false) rfl rfl ((cn_geN (by omega) (by omega)).trans (decide_eq_false (by omega))) ?_
    refine E_iload_n rfl rfl ?_
    refine E_aload_n rfl rfl ?_
    refine E_getfield (v := .ref (b + 8)) rfl h0 rfl (by decide) rfl ?_
    refine E_iload_n rfl rfl ?_
    refine E_ialI (v := (qG s).getD i 0) rfl h8 (by omega) (by omega) rfl ?_
    refine E_iadd (z := (qGs s (i + 1))) rfl rfl ?_
    refine E_istore_n (L2 := [some (.ref b), some (.int (qGs s (i + 1))), some (.int (nI i))]) rfl rfl ?_
    refine E_iinc (y := nI (i + 1)) (L2 := [some (.ref b), some (.int (qGs s (i + 1))), some (.int (nI (i + 1)))]) rfl rfl (nI_1 _) rfl ?_
    refine E_goto (t := 4) rfl rfl ?_
    exact ih (i + 1) (by omega)
theorem sq_grantedTogether {cs : List ab_C} {b : Nat} {s : ab_q} (h : qAt cs b s) (I : qI s) : Ev ab_Z0 1 65 [.ref b] cs (some (.int (qGs s (qM s))), cs) := by
  obtain ⟨h0, h1, h2, h3, h4, h5, h6, h7, h8, h9⟩ := h
  obtain ⟨⟨i0, i1, i2, i3⟩, ⟨i4, i5, i6, i7, i8⟩, ⟨i9, i10⟩, I1, I2, I3, I4⟩ := id I
  have hh : qAt cs b s := ⟨h0, h1, h2, h3, h4, h5, h6, h7, h8, h9⟩
  refine Ef.in (md := mX4_grantedTogether) (L := [some (.ref b), none, none]) rfl (Nat.le_of_ble_eq_true rfl) rfl ?_
  refine E_iconst (x := nI 0) rfl (by decide) ?_
  refine E_istore_n (L2 := [some (.ref b), some (.int (nI 0)), none]) rfl rfl ?_
  refine E_iconst (x := nI 0) rfl (by decide) ?_
  refine E_istore_n (L2 := [some (.ref b), some (.int (nI 0)), some (.int (nI 0))]) rfl rfl ?_
  refine sq_grantedTogether_l hh I ?_ (qM s) 0 (by omega)
  refine E_iload_n rfl rfl ?_
  exact E_iret rfl rfl
def qOth (s : ab_q) (p w : Nat) : Nat := qWn s w (qM s) - (if (qW s).getD p 0 = w then 1 else 0)
def qPrc (s : ab_q) (p w c : Nat) : Nat := if c + 2 * qOth s p w ≤ (qL s).getD p 0 then 1 else c + 2 * qOth s p w - (qL s).getD p 0
def qPr (s : ab_q) (p w : Nat) : Nat := qPrc s p w ((qC s).getD w 0)
theorem qOth_le {s : ab_q} (I : qI s) (p w : Nat) : qOth s p w ≤ 6 := by
  obtain ⟨-, -, ⟨-, i10⟩, -⟩ := I
  have := qWn_le s w (qM s)
  unfold qOth
  omega
theorem qPrc_in {s : ab_q} (I : qI s) (p w : Nat) {c : Nat} (hc : 1 ≤ c) : 1 ≤ qPrc s p w c ∧ qPrc s p w c ≤ c + 12 := by
  have := qOth_le I p w
  unfold qPrc
  split <;> omega
theorem qPr_in {s : ab_q} (I : qI s) (p : Nat) {w : Nat} (hw : w < 8) : 1 ≤ qPr s p w ∧ qPr s p w ≤ 72 := by
  have h := I
  obtain ⟨-, -, -, -, -, I3, -⟩ := h
  have h3 := I3 w hw
  have := qPrc_in I p w h3.1
  unfold qPr
  omega
theorem sq_priceByCost {cs : List ab_C} {b : Nat} {s : ab_q} {p w c : Nat} (h : qAt cs b s) (I : qI s) (hp : p < qM s) (hw : w < 2 ^ 31) (hc : c ≤ 60) : Ev ab_Z0 2 67 [.ref b, .int (nI p), .int (nI w), .int (nI c)] cs (some (.int (nI (qPrc s p w c))), cs) := by
  obtain ⟨h0, h1, h2, h3, h4, h5, h6, h7, h8, h9⟩ := h
  obtain ⟨⟨i0, i1, i2, i3⟩, ⟨i4, i5, i6, i7, i8⟩, ⟨i9, i10⟩, I1, I2, I3, I4⟩ := id I
  have hh : qAt cs b s := ⟨h0, h1, h2, h3, h4, h5, h6, h7, h8, h9⟩
  have J := I2 p hp
  have hq := qOth_le I p w
  by_cases e : (qW s).getD p 0 = w
  · have hp1 := qWn_pos e (qM s) hp
    have ho : qWn s w (qM s) - 1 = qOth s p w := by unfold qOth; rw [if_pos e]
    refine Ef.in (md := mX4_priceByCost) (L := [some (.ref b), some (.int (nI p)), some (.int (nI w)), some (.int (nI c)), none]) rfl (Nat.le_of_ble_eq_true rfl) rfl ?_
    refine E_aload_n rfl rfl ?_
    refine E_iload_n rfl rfl ?_
    refine E_callV (v := some (.int (nI (qWn s w (qM s))))) (As := [.ref b, .int (nI w)]) (r0 := []) (cs2 := cs) rfl rfl rfl (Nat.le_of_ble_eq_true rfl) rfl (ab_rvOf h0 rfl) (sq_wanting hh I (by omega)) (by decide) rfl ?_
    refine E_aload_n rfl rfl ?_
    refine E_getfield (v := .ref (b + 7)) rfl h0 rfl (by decide) rfl ?_
    refine E_iload_n rfl rfl ?_
    refine E_ialN (v := (qW s).getD p 0) rfl h7 (by omega) (by omega) rfl ?_
    refine E_iload_n rfl rfl ?_
    refine E_ic (t := 19) (b := false) rfl rfl ((cn_neN (by omega) (by omega)).trans (decide_eq_false (by omega))) ?_
    refine E_iconst (x := nI 1) rfl (by decide) ?_
    refine E_goto (t := 20) rfl rfl ?_
    refine E_isub (z := nI (qOth s p w)) rfl ((pk_sub (by omega)).trans (congrArg nI ho)) ?_
    refine E_istore (L2 := [some (.ref b), some (.int (nI p)), some (.int (nI w)), some (.int (nI c)), some (.int (nI (qOth s p w)))]) rfl rfl ?_
    refine E_iload_n rfl rfl ?_
    refine E_iconst (x := nI 2) rfl (by decide) ?_
    refine E_iload rfl rfl ?_
    refine E_imul (z := nI (2 * (qOth s p w))) rfl (pk_mul _ _) ?_
    refine E_iadd (z := nI (c + (2 * (qOth s p w)))) rfl (nI_add _ _) ?_
    refine E_aload_n rfl rfl ?_
    refine E_getfield (v := .ref (b + 6)) rfl h0 rfl (by decide) rfl ?_
    refine E_iload_n rfl rfl ?_
    refine E_ialN (v := (qL s).getD p 0) rfl h6 (by omega) (by omega) rfl ?_
    refine E_isub (z := (nI (c + 2 * qOth s p w) - nI ((qL s).getD p 0))) rfl rfl ?_
    refine E_iconst (x := nI 1) rfl (by decide) ?_
    refine E_max (z := nI (qPrc s p w c)) rfl (Nat.le_of_ble_eq_true rfl) (ab_mx1 (by omega) (by omega)) ?_
    exact E_iret rfl rfl
  · have ho : qWn s w (qM s) - 0 = qOth s p w := by unfold qOth; rw [if_neg e]
    refine Ef.in (md := mX4_priceByCost) (L := [some (.ref b), some (.int (nI p)), some (.int (nI w)), some (.int (nI c)), none]) rfl (Nat.le_of_ble_eq_true rfl) rfl ?_
    refine E_aload_n rfl rfl ?_
    refine E_iload_n rfl rfl ?_
    refine E_callV (v := some (.int (nI (qWn s w (qM s))))) (As := [.ref b, .int (nI w)]) (r0 := []) (cs2 := cs) rfl rfl rfl (Nat.le_of_ble_eq_true rfl) rfl (ab_rvOf h0 rfl) (sq_wanting hh I (by omega)) (by decide) rfl ?_
    refine E_aload_n rfl rfl ?_
    refine E_getfield (v := .ref (b + 7)) rfl h0 rfl (by decide) rfl ?_
    refine E_iload_n rfl rfl ?_
    refine E_ialN (v := (qW s).getD p 0) rfl h7 (by omega) (by omega) rfl ?_
    refine E_iload_n rfl rfl ?_
    refine E_ic (t := 19) (b := true) rfl rfl ((cn_neN (by omega) (by omega)).trans (decide_eq_true (by omega))) ?_
    refine E_iconst (x := nI 0) rfl (by decide) ?_
    refine E_isub (z := nI (qOth s p w)) rfl ((pk_sub (by omega)).trans (congrArg nI ho)) ?_
    refine E_istore (L2 := [some (.ref b), some (.int (nI p)), some (.int (nI w)), some (.int (nI c)), some (.int (nI (qOth s p w)))]) rfl rfl ?_
    refine E_iload_n rfl rfl ?_
    refine E_iconst (x := nI 2) rfl (by decide) ?_
    refine E_iload rfl rfl ?_
    refine E_imul (z := nI (2 * (qOth s p w))) rfl (pk_mul _ _) ?_
    refine E_iadd (z := nI (c + (2 * (qOth s p w)))) rfl (nI_add _ _) ?_
    refine E_aload_n rfl rfl ?_
    refine E_getfield (v := .ref (b + 6)) rfl h0 rfl (by decide) rfl ?_
    refine E_iload_n rfl rfl ?_
    refine E_ialN (v := (qL s).getD p 0) rfl h6 (by omega) (by omega) rfl ?_
    refine E_isub (z := (nI (c + 2 * qOth s p w) - nI ((qL s).getD p 0))) rfl rfl ?_
    refine E_iconst (x := nI 1) rfl (by decide) ?_
    refine E_max (z := nI (qPrc s p w c)) rfl (Nat.le_of_ble_eq_true rfl) (ab_mx1 (by omega) (by omega)) ?_
    exact E_iret rfl rfl
theorem sq_priceFor {cs : List ab_C} {b : Nat} {s : ab_q} {p w : Nat} (h : qAt cs b s) (I : qI s) (hp : p < qM s) (hw : w < 8) : Ev ab_Z0 3 66 [.ref b, .int (nI p), .int (nI w)] cs (some (.int (nI (qPr s p w))), cs) := by
  obtain ⟨h0, h1, h2, h3, h4, h5, h6, h7, h8, h9⟩ := h
  obtain ⟨⟨i0, i1, i2, i3⟩, ⟨i4, i5, i6, i7, i8⟩, ⟨i9, i10⟩, I1, I2, I3, I4⟩ := id I
  have hh : qAt cs b s := ⟨h0, h1, h2, h3, h4, h5, h6, h7, h8, h9⟩
  have J := I3 w hw
  refine Ef.in (md := mX4_priceFor) (L := [some (.ref b), some (.int (nI p)), some (.int (nI w))]) rfl (Nat.le_of_ble_eq_true rfl) rfl ?_
  refine E_aload_n rfl rfl ?_
  refine E_iload_n rfl rfl ?_
  refine E_iload_n rfl rfl ?_
  refine E_aload_n rfl rfl ?_
  refine E_getfield (v := .ref (b + 9)) rfl h0 rfl (by decide) rfl ?_
  refine E_iload_n rfl rfl ?_
  refine E_ialN (v := (qC s).getD w 0) rfl h9 (by omega) (by omega) rfl ?_
  refine E_callV (v := some (.int (nI (qPr s p w)))) (As := [.ref b, .int (nI p), .int (nI w), .int (nI ((qC s).getD w 0))]) (r0 := []) (cs2 := cs) rfl rfl rfl (Nat.le_of_ble_eq_true rfl) rfl (ab_rvOf h0 rfl) (sq_priceByCost hh I hp (by omega) (by omega)) (by decide) rfl ?_
  exact E_iret rfl rfl
/-- THE BEST THROW: the price itself, or none -/
def qBest (s : ab_q) (p : Nat) : Int32 := if qPr s p ((qW s).getD p 0) ≤ (qU s).getD p 0 then nI (qPr s p ((qW s).getD p 0)) else -1
theorem sq_bestThrow {cs : List ab_C} {b : Nat} {s : ab_q} {p : Nat} (h : qAt cs b s) (I : qI s) (hp : p < qM s) : Ev ab_Z0 4 68 [.ref b, .int (nI p)] cs (some (.int (qBest s p)), cs) := by
  obtain ⟨h0, h1, h2, h3, h4, h5, h6, h7, h8, h9⟩ := h
  obtain ⟨⟨i0, i1, i2, i3⟩, ⟨i4, i5, i6, i7, i8⟩, ⟨i9, i10⟩, I1, I2, I3, I4⟩ := id I
  have hh : qAt cs b s := ⟨h0, h1, h2, h3, h4, h5, h6, h7, h8, h9⟩
  have J := I2 p hp
  have hq := qPr_in I p (w := (qW s).getD p 0) (by omega)
  by_cases e : qPr s p ((qW s).getD p 0) ≤ (qU s).getD p 0
  · rw [show qBest s p = nI (qPr s p ((qW s).getD p 0)) by unfold qBest; rw [if_pos e]]
    refine Ef.in (md := mX4_bestThrow) (L := [some (.ref b), some (.int (nI p)), none]) rfl (Nat.le_of_ble_eq_true rfl) rfl ?_
    refine E_aload_n rfl rfl ?_
    refine E_iload_n rfl rfl ?_
    refine E_aload_n rfl rfl ?_
    refine E_getfield (v := .ref (b + 7)) rfl h0 rfl (by decide) rfl ?_
    refine E_iload_n rfl rfl ?_
    refine E_ialN (v := (qW s).getD p 0) rfl h7 (by omega) (by omega) rfl ?_
    refine E_callV (v := some (.int (nI (qPr s p ((qW s).getD p 0))))) (As := [.ref b, .int (nI p), .int (nI ((qW s).getD p 0))]) (r0 := []) (cs2 := cs) rfl rfl rfl (Nat.le_of_ble_eq_true rfl) rfl (ab_rvOf h0 rfl) (sq_priceFor hh I hp (by omega)) (by decide) rfl ?_
    refine E_istore_n (L2 := [some (.ref b), some (.int (nI p)), some (.int (nI (qPr s p ((qW s).getD p 0))))]) rfl rfl ?_
    refine E_iload_n rfl rfl ?_
    refine E_aload_n rfl rfl ?_
    refine E_getfield (v := .ref (b + 5)) rfl h0 rfl (by decide) rfl ?_
    refine E_iload_n rfl rfl ?_
    refine E_ialN (v := (qU s).getD p 0) rfl h5 (by omega) (by omega) rfl ?_
    refine E_ic (t := 26) (b := false) rfl rfl ((cn_gtN (by omega) (by omega)).trans (decide_eq_false (by omega))) ?_
    refine E_iload_n rfl rfl ?_
    refine E_goto (t := 27) rfl rfl ?_
    exact E_iret rfl rfl
  · rw [show qBest s p = (-1) by unfold qBest; rw [if_neg e]]
    refine Ef.in (md := mX4_bestThrow) (L := [some (.ref b), some (.int (nI p)), none]) rfl (Nat.le_of_ble_eq_true rfl) rfl ?_
    refine E_aload_n rfl rfl ?_
    refine E_iload_n rfl rfl ?_
    refine E_aload_n rfl rfl ?_
    refine E_getfield (v := .ref (b + 7)) rfl h0 rfl (by decide) rfl ?_
    refine E_iload_n rfl rfl ?_
    refine E_ialN (v := (qW s).getD p 0) rfl h7 (by omega) (by omega) rfl ?_
    refine E_callV (v := some (.int (nI (qPr s p ((qW s).getD p 0))))) (As := [.ref b, .int (nI p), .int (nI ((qW s).getD p 0))]) (r0 := []) (cs2 := cs) rfl rfl rfl (Nat.le_of_ble_eq_true rfl) rfl (ab_rvOf h0 rfl) (sq_priceFor hh I hp (by omega)) (by decide) rfl ?_
    refine E_istore_n (L2 := [some (.ref b), some (.int (nI p)), some (.int (nI (qPr s p ((qW s).getD p 0))))]) rfl rfl ?_
    refine E_iload_n rfl rfl ?_
    refine E_aload_n rfl rfl ?_
    refine E_getfield (v := .ref (b + 5)) rfl h0 rfl (by decide) rfl ?_
    refine E_iload_n rfl rfl ?_
    refine E_ialN (v := (qU s).getD p 0) rfl h5 (by omega) (by omega) rfl ?_
    refine E_ic (t := 26) (b := true) rfl rfl ((cn_gtN (by omega) (by omega)).trans (decide_eq_true (by omega))) ?_
    refine E_iconst (x := (-1)) rfl (by decide) ?_
    exact E_iret rfl rfl
