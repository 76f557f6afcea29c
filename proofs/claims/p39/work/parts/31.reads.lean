/-! the methods of Square that only read, and what they answer; by program (wip/tools/sq.py) -/
def qBit (m i : Nat) : Nat := m / 2 ^ i % 2
theorem qBit2 (m i : Nat) : qBit m i = 0 ∨ qBit m i = 1 := by
  unfold qBit
  omega
theorem ab_shk : ∀ i, i < 31 → ((nI i &&& 31).toBitVec.smod 32).toNat = i := by decide
theorem ab_shr {m i : Nat} (hm : m < 2 ^ 31) (hi : i < 31) : nI m >>> (nI i &&& 31) = nI (m / 2 ^ i) := pk_shrN hm _ i (ab_shk i hi)
theorem ab_and1 {m : Nat} (hm : m < 2 ^ 32) : nI m &&& nI 1 = nI (m % 2) := by
  have := pk_andN hm (m := nI 1) 1 (by decide)
  rw [this]
theorem ab_divlt {m i : Nat} (hm : m < 2 ^ 31) : m / 2 ^ i < 2 ^ 31 := Nat.lt_of_le_of_lt (Nat.div_le_self _ _) hm
def qWorth (s : ab_q) (x : Nat) : Nat := match (qK s).getD x 0 with
  | 1 => ((qB s).getD x 0 + 1) / 2
  | 2 => (qB s).getD x 0 + (qA s).getD x 0
  | 3 => if ((qB s).getD x 0 + 1) / 2 ≤ (qA s).getD x 0 then 1 else ((qB s).getD x 0 + 1) / 2 - (qA s).getD x 0
  | 4 => 1
  | 5 => ((qB s).getD x 0 + (qA s).getD x 0 + 1) / 2
  | 6 => 1 + (qA s).getD x 0
  | _ => (qB s).getD x 0
def qHarm (s : ab_q) (x : Nat) : Nat := match (qK s).getD x 0 with
  | 1 => (qA s).getD x 0
  | 3 => 2 * (qA s).getD x 0
  | 4 => 1
  | _ => 0
theorem qWorth_in {s : ab_q} (I : qI s) {x : Nat} (hx : x < qN s) : 1 ≤ qWorth s x ∧ qWorth s x ≤ 59 := by
  obtain ⟨-, -, -, i4, -⟩ := I
  have := i4 x hx
  unfold qWorth
  split <;> (try split) <;> omega
theorem qHarm_in {s : ab_q} (I : qI s) {x : Nat} (hx : x < qN s) : qHarm s x ≤ 18 := by
  obtain ⟨-, -, -, i4, -⟩ := I
  have := i4 x hx
  unfold qHarm
  split <;> omega
theorem ab_mx1 {c a : Nat} (hc : c < 2 ^ 30) (ha : a < 2 ^ 30) : (if nI c - nI a < nI 1 then nI 1 else nI c - nI a) = nI (if c ≤ a then 1 else c - a) := by
  have e := pk_sub_toInt hc ha
  have e1 : (nI 1).toInt = 1 := by decide
  by_cases h : c ≤ a
  · rw [if_pos (Int32.lt_iff_toInt_lt.mpr (by rw [e, e1]; omega)), if_pos h]
  · rw [if_neg (fun q => by have := Int32.lt_iff_toInt_lt.mp q; rw [e, e1] at this; omega), if_neg h, pk_sub (by omega)]
theorem sq_isBit {cs : List ab_C} {m i : Nat} (hm : m < 2 ^ 31) (hi : i < 31) : Ev ab_Z0 1 49 [.int (nI m), .int (nI i)] cs (some (.int (nI (qBit m i))), cs) := by
  have hd := ab_divlt (i := i) hm
  rcases qBit2 m i with e | e
  · rw [e]
    unfold qBit at e
    refine Ef.in (md := mX4_isBit) (L := [some (.int (nI m)), some (.int (nI i))]) rfl (Nat.le_of_ble_eq_true rfl) rfl ?_
    refine E_iload_n rfl rfl ?_
    refine E_iload_n rfl rfl ?_
    refine E_ishr (z := nI (m / 2 ^ i)) rfl (ab_shr (by omega) (by omega)) ?_
    refine E_iconst (x := nI 1) rfl (by decide) ?_
    refine E_iand (z := nI 0) rfl ((ab_and1 (by omega)).trans (congrArg nI e)) ?_
    refine E_if (t := 12) (b := true) rfl rfl (by decide) ?_
    refine E_iconst (x := nI 0) rfl (by decide) ?_
    exact E_iret rfl rfl
  · rw [e]
    unfold qBit at e
    refine Ef.in (md := mX4_isBit) (L := [some (.int (nI m)), some (.int (nI i))]) rfl (Nat.le_of_ble_eq_true rfl) rfl ?_
    refine E_iload_n rfl rfl ?_
    refine E_iload_n rfl rfl ?_
    refine E_ishr (z := nI (m / 2 ^ i)) rfl (ab_shr (by omega) (by omega)) ?_
    refine E_iconst (x := nI 1) rfl (by decide) ?_
    refine E_iand (z := nI 1) rfl ((ab_and1 (by omega)).trans (congrArg nI e)) ?_
    refine E_if (t := 12) (b := false) rfl rfl (by decide) ?_
    refine E_iconst (x := nI 1) rfl (by decide) ?_
    refine E_goto (t := 13) rfl rfl ?_
    exact E_iret rfl rfl
theorem sq_isPiece_neg {cs : List ab_C} {b : Nat} {s : ab_q} {x : Int32} (h : qAt cs b s) (I : qI s) (hx : x < 0) : Ev ab_Z0 1 50 [.ref b, .int x] cs (some (.int (nI 0)), cs) := by
  obtain ⟨h0, h1, h2, h3, h4, h5, h6, h7, h8, h9⟩ := h
  obtain ⟨⟨i0, i1, i2, i3⟩, ⟨i4, i5, i6, i7, i8⟩, ⟨i9, i10⟩, I1, I2, I3, I4⟩ := id I
  refine Ef.in (md := mX4_isPiece) (L := [some (.ref b), some (.int x)]) rfl (Nat.le_of_ble_eq_true rfl) rfl ?_
  refine E_iload_n rfl rfl ?_
  refine E_if (t := 16) (b := true) rfl rfl ((cn_lt (rfl : x.toInt = x.toInt) (by decide : (0 : Int32).toInt = 0)).trans (decide_eq_true (by have := Int32.lt_iff_toInt_lt.mp hx; simpa using this))) ?_
  refine E_iconst (x := nI 0) rfl (by decide) ?_
  exact E_iret rfl rfl
theorem sq_isPiece_in {cs : List ab_C} {b : Nat} {s : ab_q} {x : Nat} (h : qAt cs b s) (I : qI s) (hx : x < qN s) : Ev ab_Z0 1 50 [.ref b, .int (nI x)] cs (some (.int (nI 1)), cs) := by
  obtain ⟨h0, h1, h2, h3, h4, h5, h6, h7, h8, h9⟩ := h
  obtain ⟨⟨i0, i1, i2, i3⟩, ⟨i4, i5, i6, i7, i8⟩, ⟨i9, i10⟩, I1, I2, I3, I4⟩ := id I
  refine Ef.in (md := mX4_isPiece) (L := [some (.ref b), some (.int (nI x))]) rfl (Nat.le_of_ble_eq_true rfl) rfl ?_
  refine E_iload_n rfl rfl ?_
  refine E_if (t := 16) (b := false) rfl rfl ((cn_ltN (b := 0) (by omega) (by omega)).trans (decide_eq_false (by omega))) ?_
  refine E_iload_n rfl rfl ?_
  refine E_aload_n rfl rfl ?_
  refine E_getfield (v := .int (nI (qN s))) rfl h0 rfl (by decide) rfl ?_
  refine E_ic (t := 16) (b := false) rfl rfl ((cn_geN (by omega) (by omega)).trans (decide_eq_false (by omega))) ?_
  refine E_iconst (x := nI 1) rfl (by decide) ?_
  refine E_goto (t := 17) rfl rfl ?_
  exact E_iret rfl rfl
theorem sq_isPiece_out {cs : List ab_C} {b : Nat} {s : ab_q} {x : Nat} (h : qAt cs b s) (I : qI s) (hx : qN s ≤ x) (hx2 : x < 2 ^ 31) : Ev ab_Z0 1 50 [.ref b, .int (nI x)] cs (some (.int (nI 0)), cs) := by
  obtain ⟨h0, h1, h2, h3, h4, h5, h6, h7, h8, h9⟩ := h
  obtain ⟨⟨i0, i1, i2, i3⟩, ⟨i4, i5, i6, i7, i8⟩, ⟨i9, i10⟩, I1, I2, I3, I4⟩ := id I
  refine Ef.in (md := mX4_isPiece) (L := [some (.ref b), some (.int (nI x))]) rfl (Nat.le_of_ble_eq_true rfl) rfl ?_
  refine E_iload_n rfl rfl ?_
  refine E_if (t := 16) (b := false) rfl rfl ((cn_ltN (b := 0) (by omega) (by omega)).trans (decide_eq_false (by omega))) ?_
  refine E_iload_n rfl rfl ?_
  refine E_aload_n rfl rfl ?_
  refine E_getfield (v := .int (nI (qN s))) rfl h0 rfl (by decide) rfl ?_
  refine E_ic (t := 16) (b := true) rfl rfl ((cn_geN (by omega) (by omega)).trans (decide_eq_true (by omega))) ?_
  refine E_iconst (x := nI 0) rfl (by decide) ?_
  exact E_iret rfl rfl
theorem sq_isPerson_neg {cs : List ab_C} {b : Nat} {s : ab_q} {x : Int32} (h : qAt cs b s) (I : qI s) (hx : x < 0) : Ev ab_Z0 1 51 [.ref b, .int x] cs (some (.int (nI 0)), cs) := by
  obtain ⟨h0, h1, h2, h3, h4, h5, h6, h7, h8, h9⟩ := h
  obtain ⟨⟨i0, i1, i2, i3⟩, ⟨i4, i5, i6, i7, i8⟩, ⟨i9, i10⟩, I1, I2, I3, I4⟩ := id I
  refine Ef.in (md := mX4_isPerson) (L := [some (.ref b), some (.int x)]) rfl (Nat.le_of_ble_eq_true rfl) rfl ?_
  refine E_iload_n rfl rfl ?_
  refine E_if (t := 16) (b := true) rfl rfl ((cn_lt (rfl : x.toInt = x.toInt) (by decide : (0 : Int32).toInt = 0)).trans (decide_eq_true (by have := Int32.lt_iff_toInt_lt.mp hx; simpa using this))) ?_
  refine E_iconst (x := nI 0) rfl (by decide) ?_
  exact E_iret rfl rfl
theorem sq_isPerson_in {cs : List ab_C} {b : Nat} {s : ab_q} {x : Nat} (h : qAt cs b s) (I : qI s) (hx : x < qM s) : Ev ab_Z0 1 51 [.ref b, .int (nI x)] cs (some (.int (nI 1)), cs) := by
  obtain ⟨h0, h1, h2, h3, h4, h5, h6, h7, h8, h9⟩ := h
  obtain ⟨⟨i0, i1, i2, i3⟩, ⟨i4, i5, i6, i7, i8⟩, ⟨i9, i10⟩, I1, I2, I3, I4⟩ := id I
  refine Ef.in (md := mX4_isPerson) (L := [some (.ref b), some (.int (nI x))]) rfl (Nat.le_of_ble_eq_true rfl) rfl ?_
  refine E_iload_n rfl rfl ?_
  refine E_if (t := 16) (b := false) rfl rfl ((cn_ltN (b := 0) (by omega) (by omega)).trans (decide_eq_false (by omega))) ?_
  refine E_iload_n rfl rfl ?_
  refine E_aload_n rfl rfl ?_
  refine E_getfield (v := .int (nI (qM s))) rfl h0 rfl (by decide) rfl ?_
  refine E_ic (t := 16) (b := false) rfl rfl ((cn_geN (by omega) (by omega)).trans (decide_eq_false (by omega))) ?_
  refine E_iconst (x := nI 1) rfl (by decide) ?_
  refine E_goto (t := 17) rfl rfl ?_
  exact E_iret rfl rfl
theorem sq_isPerson_out {cs : List ab_C} {b : Nat} {s : ab_q} {x : Nat} (h : qAt cs b s) (I : qI s) (hx : qM s ≤ x) (hx2 : x < 2 ^ 31) : Ev ab_Z0 1 51 [.ref b, .int (nI x)] cs (some (.int (nI 0)), cs) := by
  obtain ⟨h0, h1, h2, h3, h4, h5, h6, h7, h8, h9⟩ := h
  obtain ⟨⟨i0, i1, i2, i3⟩, ⟨i4, i5, i6, i7, i8⟩, ⟨i9, i10⟩, I1, I2, I3, I4⟩ := id I
  refine Ef.in (md := mX4_isPerson) (L := [some (.ref b), some (.int (nI x))]) rfl (Nat.le_of_ble_eq_true rfl) rfl ?_
  refine E_iload_n rfl rfl ?_
  refine E_if (t := 16) (b := false) rfl rfl ((cn_ltN (b := 0) (by omega) (by omega)).trans (decide_eq_false (by omega))) ?_
  refine E_iload_n rfl rfl ?_
  refine E_aload_n rfl rfl ?_
  refine E_getfield (v := .int (nI (qM s))) rfl h0 rfl (by decide) rfl ?_
  refine E_ic (t := 16) (b := true) rfl rfl ((cn_geN (by omega) (by omega)).trans (decide_eq_true (by omega))) ?_
  refine E_iconst (x := nI 0) rfl (by decide) ?_
  exact E_iret rfl rfl
theorem sq_worthOf {cs : List ab_C} {b : Nat} {s : ab_q} {x : Nat} (h : qAt cs b s) (I : qI s) (hx : x < qN s) : Ev ab_Z0 1 58 [.ref b, .int (nI x)] cs (some (.int (nI (qWorth s x))), cs) := by
  obtain ⟨h0, h1, h2, h3, h4, h5, h6, h7, h8, h9⟩ := h
  obtain ⟨⟨i0, i1, i2, i3⟩, ⟨i4, i5, i6, i7, i8⟩, ⟨i9, i10⟩, I1, I2, I3, I4⟩ := id I
  have I1x := I1 x hx
  have hk : (qK s).getD x 0 = 0 ∨ (qK s).getD x 0 = 1 ∨ (qK s).getD x 0 = 2 ∨ (qK s).getD x 0 = 3 ∨ (qK s).getD x 0 = 4 ∨ (qK s).getD x 0 = 5 ∨ (qK s).getD x 0 = 6 := by omega
  rcases hk with hk | hk | hk | hk | hk | hk | hk
  · rw [show qWorth s x = (qB s).getD x 0 by unfold qWorth; rw [hk]; rfl]
    refine Ef.in (md := mX4_worthOf) (L := [some (.ref b), some (.int (nI x)), none, none]) rfl (Nat.le_of_ble_eq_true rfl) rfl ?_
    refine E_aload_n rfl rfl ?_
    refine E_getfield (v := .ref (b + 3)) rfl h0 rfl (by decide) rfl ?_
    refine E_iload_n rfl rfl ?_
    refine E_ialN (v := (qB s).getD x 0) rfl h3 (by omega) (by omega) rfl ?_
    refine E_iconst (x := nI 1) rfl (by decide) ?_
    refine E_iadd (z := nI (((qB s).getD x 0) + 1)) rfl (nI_add _ _) ?_
    refine E_iconst (x := nI 2) rfl (by decide) ?_
    refine E_idiv (z := nI ((((qB s).getD x 0) + 1) / 2)) rfl (by decide) (pk_div (by omega) (by omega) (by omega)) ?_
    refine E_istore_n (L2 := [some (.ref b), some (.int (nI x)), some (.int (nI ((((qB s).getD x 0) + 1) / 2))), none]) rfl rfl ?_
    refine E_aload_n rfl rfl ?_
    refine E_getfield (v := .ref (b + 3)) rfl h0 rfl (by decide) rfl ?_
    refine E_iload_n rfl rfl ?_
    refine E_ialN (v := (qB s).getD x 0) rfl h3 (by omega) (by omega) rfl ?_
    refine E_aload_n rfl rfl ?_
    refine E_getfield (v := .ref (b + 2)) rfl h0 rfl (by decide) rfl ?_
    refine E_iload_n rfl rfl ?_
    refine E_ialN (v := (qA s).getD x 0) rfl h2 (by omega) (by omega) rfl ?_
    refine E_iadd (z := nI (((qB s).getD x 0) + ((qA s).getD x 0))) rfl (nI_add _ _) ?_
    refine E_istore_n (L2 := [some (.ref b), some (.int (nI x)), some (.int (nI ((((qB s).getD x 0) + 1) / 2))), some (.int (nI (((qB s).getD x 0) + ((qA s).getD x 0))))]) rfl rfl ?_
    refine E_aload_n rfl rfl ?_
    refine E_getfield (v := .ref (b + 1)) rfl h0 rfl (by decide) rfl ?_
    refine E_iload_n rfl rfl ?_
    refine E_ialN (v := 0) rfl h1 (by omega) (by omega) hk ?_
    refine E_tsOut (t := 102) rfl (by decide) rfl ?_
    refine E_aload_n rfl rfl ?_
    refine E_getfield (v := .ref (b + 3)) rfl h0 rfl (by decide) rfl ?_
    refine E_iload_n rfl rfl ?_
    refine E_ialN (v := (qB s).getD x 0) rfl h3 (by omega) (by omega) rfl ?_
    exact E_iret rfl rfl
  · rw [show qWorth s x = ((qB s).getD x 0 + 1) / 2 by unfold qWorth; rw [hk]; rfl]
    refine Ef.in (md := mX4_worthOf) (L := [some (.ref b), some (.int (nI x)), none, none]) rfl (Nat.le_of_ble_eq_true rfl) rfl ?_
    refine E_aload_n rfl rfl ?_
    refine E_getfield (v := .ref (b + 3)) rfl h0 rfl (by decide) rfl ?_
    refine E_iload_n rfl rfl ?_
    refine E_ialN (v := (qB s).getD x 0) rfl h3 (by omega) (by omega) rfl ?_
    refine E_iconst (x := nI 1) rfl (by decide) ?_
    refine E_iadd (z := nI (((qB s).getD x 0) + 1)) rfl (nI_add _ _) ?_
    refine E_iconst (x := nI 2) rfl (by decide) ?_
    refine E_idiv (z := nI ((((qB s).getD x 0) + 1) / 2)) rfl (by decide) (pk_div (by omega) (by omega) (by omega)) ?_
    refine E_istore_n (L2 := [some (.ref b), some (.int (nI x)), some (.int (nI ((((qB s).getD x 0) + 1) / 2))), none]) rfl rfl ?_
    refine E_aload_n rfl rfl ?_
    refine E_getfield (v := .ref (b + 3)) rfl h0 rfl (by decide) rfl ?_
    refine E_iload_n rfl rfl ?_
    refine E_ialN (v := (qB s).getD x 0) rfl h3 (by omega) (by omega) rfl ?_
    refine E_aload_n rfl rfl ?_
    refine E_getfield (v := .ref (b + 2)) rfl h0 rfl (by decide) rfl ?_
    refine E_iload_n rfl rfl ?_
    refine E_ialN (v := (qA s).getD x 0) rfl h2 (by omega) (by omega) rfl ?_
    refine E_iadd (z := nI (((qB s).getD x 0) + ((qA s).getD x 0))) rfl (nI_add _ _) ?_
    refine E_istore_n (L2 := [some (.ref b), some (.int (nI x)), some (.int (nI ((((qB s).getD x 0) + 1) / 2))), some (.int (nI (((qB s).getD x 0) + ((qA s).getD x 0))))]) rfl rfl ?_
    refine E_aload_n rfl rfl ?_
    refine E_getfield (v := .ref (b + 1)) rfl h0 rfl (by decide) rfl ?_
    refine E_iload_n rfl rfl ?_
    refine E_ialN (v := 1) rfl h1 (by omega) (by omega) hk ?_
    refine E_tsIn (off := 37) (t := 68) rfl (by decide) rfl rfl ?_
    refine E_iload_n rfl rfl ?_
    exact E_iret rfl rfl
  · rw [show qWorth s x = (qB s).getD x 0 + (qA s).getD x 0 by unfold qWorth; rw [hk]; rfl]
    refine Ef.in (md := mX4_worthOf) (L := [some (.ref b), some (.int (nI x)), none, none]) rfl (Nat.le_of_ble_eq_true rfl) rfl ?_
    refine E_aload_n rfl rfl ?_
    refine E_getfield (v := .ref (b + 3)) rfl h0 rfl (by decide) rfl ?_
    refine E_iload_n rfl rfl ?_
    refine E_ialN (v := (qB s).getD x 0) rfl h3 (by omega) (by omega) rfl ?_
    refine E_iconst (x := nI 1) rfl (by decide) ?_
    refine E_iadd (z := nI (((qB s).getD x 0) + 1)) rfl (nI_add _ _) ?_
    refine E_iconst (x := nI 2) rfl (by decide) ?_
    refine E_idiv (z := nI ((((qB s).getD x 0) + 1) / 2)) rfl (by decide) (pk_div (by omega) (by omega) (by omega)) ?_
    refine E_istore_n (L2 := [some (.ref b), some (.int (nI x)), some (.int (nI ((((qB s).getD x 0) + 1) / 2))), none]) rfl rfl ?_
    refine E_aload_n rfl rfl ?_
    refine E_getfield (v := .ref (b + 3)) rfl h0 rfl (by decide) rfl ?_
    refine E_iload_n rfl rfl ?_
    refine E_ialN (v := (qB s).getD x 0) rfl h3 (by omega) (by omega) rfl ?_
    refine E_aload_n rfl rfl ?_
    refine E_getfield (v := .ref (b + 2)) rfl h0 rfl (by decide) rfl ?_
    refine E_iload_n rfl rfl ?_
    refine E_ialN (v := (qA s).getD x 0) rfl h2 (by omega) (by omega) rfl ?_
    refine E_iadd (z := nI (((qB s).getD x 0) + ((qA s).getD x 0))) rfl (nI_add _ _) ?_
    refine E_istore_n (L2 := [some (.ref b), some (.int (nI x)), some (.int (nI ((((qB s).getD x 0) + 1) / 2))), some (.int (nI (((qB s).getD x 0) + ((qA s).getD x 0))))]) rfl rfl ?_
    refine E_aload_n rfl rfl ?_
    refine E_getfield (v := .ref (b + 1)) rfl h0 rfl (by decide) rfl ?_
    refine E_iload_n rfl rfl ?_
    refine E_ialN (v := 2) rfl h1 (by omega) (by omega) hk ?_
    refine E_tsIn (off := 52) (t := 83) rfl (by decide) rfl rfl ?_
    refine E_iload_n rfl rfl ?_
    exact E_iret rfl rfl
  · rw [show qWorth s x = if ((qB s).getD x 0 + 1) / 2 ≤ (qA s).getD x 0 then 1 else ((qB s).getD x 0 + 1) / 2 - (qA s).getD x 0 by unfold qWorth; rw [hk]; rfl]
    refine Ef.in (md := mX4_worthOf) (L := [some (.ref b), some (.int (nI x)), none, none]) rfl (Nat.le_of_ble_eq_true rfl) rfl ?_
    refine E_aload_n rfl rfl ?_
    refine E_getfield (v := .ref (b + 3)) rfl h0 rfl (by decide) rfl ?_
    refine E_iload_n rfl rfl ?_
    refine E_ialN (v := (qB s).getD x 0) rfl h3 (by omega) (by omega) rfl ?_
    refine E_iconst (x := nI 1) rfl (by decide) ?_
    refine E_iadd (z := nI (((qB s).getD x 0) + 1)) rfl (nI_add _ _) ?_
    refine E_iconst (x := nI 2) rfl (by decide) ?_
    refine E_idiv (z := nI ((((qB s).getD x 0) + 1) / 2)) rfl (by decide) (pk_div (by omega) (by omega) (by omega)) ?_
    refine E_istore_n (L2 := [some (.ref b), some (.int (nI x)), some (.int (nI ((((qB s).getD x 0) + 1) / 2))), none]) rfl rfl ?_
    refine E_aload_n rfl rfl ?_
    refine E_getfield (v := .ref (b + 3)) rfl h0 rfl (by decide) rfl ?_
    refine E_iload_n rfl rfl ?_
    refine E_ialN (v := (qB s).getD x 0) rfl h3 (by omega) (by omega) rfl ?_
    refine E_aload_n rfl rfl ?_
    refine E_getfield (v := .ref (b + 2)) rfl h0 rfl (by decide) rfl ?_
    refine E_iload_n rfl rfl ?_
    refine E_ialN (v := (qA s).getD x 0) rfl h2 (by omega) (by omega) rfl ?_
    refine E_iadd (z := nI (((qB s).getD x 0) + ((qA s).getD x 0))) rfl (nI_add _ _) ?_
    refine E_istore_n (L2 := [some (.ref b), some (.int (nI x)), some (.int (nI ((((qB s).getD x 0) + 1) / 2))), some (.int (nI (((qB s).getD x 0) + ((qA s).getD x 0))))]) rfl rfl ?_
    refine E_aload_n rfl rfl ?_
    refine E_getfield (v := .ref (b + 1)) rfl h0 rfl (by decide) rfl ?_
    refine E_iload_n rfl rfl ?_
    refine E_ialN (v := 3) rfl h1 (by omega) (by omega) hk ?_
    refine E_tsIn (off := 39) (t := 70) rfl (by decide) rfl rfl ?_
    refine E_iload_n rfl rfl ?_
    refine E_aload_n rfl rfl ?_
    refine E_getfield (v := .ref (b + 2)) rfl h0 rfl (by decide) rfl ?_
    refine E_iload_n rfl rfl ?_
    refine E_ialN (v := (qA s).getD x 0) rfl h2 (by omega) (by omega) rfl ?_
    refine E_isub (z := (nI (((qB s).getD x 0 + 1) / 2) - nI ((qA s).getD x 0))) rfl rfl ?_
    refine E_iconst (x := nI 1) rfl (by decide) ?_
    refine E_max (z := nI (if ((qB s).getD x 0 + 1) / 2 ≤ (qA s).getD x 0 then 1 else ((qB s).getD x 0 + 1) / 2 - (qA s).getD x 0)) rfl (Nat.le_of_ble_eq_true rfl) (ab_mx1 (by omega) (by omega)) ?_
    exact E_iret rfl rfl
  · rw [show qWorth s x = 1 by unfold qWorth; rw [hk]; rfl]
    refine Ef.in (md := mX4_worthOf) (L := [some (.ref b), some (.int (nI x)), none, none]) rfl (Nat.le_of_ble_eq_true rfl) rfl ?_
    refine E_aload_n rfl rfl ?_
    refine E_getfield (v := .ref (b + 3)) rfl h0 rfl (by decide) rfl ?_
    refine E_iload_n rfl rfl ?_
    refine E_ialN (v := (qB s).getD x 0) rfl h3 (by omega) (by omega) rfl ?_
    refine E_iconst (x := nI 1) rfl (by decide) ?_
    refine E_iadd (z := nI (((qB s).getD x 0) + 1)) rfl (nI_add _ _) ?_
    refine E_iconst (x := nI 2) rfl (by decide) ?_
    refine E_idiv (z := nI ((((qB s).getD x 0) + 1) / 2)) rfl (by decide) (pk_div (by omega) (by omega) (by omega)) ?_
    refine E_istore_n (L2 := [some (.ref b), some (.int (nI x)), some (.int (nI ((((qB s).getD x 0) + 1) / 2))), none]) rfl rfl ?_
    refine E_aload_n rfl rfl ?_
    refine E_getfield (v := .ref (b + 3)) rfl h0 rfl (by decide) rfl ?_
    refine E_iload_n rfl rfl ?_
    refine E_ialN (v := (qB s).getD x 0) rfl h3 (by omega) (by omega) rfl ?_
    refine E_aload_n rfl rfl ?_
    refine E_getfield (v := .ref (b + 2)) rfl h0 rfl (by decide) rfl ?_
    refine E_iload_n rfl rfl ?_
    refine E_ialN (v := (qA s).getD x 0) rfl h2 (by omega) (by omega) rfl ?_
    refine E_iadd (z := nI (((qB s).getD x 0) + ((qA s).getD x 0))) rfl (nI_add _ _) ?_
    refine E_istore_n (L2 := [some (.ref b), some (.int (nI x)), some (.int (nI ((((qB s).getD x 0) + 1) / 2))), some (.int (nI (((qB s).getD x 0) + ((qA s).getD x 0))))]) rfl rfl ?_
    refine E_aload_n rfl rfl ?_
    refine E_getfield (v := .ref (b + 1)) rfl h0 rfl (by decide) rfl ?_
    refine E_iload_n rfl rfl ?_
    refine E_ialN (v := 4) rfl h1 (by omega) (by omega) hk ?_
    refine E_tsIn (off := 60) (t := 91) rfl (by decide) rfl rfl ?_
    refine E_iconst (x := nI 1) rfl (by decide) ?_
    exact E_iret rfl rfl
  · rw [show qWorth s x = ((qB s).getD x 0 + (qA s).getD x 0 + 1) / 2 by unfold qWorth; rw [hk]; rfl]
    refine Ef.in (md := mX4_worthOf) (L := [some (.ref b), some (.int (nI x)), none, none]) rfl (Nat.le_of_ble_eq_true rfl) rfl ?_
    refine E_aload_n rfl rfl ?_
    refine E_getfield (v := .ref (b + 3)) rfl h0 rfl (by decide) rfl ?_
    refine E_iload_n rfl rfl ?_
    refine E_ialN (v := (qB s).getD x 0) rfl h3 (by omega) (by omega) rfl ?_
    refine E_iconst (x := nI 1) rfl (by decide) ?_
    refine E_iadd (z := nI (((qB s).getD x 0) + 1)) rfl (nI_add _ _) ?_
    refine E_iconst (x := nI 2) rfl (by decide) ?_
    refine E_idiv (z := nI ((((qB s).getD x 0) + 1) / 2)) rfl (by decide) (pk_div (by omega) (by omega) (by omega)) ?_
    refine E_istore_n (L2 := [some (.ref b), some (.int (nI x)), some (.int (nI ((((qB s).getD x 0) + 1) / 2))), none]) rfl rfl ?_
    refine E_aload_n rfl rfl ?_
    refine E_getfield (v := .ref (b + 3)) rfl h0 rfl (by decide) rfl ?_
    refine E_iload_n rfl rfl ?_
    refine E_ialN (v := (qB s).getD x 0) rfl h3 (by omega) (by omega) rfl ?_
    refine E_aload_n rfl rfl ?_
    refine E_getfield (v := .ref (b + 2)) rfl h0 rfl (by decide) rfl ?_
    refine E_iload_n rfl rfl ?_
    refine E_ialN (v := (qA s).getD x 0) rfl h2 (by omega) (by omega) rfl ?_
    refine E_iadd (z := nI (((qB s).getD x 0) + ((qA s).getD x 0))) rfl (nI_add _ _) ?_
    refine E_istore_n (L2 := [some (.ref b), some (.int (nI x)), some (.int (nI ((((qB s).getD x 0) + 1) / 2))), some (.int (nI (((qB s).getD x 0) + ((qA s).getD x 0))))]) rfl rfl ?_
    refine E_aload_n rfl rfl ?_
    refine E_getfield (v := .ref (b + 1)) rfl h0 rfl (by decide) rfl ?_
    refine E_iload_n rfl rfl ?_
    refine E_ialN (v := 5) rfl h1 (by omega) (by omega) hk ?_
    refine E_tsIn (off := 54) (t := 85) rfl (by decide) rfl rfl ?_
    refine E_iload_n rfl rfl ?_
    refine E_iconst (x := nI 1) rfl (by decide) ?_
    refine E_iadd (z := nI ((((qB s).getD x 0) + ((qA s).getD x 0)) + 1)) rfl (nI_add _ _) ?_
    refine E_iconst (x := nI 2) rfl (by decide) ?_
    refine E_idiv (z := nI (((((qB s).getD x 0) + ((qA s).getD x 0)) + 1) / 2)) rfl (by decide) (pk_div (by omega) (by omega) (by omega)) ?_
    exact E_iret rfl rfl
  · rw [show qWorth s x = 1 + (qA s).getD x 0 by unfold qWorth; rw [hk]; rfl]
    refine Ef.in (md := mX4_worthOf) (L := [some (.ref b), some (.int (nI x)), none, none]) rfl (Nat.le_of_ble_eq_true rfl) rfl ?_
    refine E_aload_n rfl rfl ?_
    refine E_getfield (v := .ref (b + 3)) rfl h0 rfl (by decide) rfl ?_
    refine E_iload_n rfl rfl ?_
    refine E_ialN (v := (qB s).getD x 0) rfl h3 (by omega) (by omega) rfl ?_
    refine E_iconst (x := nI 1) rfl (by decide) ?_
    refine E_iadd (z := nI (((qB s).getD x 0) + 1)) rfl (nI_add _ _) ?_
    refine E_iconst (x := nI 2) rfl (by decide) ?_
    refine E_idiv (z := nI ((((qB s).getD x 0) + 1) / 2)) rfl (by decide) (pk_div (by omega) (by omega) (by omega)) ?_
    refine E_istore_n (L2 := [some (.ref b), some (.int (nI x)), some (.int (nI ((((qB s).getD x 0) + 1) / 2))), none]) rfl rfl ?_
    refine E_aload_n rfl rfl ?_
    refine E_getfield (v := .ref (b + 3)) rfl h0 rfl (by decide) rfl ?_
    refine E_iload_n rfl rfl ?_
    refine E_ialN (v := (qB s).getD x 0) rfl h3 (by omega) (by omega) rfl ?_
    refine E_aload_n rfl rfl ?_
    refine E_getfield (v := .ref (b + 2)) rfl h0 rfl (by decide) rfl ?_
    refine E_iload_n rfl rfl ?_
    refine E_ialN (v := (qA s).getD x 0) rfl h2 (by omega) (by omega) rfl ?_
    refine E_iadd (z := nI (((qB s).getD x 0) + ((qA s).getD x 0))) rfl (nI_add _ _) ?_
    refine E_istore_n (L2 := [some (.ref b), some (.int (nI x)), some (.int (nI ((((qB s).getD x 0) + 1) / 2))), some (.int (nI (((qB s).getD x 0) + ((qA s).getD x 0))))]) rfl rfl ?_
    refine E_aload_n rfl rfl ?_
    refine E_getfield (v := .ref (b + 1)) rfl h0 rfl (by decide) rfl ?_
    refine E_iload_n rfl rfl ?_
    refine E_ialN (v := 6) rfl h1 (by omega) (by omega) hk ?_
    refine E_tsIn (off := 62) (t := 93) rfl (by decide) rfl rfl ?_
    refine E_iconst (x := nI 1) rfl (by decide) ?_
    refine E_aload_n rfl rfl ?_
    refine E_getfield (v := .ref (b + 2)) rfl h0 rfl (by decide) rfl ?_
    refine E_iload_n rfl rfl ?_
    refine E_ialN (v := (qA s).getD x 0) rfl h2 (by omega) (by omega) rfl ?_
    refine E_iadd (z := nI (1 + ((qA s).getD x 0))) rfl (nI_add _ _) ?_
    exact E_iret rfl rfl
theorem sq_harmOf {cs : List ab_C} {b : Nat} {s : ab_q} {x : Nat} (h : qAt cs b s) (I : qI s) (hx : x < qN s) : Ev ab_Z0 1 59 [.ref b, .int (nI x)] cs (some (.int (nI (qHarm s x))), cs) := by
  obtain ⟨h0, h1, h2, h3, h4, h5, h6, h7, h8, h9⟩ := h
  obtain ⟨⟨i0, i1, i2, i3⟩, ⟨i4, i5, i6, i7, i8⟩, ⟨i9, i10⟩, I1, I2, I3, I4⟩ := id I
  have I1x := I1 x hx
  have hk : (qK s).getD x 0 = 0 ∨ (qK s).getD x 0 = 1 ∨ (qK s).getD x 0 = 2 ∨ (qK s).getD x 0 = 3 ∨ (qK s).getD x 0 = 4 ∨ (qK s).getD x 0 = 5 ∨ (qK s).getD x 0 = 6 := by omega
  rcases hk with hk | hk | hk | hk | hk | hk | hk
  · rw [show qHarm s x = 0 by unfold qHarm; rw [hk]; rfl]
    refine Ef.in (md := mX4_harmOf) (L := [some (.ref b), some (.int (nI x))]) rfl (Nat.le_of_ble_eq_true rfl) rfl ?_
    refine E_aload_n rfl rfl ?_
    refine E_getfield (v := .ref (b + 1)) rfl h0 rfl (by decide) rfl ?_
    refine E_iload_n rfl rfl ?_
    refine E_ialN (v := 0) rfl h1 (by omega) (by omega) hk ?_
    refine E_tsOut (t := 54) rfl (by decide) rfl ?_
    refine E_iconst (x := nI 0) rfl (by decide) ?_
    exact E_iret rfl rfl
  · rw [show qHarm s x = (qA s).getD x 0 by unfold qHarm; rw [hk]; rfl]
    refine Ef.in (md := mX4_harmOf) (L := [some (.ref b), some (.int (nI x))]) rfl (Nat.le_of_ble_eq_true rfl) rfl ?_
    refine E_aload_n rfl rfl ?_
    refine E_getfield (v := .ref (b + 1)) rfl h0 rfl (by decide) rfl ?_
    refine E_iload_n rfl rfl ?_
    refine E_ialN (v := 1) rfl h1 (by omega) (by omega) hk ?_
    refine E_tsIn (off := 30) (t := 36) rfl (by decide) rfl rfl ?_
    refine E_aload_n rfl rfl ?_
    refine E_getfield (v := .ref (b + 2)) rfl h0 rfl (by decide) rfl ?_
    refine E_iload_n rfl rfl ?_
    refine E_ialN (v := (qA s).getD x 0) rfl h2 (by omega) (by omega) rfl ?_
    exact E_iret rfl rfl
  · rw [show qHarm s x = 0 by unfold qHarm; rw [hk]; rfl]
    refine Ef.in (md := mX4_harmOf) (L := [some (.ref b), some (.int (nI x))]) rfl (Nat.le_of_ble_eq_true rfl) rfl ?_
    refine E_aload_n rfl rfl ?_
    refine E_getfield (v := .ref (b + 1)) rfl h0 rfl (by decide) rfl ?_
    refine E_iload_n rfl rfl ?_
    refine E_ialN (v := 2) rfl h1 (by omega) (by omega) hk ?_
    refine E_tsIn (off := 48) (t := 54) rfl (by decide) rfl rfl ?_
    refine E_iconst (x := nI 0) rfl (by decide) ?_
    exact E_iret rfl rfl
  · rw [show qHarm s x = 2 * (qA s).getD x 0 by unfold qHarm; rw [hk]; rfl]
    refine Ef.in (md := mX4_harmOf) (L := [some (.ref b), some (.int (nI x))]) rfl (Nat.le_of_ble_eq_true rfl) rfl ?_
    refine E_aload_n rfl rfl ?_
    refine E_getfield (v := .ref (b + 1)) rfl h0 rfl (by decide) rfl ?_
    refine E_iload_n rfl rfl ?_
    refine E_ialN (v := 3) rfl h1 (by omega) (by omega) hk ?_
    refine E_tsIn (off := 37) (t := 43) rfl (by decide) rfl rfl ?_
    refine E_iconst (x := nI 2) rfl (by decide) ?_
    refine E_aload_n rfl rfl ?_
    refine E_getfield (v := .ref (b + 2)) rfl h0 rfl (by decide) rfl ?_
    refine E_iload_n rfl rfl ?_
    refine E_ialN (v := (qA s).getD x 0) rfl h2 (by omega) (by omega) rfl ?_
    refine E_imul (z := nI (2 * ((qA s).getD x 0))) rfl (pk_mul _ _) ?_
    exact E_iret rfl rfl
  · rw [show qHarm s x = 1 by unfold qHarm; rw [hk]; rfl]
    refine Ef.in (md := mX4_harmOf) (L := [some (.ref b), some (.int (nI x))]) rfl (Nat.le_of_ble_eq_true rfl) rfl ?_
    refine E_aload_n rfl rfl ?_
    refine E_getfield (v := .ref (b + 1)) rfl h0 rfl (by decide) rfl ?_
    refine E_iload_n rfl rfl ?_
    refine E_ialN (v := 4) rfl h1 (by omega) (by omega) hk ?_
    refine E_tsIn (off := 46) (t := 52) rfl (by decide) rfl rfl ?_
    refine E_iconst (x := nI 1) rfl (by decide) ?_
    exact E_iret rfl rfl
  · rw [show qHarm s x = 0 by unfold qHarm; rw [hk]; rfl]
    refine Ef.in (md := mX4_harmOf) (L := [some (.ref b), some (.int (nI x))]) rfl (Nat.le_of_ble_eq_true rfl) rfl ?_
    refine E_aload_n rfl rfl ?_
    refine E_getfield (v := .ref (b + 1)) rfl h0 rfl (by decide) rfl ?_
    refine E_iload_n rfl rfl ?_
    refine E_ialN (v := 5) rfl h1 (by omega) (by omega) hk ?_
    refine E_tsOut (t := 54) rfl (by decide) rfl ?_
    refine E_iconst (x := nI 0) rfl (by decide) ?_
    exact E_iret rfl rfl
  · rw [show qHarm s x = 0 by unfold qHarm; rw [hk]; rfl]
    refine Ef.in (md := mX4_harmOf) (L := [some (.ref b), some (.int (nI x))]) rfl (Nat.le_of_ble_eq_true rfl) rfl ?_
    refine E_aload_n rfl rfl ?_
    refine E_getfield (v := .ref (b + 1)) rfl h0 rfl (by decide) rfl ?_
    refine E_iload_n rfl rfl ?_
    refine E_ialN (v := 6) rfl h1 (by omega) (by omega) hk ?_
    refine E_tsOut (t := 54) rfl (by decide) rfl ?_
    refine E_iconst (x := nI 0) rfl (by decide) ?_
    exact E_iret rfl rfl
def qWs (s : ab_q) (m : Nat) : Nat → Nat
  | 0 => 0
  | i + 1 => qWs s m i + (if qBit m i = 1 then qWorth s i else 0)
theorem qWs_1 {s : ab_q} {m i : Nat} (e : qBit m i = 1) : nI (qWs s m i) + nI (qWorth s i) = nI (qWs s m (i + 1)) := by
  rw [nI_add]
  show _ = nI (_ + (if _ then _ else _))
  rw [if_pos e]
theorem qWs_0 {s : ab_q} {m i : Nat} (e : qBit m i = 0) : nI (qWs s m i) + nI 0 = nI (qWs s m (i + 1)) := by
  rw [nI_add]
  show _ = nI (_ + (if _ then _ else _))
  rw [if_neg (by omega)]
theorem sq_worthOfBits_l {cs : List ab_C} {b : Nat} {s : ab_q} {m : Nat} {r : Option Value × List ab_C} (h : qAt cs b s) (I : qI s) (hm : m < 2 ^ 31) (K : Ef ab_Z0 1 mX4_worthOfBits (38, [some (.ref b), some (.int (nI m)), some (.int (nI (qWs s m (qN s)))), some (.int (nI (qN s)))], [], cs) r) : ∀ n i, i + n = qN s → Ef ab_Z0 1 mX4_worthOfBits (4, [some (.ref b), some (.int (nI m)), some (.int (nI (qWs s m i))), some (.int (nI i))], [], cs) r := by
  have hh := h
  obtain ⟨h0, h1, h2, h3, h4, h5, h6, h7, h8, h9⟩ := h
  obtain ⟨⟨i0, i1, i2, i3⟩, ⟨i4, i5, i6, i7, i8⟩, ⟨i9, i10⟩, I1, I2, I3, I4⟩ := id I
  have h := hh
  intro n
  induction n with
  | zero =>
    intro i hi
    obtain rfl : i = qN s := by omega
    refine E_iload_n rfl rfl ?_
    refine E_aload_n rfl rfl ?_
    refine E_getfield (v := .int (nI (qN s))) rfl h0 rfl (by decide) rfl ?_
    refine E_ic (t := 38) (b := true) rfl rfl ((cn_geN (by omega) (by omega)).trans (decide_eq_true (by omega))) ?_
    exact K
  | succ n ih =>
    intro i hi
    rcases qBit2 m i with e | e
    · refine E_iload_n rfl rfl ?_
      refine E_aload_n rfl rfl ?_
      refine E_getfield (v := .int (nI (qN s))) rfl h0 rfl (by decide) rfl ?_
      refine E_ic (t := 38) (b := false) rfl rfl ((cn_geN (by omega) (by omega)).trans (decide_eq_false (by omega))) ?_
      refine E_iload_n rfl rfl ?_
      refine E_iload_n rfl rfl ?_
      refine E_iload_n rfl rfl ?_
      refine E_callS (v := some (.int (nI 0))) (As := [.int (nI m), .int (nI i)]) (r0 := [.int (nI (qWs s m i))]) (cs2 := cs) rfl rfl rfl (Nat.le_of_ble_eq_true rfl) rfl (e ▸ sq_isBit hm (by omega)) (by decide) rfl ?_
      refine E_if (t := 29) (b := true) rfl rfl (by decide) ?_
      refine E_iconst (x := nI 0) rfl (by decide) ?_
      refine E_iadd (z := nI (qWs s m (i + 1))) rfl (qWs_0 e) ?_
      refine E_istore_n (L2 := [some (.ref b), some (.int (nI m)), some (.int (nI (qWs s m (i + 1)))), some (.int (nI i))]) rfl rfl ?_
      refine E_iinc (y := nI (i + 1)) (L2 := [some (.ref b), some (.int (nI m)), some (.int (nI (qWs s m (i + 1)))), some (.int (nI (i + 1)))]) rfl rfl (nI_1 _) rfl ?_
      refine E_goto (t := 4) rfl rfl ?_
      exact ih (i + 1) (by omega)
    · refine E_iload_n rfl rfl ?_
      refine E_aload_n rfl rfl ?_
      refine E_getfield (v := .int (nI (qN s))) rfl h0 rfl (by decide) rfl ?_
      refine E_ic (t := 38) (b := false) rfl rfl ((cn_geN (by omega) (by omega)).trans (decide_eq_false (by omega))) ?_
      refine E_iload_n rfl rfl ?_
      refine E_iload_n rfl rfl ?_
      refine E_iload_n rfl rfl ?_
      refine E_callS (v := some (.int (nI 1))) (As := [.int (nI m), .int (nI i)]) (r0 := [.int (nI (qWs s m i))]) (cs2 := cs) rfl rfl rfl (Nat.le_of_ble_eq_true rfl) rfl (e ▸ sq_isBit hm (by omega)) (by decide) rfl ?_
      refine E_if (t := 29) (b := false) rfl rfl (by decide) ?_
      refine E_aload_n rfl rfl ?_
      refine E_iload_n rfl rfl ?_
      refine E_callV (v := some (.int (nI (qWorth s i)))) (As := [.ref b, .int (nI i)]) (r0 := [.int (nI (qWs s m i))]) (cs2 := cs) rfl rfl rfl (Nat.le_of_ble_eq_true rfl) rfl (ab_rvOf h0 rfl) (sq_worthOf h I (by omega)) (by decide) rfl ?_
      refine E_goto (t := 30) rfl rfl ?_
      refine E_iadd (z := nI (qWs s m (i + 1))) rfl (qWs_1 e) ?_
      refine E_istore_n (L2 := [some (.ref b), some (.int (nI m)), some (.int (nI (qWs s m (i + 1)))), some (.int (nI i))]) rfl rfl ?_
      refine E_iinc (y := nI (i + 1)) (L2 := [some (.ref b), some (.int (nI m)), some (.int (nI (qWs s m (i + 1)))), some (.int (nI (i + 1)))]) rfl rfl (nI_1 _) rfl ?_
      refine E_goto (t := 4) rfl rfl ?_
      exact ih (i + 1) (by omega)
theorem sq_worthOfBits {cs : List ab_C} {b : Nat} {s : ab_q} {m : Nat} (h : qAt cs b s) (I : qI s) (hm : m < 2 ^ 31) : Ev ab_Z0 2 60 [.ref b, .int (nI m)] cs (some (.int (nI (qWs s m (qN s)))), cs) := by
  obtain ⟨h0, h1, h2, h3, h4, h5, h6, h7, h8, h9⟩ := h
  obtain ⟨⟨i0, i1, i2, i3⟩, ⟨i4, i5, i6, i7, i8⟩, ⟨i9, i10⟩, I1, I2, I3, I4⟩ := id I
  have hh : qAt cs b s := ⟨h0, h1, h2, h3, h4, h5, h6, h7, h8, h9⟩
  refine Ef.in (md := mX4_worthOfBits) (L := [some (.ref b), some (.int (nI m)), none, none]) rfl (Nat.le_of_ble_eq_true rfl) rfl ?_
  refine E_iconst (x := nI 0) rfl (by decide) ?_
  refine E_istore_n (L2 := [some (.ref b), some (.int (nI m)), some (.int (nI 0)), none]) rfl rfl ?_
  refine E_iconst (x := nI 0) rfl (by decide) ?_
  refine E_istore_n (L2 := [some (.ref b), some (.int (nI m)), some (.int (nI 0)), some (.int (nI 0))]) rfl rfl ?_
  refine sq_worthOfBits_l hh I hm ?_ (qN s) 0 (by omega)
  refine E_iload_n rfl rfl ?_
  exact E_iret rfl rfl
def qHs (s : ab_q) (m : Nat) : Nat → Nat
  | 0 => 0
  | i + 1 => qHs s m i + (if qBit m i = 1 then qHarm s i else 0)
theorem qHs_1 {s : ab_q} {m i : Nat} (e : qBit m i = 1) : nI (qHs s m i) + nI (qHarm s i) = nI (qHs s m (i + 1)) := by
  rw [nI_add]
  show _ = nI (_ + (if _ then _ else _))
  rw [if_pos e]
theorem qHs_0 {s : ab_q} {m i : Nat} (e : qBit m i = 0) : nI (qHs s m i) + nI 0 = nI (qHs s m (i + 1)) := by
  rw [nI_add]
  show _ = nI (_ + (if _ then _ else _))
  rw [if_neg (by omega)]
theorem sq_harmOfBits_l {cs : List ab_C} {b : Nat} {s : ab_q} {m : Nat} {r : Option Value × List ab_C} (h : qAt cs b s) (I : qI s) (hm : m < 2 ^ 31) (K : Ef ab_Z0 1 mX4_harmOfBits (38, [some (.ref b), some (.int (nI m)), some (.int (nI (qHs s m (qN s)))), some (.int (nI (qN s)))], [], cs) r) : ∀ n i, i + n = qN s → Ef ab_Z0 1 mX4_harmOfBits (4, [some (.ref b), some (.int (nI m)), some (.int (nI (qHs s m i))), some (.int (nI i))], [], cs) r := by
  have hh := h
  obtain ⟨h0, h1, h2, h3, h4, h5, h6, h7, h8, h9⟩ := h
  obtain ⟨⟨i0, i1, i2, i3⟩, ⟨i4, i5, i6, i7, i8⟩, ⟨i9, i10⟩, I1, I2, I3, I4⟩ := id I
  have h := hh
  intro n
  induction n with
  | zero =>
    intro i hi
    obtain rfl : i = qN s := by omega
    refine E_iload_n rfl rfl ?_
    refine E_aload_n rfl rfl ?_
    refine E_getfield (v := .int (nI (qN s))) rfl h0 rfl (by decide) rfl ?_
    refine E_ic (t := 38) (b := true) rfl rfl ((cn_geN (by omega) (by omega)).trans (decide_eq_true (by omega))) ?_
    exact K
  | succ n ih =>
    intro i hi
    rcases qBit2 m i with e | e
    · refine E_iload_n rfl rfl ?_
      refine E_aload_n rfl rfl ?_
      refine E_getfield (v := .int (nI (qN s))) rfl h0 rfl (by decide) rfl ?_
      refine E_ic (t := 38) (b := false) rfl rfl ((cn_geN (by omega) (by omega)).trans (decide_eq_false (by omega))) ?_
      refine E_iload_n rfl rfl ?_
      refine E_iload_n rfl rfl ?_
      refine E_iload_n rfl rfl ?_
      refine E_callS (v := some (.int (nI 0))) (As := [.int (nI m), .int (nI i)]) (r0 := [.int (nI (qHs s m i))]) (cs2 := cs) rfl rfl rfl (Nat.le_of_ble_eq_true rfl) rfl (e ▸ sq_isBit hm (by omega)) (by decide) rfl ?_
      refine E_if (t := 29) (b := true) rfl rfl (by decide) ?_
      refine E_iconst (x := nI 0) rfl (by decide) ?_
      refine E_iadd (z := nI (qHs s m (i + 1))) rfl (qHs_0 e) ?_
      refine E_istore_n (L2 := [some (.ref b), some (.int (nI m)), some (.int (nI (qHs s m (i + 1)))), some (.int (nI i))]) rfl rfl ?_
      refine E_iinc (y := nI (i + 1)) (L2 := [some (.ref b), some (.int (nI m)), some (.int (nI (qHs s m (i + 1)))), some (.int (nI (i + 1)))]) rfl rfl (nI_1 _) rfl ?_
      refine E_goto (t := 4) rfl rfl ?_
      exact ih (i + 1) (by omega)
    · refine E_iload_n rfl rfl ?_
      refine E_aload_n rfl rfl ?_
      refine E_getfield (v := .int (nI (qN s))) rfl h0 rfl (by decide) rfl ?_
      refine E_ic (t := 38) (b := false) rfl rfl ((cn_geN (by omega) (by omega)).trans (decide_eq_false (by omega))) ?_
      refine E_iload_n rfl rfl ?_
      refine E_iload_n rfl rfl ?_
      refine E_iload_n rfl rfl ?_
      refine E_callS (v := some (.int (nI 1))) (As := [.int (nI m), .int (nI i)]) (r0 := [.int (nI (qHs s m i))]) (cs2 := cs) rfl rfl rfl (Nat.le_of_ble_eq_true rfl) rfl (e ▸ sq_isBit hm (by omega)) (by decide) rfl ?_
      refine E_if (t := 29) (b := false) rfl rfl (by decide) ?_
      refine E_aload_n rfl rfl ?_
      refine E_iload_n rfl rfl ?_
      refine E_callV (v := some (.int (nI (qHarm s i)))) (As := [.ref b, .int (nI i)]) (r0 := [.int (nI (qHs s m i))]) (cs2 := cs) rfl rfl rfl (Nat.le_of_ble_eq_true rfl) rfl (ab_rvOf h0 rfl) (sq_harmOf h I (by omega)) (by decide) rfl ?_
      refine E_goto (t := 30) rfl rfl ?_
      refine E_iadd (z := nI (qHs s m (i + 1))) rfl (qHs_1 e) ?_
      refine E_istore_n (L2 := [some (.ref b), some (.int (nI m)), some (.int (nI (qHs s m (i + 1)))), some (.int (nI i))]) rfl rfl ?_
      refine E_iinc (y := nI (i + 1)) (L2 := [some (.ref b), some (.int (nI m)), some (.int (nI (qHs s m (i + 1)))), some (.int (nI (i + 1)))]) rfl rfl (nI_1 _) rfl ?_
      refine E_goto (t := 4) rfl rfl ?_
      exact ih (i + 1) (by omega)
theorem sq_harmOfBits {cs : List ab_C} {b : Nat} {s : ab_q} {m : Nat} (h : qAt cs b s) (I : qI s) (hm : m < 2 ^ 31) : Ev ab_Z0 2 61 [.ref b, .int (nI m)] cs (some (.int (nI (qHs s m (qN s)))), cs) := by
  obtain ⟨h0, h1, h2, h3, h4, h5, h6, h7, h8, h9⟩ := h
  obtain ⟨⟨i0, i1, i2, i3⟩, ⟨i4, i5, i6, i7, i8⟩, ⟨i9, i10⟩, I1, I2, I3, I4⟩ := id I
  have hh : qAt cs b s := ⟨h0, h1, h2, h3, h4, h5, h6, h7, h8, h9⟩
  refine Ef.in (md := mX4_harmOfBits) (L := [some (.ref b), some (.int (nI m)), none, none]) rfl (Nat.le_of_ble_eq_true rfl) rfl ?_
  refine E_iconst (x := nI 0) rfl (by decide) ?_
  refine E_istore_n (L2 := [some (.ref b), some (.int (nI m)), some (.int (nI 0)), none]) rfl rfl ?_
  refine E_iconst (x := nI 0) rfl (by decide) ?_
  refine E_istore_n (L2 := [some (.ref b), some (.int (nI m)), some (.int (nI 0)), some (.int (nI 0))]) rfl rfl ?_
  refine sq_harmOfBits_l hh I hm ?_ (qN s) 0 (by omega)
  refine E_iload_n rfl rfl ?_
  exact E_iret rfl rfl
