/-! the reference's price; by program (wip/tools/mq.py) -/
def qOt (s : ab_q) (p w : Nat) : Nat → Nat
  | 0 => 0
  | i + 1 => qOt s p w i + (if ¬ i = p ∧ (qW s).getD i 0 = w then 1 else 0)
theorem qOt_1 {s : ab_q} {p w i : Nat} (h : ¬ i = p) (e : (qW s).getD i 0 = w) : qOt s p w (i + 1) = qOt s p w i + 1 := by
  show _ + (if _ then _ else _) = _
  rw [if_pos ⟨h, e⟩]
theorem qOt_0 {s : ab_q} {p w i : Nat} (h : i = p ∨ ¬ (qW s).getD i 0 = w) : qOt s p w (i + 1) = qOt s p w i := by
  show _ + (if _ then _ else _) = _
  rw [if_neg (fun q => h.elim q.1 (fun z => z q.2))]
  rfl
theorem qOt_eq (s : ab_q) (p w : Nat) : ∀ i, qOt s p w i = qWn s w i - (if p < i ∧ (qW s).getD p 0 = w then 1 else 0)
  | 0 => by
    show 0 = 0 - _
    omega
  | i + 1 => by
    have ih := qOt_eq s p w i
    show qOt s p w i + (if ¬ i = p ∧ (qW s).getD i 0 = w then 1 else 0) = (qWn s w i + (if (qW s).getD i 0 = w then 1 else 0)) - _
    rw [ih]
    by_cases h1 : i = p
    · subst h1
      by_cases h2 : (qW s).getD i 0 = w
      · rw [if_neg (by omega), if_neg (by omega), if_pos h2, if_pos ⟨by omega, h2⟩]
        omega
      · rw [if_neg (by omega), if_neg (by omega), if_neg h2, if_neg (by omega)]
        omega
    · by_cases h3 : p < i ∧ (qW s).getD p 0 = w
      · have hp := qWn_pos h3.2 i h3.1
        rw [if_pos h3, if_pos (c := p < i + 1 ∧ _) ⟨by omega, h3.2⟩]
        by_cases h2 : (qW s).getD i 0 = w
        · rw [if_pos ⟨h1, h2⟩, if_pos h2]
          omega
        · rw [if_neg (by omega), if_neg h2]
          omega
      · rw [if_neg h3, if_neg (c := p < i + 1 ∧ _) (by omega)]
        by_cases h2 : (qW s).getD i 0 = w
        · rw [if_pos ⟨h1, h2⟩, if_pos h2]
          omega
        · rw [if_neg (by omega), if_neg h2]
          omega
theorem ab_add2 (a l : Nat) : (nI a - nI l) + Int32.ofInt 2 = nI (a + 2) - nI l := by
  rw [← nI_add, Int32.sub_eq_add_neg, Int32.sub_eq_add_neg, Int32.add_assoc, Int32.add_comm (-nI l), ← Int32.add_assoc]
  rfl
theorem mo_priceFor_l {cs : List ab_C} {s : ab_q} {g : Nat → Int32} {p w : Nat} {r : Option Value × List ab_C} (h : mAt cs s g) (I : qI s) (hp : p < qM s) (hw : w < 8) (K : Ef ab_Z0 0 mX6_priceFor (52, [some (.ref 65), some (.int (nI p)), some (.int (nI w)), some (.int (nI ((qC s).getD w 0 + 2 * qOt s p w (qM s)) - nI ((qL s).getD p 0))), some (.int (nI (qM s)))], [], cs) r) : ∀ n i, i + n = qM s → Ef ab_Z0 0 mX6_priceFor (17, [some (.ref 65), some (.int (nI p)), some (.int (nI w)), some (.int (nI ((qC s).getD w 0 + 2 * qOt s p w i) - nI ((qL s).getD p 0))), some (.int (nI i))], [], cs) r := by
  have hh := h
  obtain ⟨h0, h1, h2, h3, h4, h5, h6, h7, h8, h9⟩ := h
  obtain ⟨⟨i0, i1, i2, i3⟩, ⟨i4, i5, i6, i7, i8⟩, ⟨i9, i10⟩, I1, I2, I3, I4⟩ := id I
  have h := hh
  intro n
  induction n with
  | zero =>
    intro i hi
    obtain rfl : i = qM s := by omega
    refine E_iload rfl rfl ?_
    refine E_aload_n rfl rfl ?_
    refine E_getfield (v := .int (nI (qM s))) rfl h0 rfl (by decide) rfl ?_
    refine E_ic (t := 52) (b := true) rfl rfl ((cn_geN (by omega) (by omega)).trans (decide_eq_true (by omega))) ?_
    exact K
  | succ n ih =>
    intro i hi
    have J := I2 i (by omega)
    by_cases h1 : i = p
    · have X := ih (i + 1) (by omega)
      rw [qOt_0 (Or.inl h1)] at X
      refine E_iload rfl rfl ?_
      refine E_aload_n rfl rfl ?_
      refine E_getfield (v := .int (nI (qM s))) rfl h0 rfl (by decide) rfl ?_
      refine E_ic (t := 52) (b := false) rfl rfl ((cn_geN (by omega) (by omega)).trans (decide_eq_false (by omega))) ?_
      refine E_iload rfl rfl ?_
      refine E_iload_n rfl rfl ?_
      refine E_ic (t := 46) (b := true) rfl rfl ((cn_eqN (by omega) (by omega)).trans (decide_eq_true (by omega))) ?_
      refine E_iinc (y := nI (i + 1)) (L2 := [some (.ref 65), some (.int (nI p)), some (.int (nI w)), some (.int (nI ((qC s).getD w 0 + 2 * qOt s p w i) - nI ((qL s).getD p 0))), some (.int (nI (i + 1)))]) rfl rfl (nI_1 _) rfl ?_
      refine E_goto (t := 17) rfl rfl ?_
      exact X
    · by_cases h2 : (qW s).getD i 0 = w
      · have X := ih (i + 1) (by omega)
        rw [qOt_1 h1 h2, show (qC s).getD w 0 + 2 * (qOt s p w i + 1) = (qC s).getD w 0 + 2 * qOt s p w i + 2 by omega] at X
        refine E_iload rfl rfl ?_
        refine E_aload_n rfl rfl ?_
        refine E_getfield (v := .int (nI (qM s))) rfl h0 rfl (by decide) rfl ?_
        refine E_ic (t := 52) (b := false) rfl rfl ((cn_geN (by omega) (by omega)).trans (decide_eq_false (by omega))) ?_
        refine E_iload rfl rfl ?_
        refine E_iload_n rfl rfl ?_
        refine E_ic (t := 46) (b := false) rfl rfl ((cn_eqN (by omega) (by omega)).trans (decide_eq_false (by omega))) ?_
        refine E_aload_n rfl rfl ?_
        refine E_getfield (v := .ref 73) rfl h0 rfl (by decide) rfl ?_
        refine E_iload rfl rfl ?_
        refine E_ialN (v := (qW s).getD i 0) rfl h7 (by omega) (by omega) rfl ?_
        refine E_iload_n rfl rfl ?_
        refine E_ic (t := 46) (b := false) rfl rfl ((cn_neN (by omega) (by omega)).trans (decide_eq_false (by omega))) ?_
        refine E_iinc (y := (nI ((qC s).getD w 0 + 2 * qOt s p w i + 2) - nI ((qL s).getD p 0))) (L2 := [some (.ref 65), some (.int (nI p)), some (.int (nI w)), some (.int (nI ((qC s).getD w 0 + 2 * qOt s p w i + 2) - nI ((qL s).getD p 0))), some (.int (nI i))]) rfl rfl (ab_add2 _ _) rfl ?_
        refine E_iinc (y := nI (i + 1)) (L2 := [some (.ref 65), some (.int (nI p)), some (.int (nI w)), some (.int (nI ((qC s).getD w 0 + 2 * qOt s p w i + 2) - nI ((qL s).getD p 0))), some (.int (nI (i + 1)))]) rfl rfl (nI_1 _) rfl ?_
        refine E_goto (t := 17) rfl rfl ?_
        exact X
      · have X := ih (i + 1) (by omega)
        rw [qOt_0 (Or.inr h2)] at X
        refine E_iload rfl rfl ?_
        refine E_aload_n rfl rfl ?_
        refine E_getfield (v := .int (nI (qM s))) rfl h0 rfl (by decide) rfl ?_
        refine E_ic (t := 52) (b := false) rfl rfl ((cn_geN (by omega) (by omega)).trans (decide_eq_false (by omega))) ?_
        refine E_iload rfl rfl ?_
        refine E_iload_n rfl rfl ?_
        refine E_ic (t := 46) (b := false) rfl rfl ((cn_eqN (by omega) (by omega)).trans (decide_eq_false (by omega))) ?_
        refine E_aload_n rfl rfl ?_
        refine E_getfield (v := .ref 73) rfl h0 rfl (by decide) rfl ?_
        refine E_iload rfl rfl ?_
        refine E_ialN (v := (qW s).getD i 0) rfl h7 (by omega) (by omega) rfl ?_
        refine E_iload_n rfl rfl ?_
        refine E_ic (t := 46) (b := true) rfl rfl ((cn_neN (by omega) (by omega)).trans (decide_eq_true (by omega))) ?_
        refine E_iinc (y := nI (i + 1)) (L2 := [some (.ref 65), some (.int (nI p)), some (.int (nI w)), some (.int (nI ((qC s).getD w 0 + 2 * qOt s p w i) - nI ((qL s).getD p 0))), some (.int (nI (i + 1)))]) rfl rfl (nI_1 _) rfl ?_
        refine E_goto (t := 17) rfl rfl ?_
        exact X
theorem mo_priceFor {cs : List ab_C} {s : ab_q} {g : Nat → Int32} {p w : Nat} (h : mAt cs s g) (I : qI s) (hp : p < qM s) (hw : w < 8) : Ev ab_Z0 1 174 [.ref 65, .int (nI p), .int (nI w)] cs (some (.int (nI (qPr s p w))), cs) := by
  obtain ⟨h0, h1, h2, h3, h4, h5, h6, h7, h8, h9⟩ := h
  obtain ⟨⟨i0, i1, i2, i3⟩, ⟨i4, i5, i6, i7, i8⟩, ⟨i9, i10⟩, I1, I2, I3, I4⟩ := id I
  have hh : mAt cs s g := ⟨h0, h1, h2, h3, h4, h5, h6, h7, h8, h9⟩
  have J := I2 p hp
  have J3 := I3 w hw
  have hq := qOth_le I p w
  have eo : qOt s p w (qM s) = qOth s p w := by
    rw [qOt_eq]
    unfold qOth
    by_cases e : (qW s).getD p 0 = w
    · rw [if_pos ⟨hp, e⟩, if_pos e]
    · rw [if_neg (fun q => e q.2), if_neg e]
  by_cases hd : (qC s).getD w 0 + 2 * qOth s p w ≤ (qL s).getD p 0
  · rw [show qPr s p w = 1 by unfold qPr qPrc; exact if_pos hd]
    refine Ef.in (md := mX6_priceFor) (L := [some (.ref 65), some (.int (nI p)), some (.int (nI w)), none, none]) rfl (Nat.le_of_ble_eq_true rfl) rfl ?_
    refine E_aload_n rfl rfl ?_
    refine E_getfield (v := .ref 75) rfl h0 rfl (by decide) rfl ?_
    refine E_iload_n rfl rfl ?_
    refine E_ialN (v := (qC s).getD w 0) rfl h9 (by omega) (by omega) rfl ?_
    refine E_aload_n rfl rfl ?_
    refine E_getfield (v := .ref 72) rfl h0 rfl (by decide) rfl ?_
    refine E_iload_n rfl rfl ?_
    refine E_ialN (v := (qL s).getD p 0) rfl h6 (by omega) (by omega) rfl ?_
    refine E_isub (z := (nI ((qC s).getD w 0) - nI ((qL s).getD p 0))) rfl rfl ?_
    refine E_istore_n (L2 := [some (.ref 65), some (.int (nI p)), some (.int (nI w)), some (.int (nI ((qC s).getD w 0) - nI ((qL s).getD p 0))), none]) rfl rfl ?_
    refine E_iconst (x := nI 0) rfl (by decide) ?_
    refine E_istore (L2 := [some (.ref 65), some (.int (nI p)), some (.int (nI w)), some (.int (nI ((qC s).getD w 0) - nI ((qL s).getD p 0))), some (.int (nI 0))]) rfl rfl ?_
    refine mo_priceFor_l hh I hp hw ?_ (qM s) 0 (by omega)
    rw [eo]
    refine E_iload_n rfl rfl ?_
    refine E_iconst (x := nI 1) rfl (by decide) ?_
    refine E_ic (t := 61) (b := false) rfl rfl (ab_ge1F (by omega) (by omega) hd) ?_
    refine E_iconst (x := nI 1) rfl (by decide) ?_
    refine E_goto (t := 62) rfl rfl ?_
    exact E_iret rfl rfl
  · rw [show qPr s p w = (qC s).getD w 0 + 2 * qOth s p w - (qL s).getD p 0 by unfold qPr qPrc; exact if_neg hd]
    rw [← pk_sub (show (qL s).getD p 0 ≤ (qC s).getD w 0 + 2 * qOth s p w by omega)]
    refine Ef.in (md := mX6_priceFor) (L := [some (.ref 65), some (.int (nI p)), some (.int (nI w)), none, none]) rfl (Nat.le_of_ble_eq_true rfl) rfl ?_
    refine E_aload_n rfl rfl ?_
    refine E_getfield (v := .ref 75) rfl h0 rfl (by decide) rfl ?_
    refine E_iload_n rfl rfl ?_
    refine E_ialN (v := (qC s).getD w 0) rfl h9 (by omega) (by omega) rfl ?_
    refine E_aload_n rfl rfl ?_
    refine E_getfield (v := .ref 72) rfl h0 rfl (by decide) rfl ?_
    refine E_iload_n rfl rfl ?_
    refine E_ialN (v := (qL s).getD p 0) rfl h6 (by omega) (by omega) rfl ?_
    refine E_isub (z := (nI ((qC s).getD w 0) - nI ((qL s).getD p 0))) rfl rfl ?_
    refine E_istore_n (L2 := [some (.ref 65), some (.int (nI p)), some (.int (nI w)), some (.int (nI ((qC s).getD w 0) - nI ((qL s).getD p 0))), none]) rfl rfl ?_
    refine E_iconst (x := nI 0) rfl (by decide) ?_
    refine E_istore (L2 := [some (.ref 65), some (.int (nI p)), some (.int (nI w)), some (.int (nI ((qC s).getD w 0) - nI ((qL s).getD p 0))), some (.int (nI 0))]) rfl rfl ?_
    refine mo_priceFor_l hh I hp hw ?_ (qM s) 0 (by omega)
    rw [eo]
    refine E_iload_n rfl rfl ?_
    refine E_iconst (x := nI 1) rfl (by decide) ?_
    refine E_ic (t := 61) (b := true) rfl rfl (ab_ge1T (by omega) (by omega) (by omega)) ?_
    refine E_iload_n rfl rfl ?_
    exact E_iret rfl rfl
