/-! the reference's methods that only read; by program (wip/tools/mq.py) -/
theorem ab_ge1T {c a : Nat} (hc : c < 2 ^ 30) (ha : a < 2 ^ 30) (h : a < c) : ab_cn .ge (nI c - nI a) (nI 1) = true := (cn_ge (pk_sub_toInt hc ha) (nI_toInt (by decide))).trans (decide_eq_true (by omega))
theorem ab_ge1F {c a : Nat} (hc : c < 2 ^ 30) (ha : a < 2 ^ 30) (h : c ≤ a) : ab_cn .ge (nI c - nI a) (nI 1) = false := (cn_ge (pk_sub_toInt hc ha) (nI_toInt (by decide))).trans (decide_eq_false (by omega))
theorem mo_worth {cs : List ab_C} {s : ab_q} {g : Nat → Int32} {x : Nat} (h : mAt cs s g) (I : qI s) (hx : x < qN s) : Ev ab_Z0 1 144 [.ref 65, .int (nI x)] cs (some (.int (nI (qWorth s x))), cs) := by
  obtain ⟨h0, h1, h2, h3, h4, h5, h6, h7, h8, h9⟩ := h
  obtain ⟨⟨i0, i1, i2, i3⟩, ⟨i4, i5, i6, i7, i8⟩, ⟨i9, i10⟩, I1, I2, I3, I4⟩ := id I
  have I1x := I1 x hx
  have hk : (qK s).getD x 0 = 0 ∨ (qK s).getD x 0 = 1 ∨ (qK s).getD x 0 = 2 ∨ (qK s).getD x 0 = 3 ∨ (qK s).getD x 0 = 4 ∨ (qK s).getD x 0 = 5 ∨ (qK s).getD x 0 = 6 := by omega
  rcases hk with hk | hk | hk | hk | hk | hk | hk
  · rw [show qWorth s x = (qB s).getD x 0 by unfold qWorth; rw [hk]; rfl]
    refine Ef.in (md := mX6_worth) (L := [some (.ref 65), some (.int (nI x)), none, none]) rfl (Nat.le_of_ble_eq_true rfl) rfl ?_
    refine E_aload_n rfl rfl ?_
    refine E_getfield (v := .ref 69) rfl h0 rfl (by decide) rfl ?_
    refine E_iload_n rfl rfl ?_
    refine E_ialN (v := (qB s).getD x 0) rfl h3 (by omega) (by omega) rfl ?_
    refine E_istore_n (L2 := [some (.ref 65), some (.int (nI x)), some (.int (nI ((qB s).getD x 0))), none]) rfl rfl ?_
    refine E_aload_n rfl rfl ?_
    refine E_getfield (v := .ref 68) rfl h0 rfl (by decide) rfl ?_
    refine E_iload_n rfl rfl ?_
    refine E_ialN (v := (qA s).getD x 0) rfl h2 (by omega) (by omega) rfl ?_
    refine E_istore_n (L2 := [some (.ref 65), some (.int (nI x)), some (.int (nI ((qB s).getD x 0))), some (.int (nI ((qA s).getD x 0)))]) rfl rfl ?_
    refine E_aload_n rfl rfl ?_
    refine E_getfield (v := .ref 67) rfl h0 rfl (by decide) rfl ?_
    refine E_iload_n rfl rfl ?_
    refine E_ialN (v := 0) rfl h1 (by omega) (by omega) hk ?_
    refine E_tsOut (t := 107) rfl (by decide) rfl ?_
    refine E_iload_n rfl rfl ?_
    exact E_iret rfl rfl
  · rw [show qWorth s x = ((qB s).getD x 0 + 1) / 2 by unfold qWorth; rw [hk]; rfl]
    refine Ef.in (md := mX6_worth) (L := [some (.ref 65), some (.int (nI x)), none, none]) rfl (Nat.le_of_ble_eq_true rfl) rfl ?_
    refine E_aload_n rfl rfl ?_
    refine E_getfield (v := .ref 69) rfl h0 rfl (by decide) rfl ?_
    refine E_iload_n rfl rfl ?_
    refine E_ialN (v := (qB s).getD x 0) rfl h3 (by omega) (by omega) rfl ?_
    refine E_istore_n (L2 := [some (.ref 65), some (.int (nI x)), some (.int (nI ((qB s).getD x 0))), none]) rfl rfl ?_
    refine E_aload_n rfl rfl ?_
    refine E_getfield (v := .ref 68) rfl h0 rfl (by decide) rfl ?_
    refine E_iload_n rfl rfl ?_
    refine E_ialN (v := (qA s).getD x 0) rfl h2 (by omega) (by omega) rfl ?_
    refine E_istore_n (L2 := [some (.ref 65), some (.int (nI x)), some (.int (nI ((qB s).getD x 0))), some (.int (nI ((qA s).getD x 0)))]) rfl rfl ?_
    refine E_aload_n rfl rfl ?_
    refine E_getfield (v := .ref 67) rfl h0 rfl (by decide) rfl ?_
    refine E_iload_n rfl rfl ?_
    refine E_ialN (v := 1) rfl h1 (by omega) (by omega) hk ?_
    refine E_tsIn (off := 40) (t := 60) rfl (by decide) rfl rfl ?_
    refine E_iload_n rfl rfl ?_
    refine E_iconst (x := nI 1) rfl (by decide) ?_
    refine E_iadd (z := nI (((qB s).getD x 0) + 1)) rfl (nI_add _ _) ?_
    refine E_iconst (x := nI 2) rfl (by decide) ?_
    refine E_idiv (z := nI ((((qB s).getD x 0) + 1) / 2)) rfl (by decide) (pk_div (by omega) (by omega) (by omega)) ?_
    exact E_iret rfl rfl
  · rw [show qWorth s x = (qB s).getD x 0 + (qA s).getD x 0 by unfold qWorth; rw [hk]; rfl]
    refine Ef.in (md := mX6_worth) (L := [some (.ref 65), some (.int (nI x)), none, none]) rfl (Nat.le_of_ble_eq_true rfl) rfl ?_
    refine E_aload_n rfl rfl ?_
    refine E_getfield (v := .ref 69) rfl h0 rfl (by decide) rfl ?_
    refine E_iload_n rfl rfl ?_
    refine E_ialN (v := (qB s).getD x 0) rfl h3 (by omega) (by omega) rfl ?_
    refine E_istore_n (L2 := [some (.ref 65), some (.int (nI x)), some (.int (nI ((qB s).getD x 0))), none]) rfl rfl ?_
    refine E_aload_n rfl rfl ?_
    refine E_getfield (v := .ref 68) rfl h0 rfl (by decide) rfl ?_
    refine E_iload_n rfl rfl ?_
    refine E_ialN (v := (qA s).getD x 0) rfl h2 (by omega) (by omega) rfl ?_
    refine E_istore_n (L2 := [some (.ref 65), some (.int (nI x)), some (.int (nI ((qB s).getD x 0))), some (.int (nI ((qA s).getD x 0)))]) rfl rfl ?_
    refine E_aload_n rfl rfl ?_
    refine E_getfield (v := .ref 67) rfl h0 rfl (by decide) rfl ?_
    refine E_iload_n rfl rfl ?_
    refine E_ialN (v := 2) rfl h1 (by omega) (by omega) hk ?_
    refine E_tsIn (off := 46) (t := 66) rfl (by decide) rfl rfl ?_
    refine E_iload_n rfl rfl ?_
    refine E_iload_n rfl rfl ?_
    refine E_iadd (z := nI (((qB s).getD x 0) + ((qA s).getD x 0))) rfl (nI_add _ _) ?_
    exact E_iret rfl rfl
  · by_cases hd : ((qB s).getD x 0 + 1) / 2 ≤ (qA s).getD x 0
    · rw [show qWorth s x = 1 by unfold qWorth; rw [hk]; exact if_pos hd]
      refine Ef.in (md := mX6_worth) (L := [some (.ref 65), some (.int (nI x)), none, none]) rfl (Nat.le_of_ble_eq_true rfl) rfl ?_
      refine E_aload_n rfl rfl ?_
      refine E_getfield (v := .ref 69) rfl h0 rfl (by decide) rfl ?_
      refine E_iload_n rfl rfl ?_
      refine E_ialN (v := (qB s).getD x 0) rfl h3 (by omega) (by omega) rfl ?_
      refine E_istore_n (L2 := [some (.ref 65), some (.int (nI x)), some (.int (nI ((qB s).getD x 0))), none]) rfl rfl ?_
      refine E_aload_n rfl rfl ?_
      refine E_getfield (v := .ref 68) rfl h0 rfl (by decide) rfl ?_
      refine E_iload_n rfl rfl ?_
      refine E_ialN (v := (qA s).getD x 0) rfl h2 (by omega) (by omega) rfl ?_
      refine E_istore_n (L2 := [some (.ref 65), some (.int (nI x)), some (.int (nI ((qB s).getD x 0))), some (.int (nI ((qA s).getD x 0)))]) rfl rfl ?_
      refine E_aload_n rfl rfl ?_
      refine E_getfield (v := .ref 67) rfl h0 rfl (by decide) rfl ?_
      refine E_iload_n rfl rfl ?_
      refine E_ialN (v := 3) rfl h1 (by omega) (by omega) hk ?_
      refine E_tsIn (off := 50) (t := 70) rfl (by decide) rfl rfl ?_
      refine E_iload_n rfl rfl ?_
      refine E_iconst (x := nI 1) rfl (by decide) ?_
      refine E_iadd (z := nI (((qB s).getD x 0) + 1)) rfl (nI_add _ _) ?_
      refine E_iconst (x := nI 2) rfl (by decide) ?_
      refine E_idiv (z := nI ((((qB s).getD x 0) + 1) / 2)) rfl (by decide) (pk_div (by omega) (by omega) (by omega)) ?_
      refine E_iload_n rfl rfl ?_
      refine E_isub (z := (nI (((qB s).getD x 0 + 1) / 2) - nI ((qA s).getD x 0))) rfl rfl ?_
      refine E_iconst (x := nI 1) rfl (by decide) ?_
      refine E_ic (t := 85) (b := false) rfl rfl (ab_ge1F (by omega) (by omega) hd) ?_
      refine E_iconst (x := nI 1) rfl (by decide) ?_
      refine E_goto (t := 92) rfl rfl ?_
      exact E_iret rfl rfl
    · rw [show qWorth s x = ((qB s).getD x 0 + 1) / 2 - (qA s).getD x 0 by unfold qWorth; rw [hk]; exact if_neg hd]
      refine Ef.in (md := mX6_worth) (L := [some (.ref 65), some (.int (nI x)), none, none]) rfl (Nat.le_of_ble_eq_true rfl) rfl ?_
      refine E_aload_n rfl rfl ?_
      refine E_getfield (v := .ref 69) rfl h0 rfl (by decide) rfl ?_
      refine E_iload_n rfl rfl ?_
      refine E_ialN (v := (qB s).getD x 0) rfl h3 (by omega) (by omega) rfl ?_
      refine E_istore_n (L2 := [some (.ref 65), some (.int (nI x)), some (.int (nI ((qB s).getD x 0))), none]) rfl rfl ?_
      refine E_aload_n rfl rfl ?_
      refine E_getfield (v := .ref 68) rfl h0 rfl (by decide) rfl ?_
      refine E_iload_n rfl rfl ?_
      refine E_ialN (v := (qA s).getD x 0) rfl h2 (by omega) (by omega) rfl ?_
      refine E_istore_n (L2 := [some (.ref 65), some (.int (nI x)), some (.int (nI ((qB s).getD x 0))), some (.int (nI ((qA s).getD x 0)))]) rfl rfl ?_
      refine E_aload_n rfl rfl ?_
      refine E_getfield (v := .ref 67) rfl h0 rfl (by decide) rfl ?_
      refine E_iload_n rfl rfl ?_
      refine E_ialN (v := 3) rfl h1 (by omega) (by omega) hk ?_
      refine E_tsIn (off := 50) (t := 70) rfl (by decide) rfl rfl ?_
      refine E_iload_n rfl rfl ?_
      refine E_iconst (x := nI 1) rfl (by decide) ?_
      refine E_iadd (z := nI (((qB s).getD x 0) + 1)) rfl (nI_add _ _) ?_
      refine E_iconst (x := nI 2) rfl (by decide) ?_
      refine E_idiv (z := nI ((((qB s).getD x 0) + 1) / 2)) rfl (by decide) (pk_div (by omega) (by omega) (by omega)) ?_
      refine E_iload_n rfl rfl ?_
      refine E_isub (z := (nI (((qB s).getD x 0 + 1) / 2) - nI ((qA s).getD x 0))) rfl rfl ?_
      refine E_iconst (x := nI 1) rfl (by decide) ?_
      refine E_ic (t := 85) (b := true) rfl rfl (ab_ge1T (by omega) (by omega) (by omega)) ?_
      refine E_iload_n rfl rfl ?_
      refine E_iconst (x := nI 1) rfl (by decide) ?_
      refine E_iadd (z := nI (((qB s).getD x 0) + 1)) rfl (nI_add _ _) ?_
      refine E_iconst (x := nI 2) rfl (by decide) ?_
      refine E_idiv (z := nI ((((qB s).getD x 0) + 1) / 2)) rfl (by decide) (pk_div (by omega) (by omega) (by omega)) ?_
      refine E_iload_n rfl rfl ?_
      refine E_isub (z := nI (((((qB s).getD x 0) + 1) / 2) - ((qA s).getD x 0))) rfl (pk_sub (by omega)) ?_
      exact E_iret rfl rfl
  · rw [show qWorth s x = 1 by unfold qWorth; rw [hk]; rfl]
    refine Ef.in (md := mX6_worth) (L := [some (.ref 65), some (.int (nI x)), none, none]) rfl (Nat.le_of_ble_eq_true rfl) rfl ?_
    refine E_aload_n rfl rfl ?_
    refine E_getfield (v := .ref 69) rfl h0 rfl (by decide) rfl ?_
    refine E_iload_n rfl rfl ?_
    refine E_ialN (v := (qB s).getD x 0) rfl h3 (by omega) (by omega) rfl ?_
    refine E_istore_n (L2 := [some (.ref 65), some (.int (nI x)), some (.int (nI ((qB s).getD x 0))), none]) rfl rfl ?_
    refine E_aload_n rfl rfl ?_
    refine E_getfield (v := .ref 68) rfl h0 rfl (by decide) rfl ?_
    refine E_iload_n rfl rfl ?_
    refine E_ialN (v := (qA s).getD x 0) rfl h2 (by omega) (by omega) rfl ?_
    refine E_istore_n (L2 := [some (.ref 65), some (.int (nI x)), some (.int (nI ((qB s).getD x 0))), some (.int (nI ((qA s).getD x 0)))]) rfl rfl ?_
    refine E_aload_n rfl rfl ?_
    refine E_getfield (v := .ref 67) rfl h0 rfl (by decide) rfl ?_
    refine E_iload_n rfl rfl ?_
    refine E_ialN (v := 4) rfl h1 (by omega) (by omega) hk ?_
    refine E_tsIn (off := 73) (t := 93) rfl (by decide) rfl rfl ?_
    refine E_iconst (x := nI 1) rfl (by decide) ?_
    exact E_iret rfl rfl
  · rw [show qWorth s x = ((qB s).getD x 0 + (qA s).getD x 0 + 1) / 2 by unfold qWorth; rw [hk]; rfl]
    refine Ef.in (md := mX6_worth) (L := [some (.ref 65), some (.int (nI x)), none, none]) rfl (Nat.le_of_ble_eq_true rfl) rfl ?_
    refine E_aload_n rfl rfl ?_
    refine E_getfield (v := .ref 69) rfl h0 rfl (by decide) rfl ?_
    refine E_iload_n rfl rfl ?_
    refine E_ialN (v := (qB s).getD x 0) rfl h3 (by omega) (by omega) rfl ?_
    refine E_istore_n (L2 := [some (.ref 65), some (.int (nI x)), some (.int (nI ((qB s).getD x 0))), none]) rfl rfl ?_
    refine E_aload_n rfl rfl ?_
    refine E_getfield (v := .ref 68) rfl h0 rfl (by decide) rfl ?_
    refine E_iload_n rfl rfl ?_
    refine E_ialN (v := (qA s).getD x 0) rfl h2 (by omega) (by omega) rfl ?_
    refine E_istore_n (L2 := [some (.ref 65), some (.int (nI x)), some (.int (nI ((qB s).getD x 0))), some (.int (nI ((qA s).getD x 0)))]) rfl rfl ?_
    refine E_aload_n rfl rfl ?_
    refine E_getfield (v := .ref 67) rfl h0 rfl (by decide) rfl ?_
    refine E_iload_n rfl rfl ?_
    refine E_ialN (v := 5) rfl h1 (by omega) (by omega) hk ?_
    refine E_tsIn (off := 75) (t := 95) rfl (by decide) rfl rfl ?_
    refine E_iload_n rfl rfl ?_
    refine E_iload_n rfl rfl ?_
    refine E_iadd (z := nI (((qB s).getD x 0) + ((qA s).getD x 0))) rfl (nI_add _ _) ?_
    refine E_iconst (x := nI 1) rfl (by decide) ?_
    refine E_iadd (z := nI ((((qB s).getD x 0) + ((qA s).getD x 0)) + 1)) rfl (nI_add _ _) ?_
    refine E_iconst (x := nI 2) rfl (by decide) ?_
    refine E_idiv (z := nI (((((qB s).getD x 0) + ((qA s).getD x 0)) + 1) / 2)) rfl (by decide) (pk_div (by omega) (by omega) (by omega)) ?_
    exact E_iret rfl rfl
  · rw [show qWorth s x = 1 + (qA s).getD x 0 by unfold qWorth; rw [hk]; rfl]
    refine Ef.in (md := mX6_worth) (L := [some (.ref 65), some (.int (nI x)), none, none]) rfl (Nat.le_of_ble_eq_true rfl) rfl ?_
    refine E_aload_n rfl rfl ?_
    refine E_getfield (v := .ref 69) rfl h0 rfl (by decide) rfl ?_
    refine E_iload_n rfl rfl ?_
    refine E_ialN (v := (qB s).getD x 0) rfl h3 (by omega) (by omega) rfl ?_
    refine E_istore_n (L2 := [some (.ref 65), some (.int (nI x)), some (.int (nI ((qB s).getD x 0))), none]) rfl rfl ?_
    refine E_aload_n rfl rfl ?_
    refine E_getfield (v := .ref 68) rfl h0 rfl (by decide) rfl ?_
    refine E_iload_n rfl rfl ?_
    refine E_ialN (v := (qA s).getD x 0) rfl h2 (by omega) (by omega) rfl ?_
    refine E_istore_n (L2 := [some (.ref 65), some (.int (nI x)), some (.int (nI ((qB s).getD x 0))), some (.int (nI ((qA s).getD x 0)))]) rfl rfl ?_
    refine E_aload_n rfl rfl ?_
    refine E_getfield (v := .ref 67) rfl h0 rfl (by decide) rfl ?_
    refine E_iload_n rfl rfl ?_
    refine E_ialN (v := 6) rfl h1 (by omega) (by omega) hk ?_
    refine E_tsIn (off := 83) (t := 103) rfl (by decide) rfl rfl ?_
    refine E_iconst (x := nI 1) rfl (by decide) ?_
    refine E_iload_n rfl rfl ?_
    refine E_iadd (z := nI (1 + ((qA s).getD x 0))) rfl (nI_add _ _) ?_
    exact E_iret rfl rfl
theorem mo_harms {cs : List ab_C} {s : ab_q} {g : Nat → Int32} {x : Nat} (h : mAt cs s g) (I : qI s) (hx : x < qN s) : Ev ab_Z0 1 145 [.ref 65, .int (nI x)] cs (some (.int (nI (qHarm s x))), cs) := by
  obtain ⟨h0, h1, h2, h3, h4, h5, h6, h7, h8, h9⟩ := h
  obtain ⟨⟨i0, i1, i2, i3⟩, ⟨i4, i5, i6, i7, i8⟩, ⟨i9, i10⟩, I1, I2, I3, I4⟩ := id I
  have I1x := I1 x hx
  have hk : (qK s).getD x 0 = 0 ∨ (qK s).getD x 0 = 1 ∨ (qK s).getD x 0 = 2 ∨ (qK s).getD x 0 = 3 ∨ (qK s).getD x 0 = 4 ∨ (qK s).getD x 0 = 5 ∨ (qK s).getD x 0 = 6 := by omega
  rcases hk with hk | hk | hk | hk | hk | hk | hk
  · rw [show qHarm s x = 0 by unfold qHarm; rw [hk]; rfl]
    refine Ef.in (md := mX6_harms) (L := [some (.ref 65), some (.int (nI x))]) rfl (Nat.le_of_ble_eq_true rfl) rfl ?_
    refine E_aload_n rfl rfl ?_
    refine E_getfield (v := .ref 67) rfl h0 rfl (by decide) rfl ?_
    refine E_iload_n rfl rfl ?_
    refine E_ialN (v := 0) rfl h1 (by omega) (by omega) hk ?_
    refine E_iconst (x := nI 1) rfl (by decide) ?_
    refine E_ic (t := 19) (b := true) rfl rfl (by decide) ?_
    refine E_aload_n rfl rfl ?_
    refine E_getfield (v := .ref 67) rfl h0 rfl (by decide) rfl ?_
    refine E_iload_n rfl rfl ?_
    refine E_ialN (v := 0) rfl h1 (by omega) (by omega) hk ?_
    refine E_iconst (x := nI 3) rfl (by decide) ?_
    refine E_ic (t := 40) (b := true) rfl rfl (by decide) ?_
    refine E_aload_n rfl rfl ?_
    refine E_getfield (v := .ref 67) rfl h0 rfl (by decide) rfl ?_
    refine E_iload_n rfl rfl ?_
    refine E_ialN (v := 0) rfl h1 (by omega) (by omega) hk ?_
    refine E_iconst (x := nI 4) rfl (by decide) ?_
    refine E_ic (t := 54) (b := true) rfl rfl (by decide) ?_
    refine E_iconst (x := nI 0) rfl (by decide) ?_
    exact E_iret rfl rfl
  · rw [show qHarm s x = (qA s).getD x 0 by unfold qHarm; rw [hk]; rfl]
    refine Ef.in (md := mX6_harms) (L := [some (.ref 65), some (.int (nI x))]) rfl (Nat.le_of_ble_eq_true rfl) rfl ?_
    refine E_aload_n rfl rfl ?_
    refine E_getfield (v := .ref 67) rfl h0 rfl (by decide) rfl ?_
    refine E_iload_n rfl rfl ?_
    refine E_ialN (v := 1) rfl h1 (by omega) (by omega) hk ?_
    refine E_iconst (x := nI 1) rfl (by decide) ?_
    refine E_ic (t := 19) (b := false) rfl rfl (by decide) ?_
    refine E_aload_n rfl rfl ?_
    refine E_getfield (v := .ref 68) rfl h0 rfl (by decide) rfl ?_
    refine E_iload_n rfl rfl ?_
    refine E_ialN (v := (qA s).getD x 0) rfl h2 (by omega) (by omega) rfl ?_
    refine E_goto (t := 55) rfl rfl ?_
    exact E_iret rfl rfl
  · rw [show qHarm s x = 0 by unfold qHarm; rw [hk]; rfl]
    refine Ef.in (md := mX6_harms) (L := [some (.ref 65), some (.int (nI x))]) rfl (Nat.le_of_ble_eq_true rfl) rfl ?_
    refine E_aload_n rfl rfl ?_
    refine E_getfield (v := .ref 67) rfl h0 rfl (by decide) rfl ?_
    refine E_iload_n rfl rfl ?_
    refine E_ialN (v := 2) rfl h1 (by omega) (by omega) hk ?_
    refine E_iconst (x := nI 1) rfl (by decide) ?_
    refine E_ic (t := 19) (b := true) rfl rfl (by decide) ?_
    refine E_aload_n rfl rfl ?_
    refine E_getfield (v := .ref 67) rfl h0 rfl (by decide) rfl ?_
    refine E_iload_n rfl rfl ?_
    refine E_ialN (v := 2) rfl h1 (by omega) (by omega) hk ?_
    refine E_iconst (x := nI 3) rfl (by decide) ?_
    refine E_ic (t := 40) (b := true) rfl rfl (by decide) ?_
    refine E_aload_n rfl rfl ?_
    refine E_getfield (v := .ref 67) rfl h0 rfl (by decide) rfl ?_
    refine E_iload_n rfl rfl ?_
    refine E_ialN (v := 2) rfl h1 (by omega) (by omega) hk ?_
    refine E_iconst (x := nI 4) rfl (by decide) ?_
    refine E_ic (t := 54) (b := true) rfl rfl (by decide) ?_
    refine E_iconst (x := nI 0) rfl (by decide) ?_
    exact E_iret rfl rfl
  · rw [show qHarm s x = 2 * (qA s).getD x 0 by unfold qHarm; rw [hk]; rfl]
    refine Ef.in (md := mX6_harms) (L := [some (.ref 65), some (.int (nI x))]) rfl (Nat.le_of_ble_eq_true rfl) rfl ?_
    refine E_aload_n rfl rfl ?_
    refine E_getfield (v := .ref 67) rfl h0 rfl (by decide) rfl ?_
    refine E_iload_n rfl rfl ?_
    refine E_ialN (v := 3) rfl h1 (by omega) (by omega) hk ?_
    refine E_iconst (x := nI 1) rfl (by decide) ?_
    refine E_ic (t := 19) (b := true) rfl rfl (by decide) ?_
    refine E_aload_n rfl rfl ?_
    refine E_getfield (v := .ref 67) rfl h0 rfl (by decide) rfl ?_
    refine E_iload_n rfl rfl ?_
    refine E_ialN (v := 3) rfl h1 (by omega) (by omega) hk ?_
    refine E_iconst (x := nI 3) rfl (by decide) ?_
    refine E_ic (t := 40) (b := false) rfl rfl (by decide) ?_
    refine E_iconst (x := nI 2) rfl (by decide) ?_
    refine E_aload_n rfl rfl ?_
    refine E_getfield (v := .ref 68) rfl h0 rfl (by decide) rfl ?_
    refine E_iload_n rfl rfl ?_
    refine E_ialN (v := (qA s).getD x 0) rfl h2 (by omega) (by omega) rfl ?_
    refine E_imul (z := nI (2 * ((qA s).getD x 0))) rfl (pk_mul _ _) ?_
    refine E_goto (t := 55) rfl rfl ?_
    exact E_iret rfl rfl
  · rw [show qHarm s x = 1 by unfold qHarm; rw [hk]; rfl]
    refine Ef.in (md := mX6_harms) (L := [some (.ref 65), some (.int (nI x))]) rfl (Nat.le_of_ble_eq_true rfl) rfl ?_
    refine E_aload_n rfl rfl ?_
    refine E_getfield (v := .ref 67) rfl h0 rfl (by decide) rfl ?_
    refine E_iload_n rfl rfl ?_
    refine E_ialN (v := 4) rfl h1 (by omega) (by omega) hk ?_
    refine E_iconst (x := nI 1) rfl (by decide) ?_
    refine E_ic (t := 19) (b := true) rfl rfl (by decide) ?_
    refine E_aload_n rfl rfl ?_
    refine E_getfield (v := .ref 67) rfl h0 rfl (by decide) rfl ?_
    refine E_iload_n rfl rfl ?_
    refine E_ialN (v := 4) rfl h1 (by omega) (by omega) hk ?_
    refine E_iconst (x := nI 3) rfl (by decide) ?_
    refine E_ic (t := 40) (b := true) rfl rfl (by decide) ?_
    refine E_aload_n rfl rfl ?_
    refine E_getfield (v := .ref 67) rfl h0 rfl (by decide) rfl ?_
    refine E_iload_n rfl rfl ?_
    refine E_ialN (v := 4) rfl h1 (by omega) (by omega) hk ?_
    refine E_iconst (x := nI 4) rfl (by decide) ?_
    refine E_ic (t := 54) (b := false) rfl rfl (by decide) ?_
    refine E_iconst (x := nI 1) rfl (by decide) ?_
    refine E_goto (t := 55) rfl rfl ?_
    exact E_iret rfl rfl
  · rw [show qHarm s x = 0 by unfold qHarm; rw [hk]; rfl]
    refine Ef.in (md := mX6_harms) (L := [some (.ref 65), some (.int (nI x))]) rfl (Nat.le_of_ble_eq_true rfl) rfl ?_
    refine E_aload_n rfl rfl ?_
    refine E_getfield (v := .ref 67) rfl h0 rfl (by decide) rfl ?_
    refine E_iload_n rfl rfl ?_
    refine E_ialN (v := 5) rfl h1 (by omega) (by omega) hk ?_
    refine E_iconst (x := nI 1) rfl (by decide) ?_
    refine E_ic (t := 19) (b := true) rfl rfl (by decide) ?_
    refine E_aload_n rfl rfl ?_
    refine E_getfield (v := .ref 67) rfl h0 rfl (by decide) rfl ?_
    refine E_iload_n rfl rfl ?_
    refine E_ialN (v := 5) rfl h1 (by omega) (by omega) hk ?_
    refine E_iconst (x := nI 3) rfl (by decide) ?_
    refine E_ic (t := 40) (b := true) rfl rfl (by decide) ?_
    refine E_aload_n rfl rfl ?_
    refine E_getfield (v := .ref 67) rfl h0 rfl (by decide) rfl ?_
    refine E_iload_n rfl rfl ?_
    refine E_ialN (v := 5) rfl h1 (by omega) (by omega) hk ?_
    refine E_iconst (x := nI 4) rfl (by decide) ?_
    refine E_ic (t := 54) (b := true) rfl rfl (by decide) ?_
    refine E_iconst (x := nI 0) rfl (by decide) ?_
    exact E_iret rfl rfl
  · rw [show qHarm s x = 0 by unfold qHarm; rw [hk]; rfl]
    refine Ef.in (md := mX6_harms) (L := [some (.ref 65), some (.int (nI x))]) rfl (Nat.le_of_ble_eq_true rfl) rfl ?_
    refine E_aload_n rfl rfl ?_
    refine E_getfield (v := .ref 67) rfl h0 rfl (by decide) rfl ?_
    refine E_iload_n rfl rfl ?_
    refine E_ialN (v := 6) rfl h1 (by omega) (by omega) hk ?_
    refine E_iconst (x := nI 1) rfl (by decide) ?_
    refine E_ic (t := 19) (b := true) rfl rfl (by decide) ?_
    refine E_aload_n rfl rfl ?_
    refine E_getfield (v := .ref 67) rfl h0 rfl (by decide) rfl ?_
    refine E_iload_n rfl rfl ?_
    refine E_ialN (v := 6) rfl h1 (by omega) (by omega) hk ?_
    refine E_iconst (x := nI 3) rfl (by decide) ?_
    refine E_ic (t := 40) (b := true) rfl rfl (by decide) ?_
    refine E_aload_n rfl rfl ?_
    refine E_getfield (v := .ref 67) rfl h0 rfl (by decide) rfl ?_
    refine E_iload_n rfl rfl ?_
    refine E_ialN (v := 6) rfl h1 (by omega) (by omega) hk ?_
    refine E_iconst (x := nI 4) rfl (by decide) ?_
    refine E_ic (t := 54) (b := true) rfl rfl (by decide) ?_
    refine E_iconst (x := nI 0) rfl (by decide) ?_
    exact E_iret rfl rfl
theorem qPsa_1 {s : ab_q} {w i : Nat} (e : (qP s).getD i 0 = w) : nI (qPs s w i) + nI (2 ^ i) = nI (qPs s w (i + 1)) := by
  rw [nI_add]
  show _ = nI (_ + (if _ then _ else _))
  rw [if_pos e]
theorem qPsa_0 {s : ab_q} {w i : Nat} (e : ¬ (qP s).getD i 0 = w) : qPs s w (i + 1) = qPs s w i := by
  show _ + (if _ then _ else _) = _
  rw [if_neg e]
  rfl
theorem mo_piecesOf_l {cs : List ab_C} {s : ab_q} {g : Nat → Int32} {w : Nat} {r : Option Value × List ab_C} (h : mAt cs s g) (I : qI s) (hw : w < 2 ^ 31) (K : Ef ab_Z0 0 mX6_piecesOf (34, [some (.ref 65), some (.int (nI w)), some (.int (nI (qPs s w (qN s)))), some (.int (nI (qN s)))], [], cs) r) : ∀ n i, i + n = qN s → Ef ab_Z0 0 mX6_piecesOf (4, [some (.ref 65), some (.int (nI w)), some (.int (nI (qPs s w i))), some (.int (nI i))], [], cs) r := by
  have hh := h
  obtain ⟨h0, h1, h2, h3, h4, h5, h6, h7, h8, h9⟩ := h
  obtain ⟨⟨i0, i1, i2, i3⟩, ⟨i4, i5, i6, i7, i8⟩, ⟨i9, i10⟩, I1, I2, I3, I4⟩ := id I
  have h := hh
  intro n
  induction n with
  | zero =>
    intro i hi
    obtain rfl : i = qN s := by omega
    refine E_iload_n rfl rfl ?_
    refine E_aload_n rfl rfl ?_
    refine E_getfield (v := .int (nI (qN s))) rfl h0 rfl (by decide) rfl ?_
    refine E_ic (t := 34) (b := true) rfl rfl ((cn_geN (by omega) (by omega)).trans (decide_eq_true (by omega))) ?_
    exact K
  | succ n ih =>
    intro i hi
    by_cases e : (qP s).getD i 0 = w
    · have J := I1 i (by omega)
      refine E_iload_n rfl rfl ?_
      refine E_aload_n rfl rfl ?_
      refine E_getfield (v := .int (nI (qN s))) rfl h0 rfl (by decide) rfl ?_
      refine E_ic (t := 34) (b := false) rfl rfl ((cn_geN (by omega) (by omega)).trans (decide_eq_false (by omega))) ?_
      refine E_aload_n rfl rfl ?_
      refine E_getfield (v := .ref 70) rfl h0 rfl (by decide) rfl ?_
      refine E_iload_n rfl rfl ?_
      refine E_ialN (v := (qP s).getD i 0) rfl h4 (by omega) (by omega) rfl ?_
      refine E_iload_n rfl rfl ?_
      refine E_ic (t := 28) (b := false) rfl rfl ((cn_neN (by omega) (by omega)).trans (decide_eq_false (by omega))) ?_
      refine E_iload_n rfl rfl ?_
      refine E_iconst (x := nI 1) rfl (by decide) ?_
      refine E_iload_n rfl rfl ?_
      refine E_ishl (z := nI (2 ^ i)) rfl (ab_shl (by omega)) ?_
      refine E_iadd (z := nI (qPs s w (i + 1))) rfl (qPsa_1 e) ?_
      refine E_istore_n (L2 := [some (.ref 65), some (.int (nI w)), some (.int (nI (qPs s w (i + 1)))), some (.int (nI i))]) rfl rfl ?_
      refine E_iinc (y := nI (i + 1)) (L2 := [some (.ref 65), some (.int (nI w)), some (.int (nI (qPs s w (i + 1)))), some (.int (nI (i + 1)))]) rfl rfl (nI_1 _) rfl ?_
      refine E_goto (t := 4) rfl rfl ?_
      exact ih (i + 1) (by omega)
    · have J := I1 i (by omega)
      have e2 := qPsa_0 e
      refine E_iload_n rfl rfl ?_
      refine E_aload_n rfl rfl ?_
      refine E_getfield (v := .int (nI (qN s))) rfl h0 rfl (by decide) rfl ?_
      refine E_ic (t := 34) (b := false) rfl rfl ((cn_geN (by omega) (by omega)).trans (decide_eq_false (by omega))) ?_
      refine E_aload_n rfl rfl ?_
      refine E_getfield (v := .ref 70) rfl h0 rfl (by decide) rfl ?_
      refine E_iload_n rfl rfl ?_
      refine E_ialN (v := (qP s).getD i 0) rfl h4 (by omega) (by omega) rfl ?_
      refine E_iload_n rfl rfl ?_
      refine E_ic (t := 28) (b := true) rfl rfl ((cn_neN (by omega) (by omega)).trans (decide_eq_true (by omega))) ?_
      refine E_iinc (y := nI (i + 1)) (L2 := [some (.ref 65), some (.int (nI w)), some (.int (nI (qPs s w i))), some (.int (nI (i + 1)))]) rfl rfl (nI_1 _) rfl ?_
      refine E_goto (t := 4) rfl rfl ?_
      rw [← e2]
      exact ih (i + 1) (by omega)
theorem mo_piecesOf {cs : List ab_C} {s : ab_q} {g : Nat → Int32} {w : Nat} (h : mAt cs s g) (I : qI s) (hw : w < 2 ^ 31) : Ev ab_Z0 1 153 [.ref 65, .int (nI w)] cs (some (.int (nI (qPs s w (qN s)))), cs) := by
  obtain ⟨h0, h1, h2, h3, h4, h5, h6, h7, h8, h9⟩ := h
  obtain ⟨⟨i0, i1, i2, i3⟩, ⟨i4, i5, i6, i7, i8⟩, ⟨i9, i10⟩, I1, I2, I3, I4⟩ := id I
  have hh : mAt cs s g := ⟨h0, h1, h2, h3, h4, h5, h6, h7, h8, h9⟩
  refine Ef.in (md := mX6_piecesOf) (L := [some (.ref 65), some (.int (nI w)), none, none]) rfl (Nat.le_of_ble_eq_true rfl) rfl ?_
  refine E_iconst (x := nI 0) rfl (by decide) ?_
  refine E_istore_n (L2 := [some (.ref 65), some (.int (nI w)), some (.int (nI 0)), none]) rfl rfl ?_
  refine E_iconst (x := nI 0) rfl (by decide) ?_
  refine E_istore_n (L2 := [some (.ref 65), some (.int (nI w)), some (.int (nI 0)), some (.int (nI 0))]) rfl rfl ?_
  refine mo_piecesOf_l hh I hw ?_ (qN s) 0 (by omega)
  refine E_iload_n rfl rfl ?_
  exact E_iret rfl rfl
theorem qWs_n {s : ab_q} {m i : Nat} (e : qBit m i = 0) : qWs s m (i + 1) = qWs s m i := by
  show _ + (if _ then _ else _) = _
  rw [if_neg (by omega)]
  rfl
theorem mo_worthOf_l {cs : List ab_C} {s : ab_q} {g : Nat → Int32} {m : Nat} {r : Option Value × List ab_C} (h : mAt cs s g) (I : qI s) (hm : m < 2 ^ 31) (K : Ef ab_Z0 1 mX6_worthOf (35, [some (.ref 65), some (.int (nI m)), some (.int (nI (qWs s m (qN s)))), some (.int (nI (qN s)))], [], cs) r) : ∀ n i, i + n = qN s → Ef ab_Z0 1 mX6_worthOf (4, [some (.ref 65), some (.int (nI m)), some (.int (nI (qWs s m i))), some (.int (nI i))], [], cs) r := by
  have hh := h
  obtain ⟨h0, h1, h2, h3, h4, h5, h6, h7, h8, h9⟩ := h
  obtain ⟨⟨i0, i1, i2, i3⟩, ⟨i4, i5, i6, i7, i8⟩, ⟨i9, i10⟩, I1, I2, I3, I4⟩ := id I
  have h := hh
  intro n
  induction n with
  | zero =>
    intro i hi
    obtain rfl : i = qN s := by omega
    refine E_iload_n rfl rfl ?_
    refine E_aload_n rfl rfl ?_
    refine E_getfield (v := .int (nI (qN s))) rfl h0 rfl (by decide) rfl ?_
    refine E_ic (t := 35) (b := true) rfl rfl ((cn_geN (by omega) (by omega)).trans (decide_eq_true (by omega))) ?_
    exact K
  | succ n ih =>
    intro i hi
    rcases qBit2 m i with e | e
    · have hd := ab_divlt (i := i) hm
      have e3 := e
      unfold qBit at e3
      refine E_iload_n rfl rfl ?_
      refine E_aload_n rfl rfl ?_
      refine E_getfield (v := .int (nI (qN s))) rfl h0 rfl (by decide) rfl ?_
      refine E_ic (t := 35) (b := false) rfl rfl ((cn_geN (by omega) (by omega)).trans (decide_eq_false (by omega))) ?_
      refine E_iload_n rfl rfl ?_
      refine E_iload_n rfl rfl ?_
      refine E_ishr (z := nI (m / 2 ^ i)) rfl (ab_shr (by omega) (by omega)) ?_
      refine E_iconst (x := nI 1) rfl (by decide) ?_
      refine E_iand (z := nI 0) rfl ((ab_and1 (by omega)).trans (congrArg nI e3)) ?_
      refine E_iconst (x := nI 1) rfl (by decide) ?_
      refine E_ic (t := 29) (b := true) rfl rfl (by decide) ?_
      refine E_iinc (y := nI (i + 1)) (L2 := [some (.ref 65), some (.int (nI m)), some (.int (nI (qWs s m i))), some (.int (nI (i + 1)))]) rfl rfl (nI_1 _) rfl ?_
      refine E_goto (t := 4) rfl rfl ?_
      rw [← qWs_n e]
      exact ih (i + 1) (by omega)
    · have hd := ab_divlt (i := i) hm
      have e3 := e
      unfold qBit at e3
      refine E_iload_n rfl rfl ?_
      refine E_aload_n rfl rfl ?_
      refine E_getfield (v := .int (nI (qN s))) rfl h0 rfl (by decide) rfl ?_
      refine E_ic (t := 35) (b := false) rfl rfl ((cn_geN (by omega) (by omega)).trans (decide_eq_false (by omega))) ?_
      refine E_iload_n rfl rfl ?_
      refine E_iload_n rfl rfl ?_
      refine E_ishr (z := nI (m / 2 ^ i)) rfl (ab_shr (by omega) (by omega)) ?_
      refine E_iconst (x := nI 1) rfl (by decide) ?_
      refine E_iand (z := nI 1) rfl ((ab_and1 (by omega)).trans (congrArg nI e3)) ?_
      refine E_iconst (x := nI 1) rfl (by decide) ?_
      refine E_ic (t := 29) (b := false) rfl rfl (by decide) ?_
      refine E_iload_n rfl rfl ?_
      refine E_aload_n rfl rfl ?_
      refine E_iload_n rfl rfl ?_
      refine E_callV (v := some (.int (nI (qWorth s i)))) (As := [.ref 65, .int (nI i)]) (r0 := [.int (nI (qWs s m i))]) (cs2 := cs) rfl rfl rfl (Nat.le_of_ble_eq_true rfl) rfl (ab_rvOf h0 rfl) (mo_worth h I (by omega)) (by decide) rfl ?_
      refine E_iadd (z := nI (qWs s m (i + 1))) rfl (qWs_1 e) ?_
      refine E_istore_n (L2 := [some (.ref 65), some (.int (nI m)), some (.int (nI (qWs s m (i + 1)))), some (.int (nI i))]) rfl rfl ?_
      refine E_iinc (y := nI (i + 1)) (L2 := [some (.ref 65), some (.int (nI m)), some (.int (nI (qWs s m (i + 1)))), some (.int (nI (i + 1)))]) rfl rfl (nI_1 _) rfl ?_
      refine E_goto (t := 4) rfl rfl ?_
      exact ih (i + 1) (by omega)
theorem mo_worthOf {cs : List ab_C} {s : ab_q} {g : Nat → Int32} {m : Nat} (h : mAt cs s g) (I : qI s) (hm : m < 2 ^ 31) : Ev ab_Z0 2 168 [.ref 65, .int (nI m)] cs (some (.int (nI (qWs s m (qN s)))), cs) := by
  obtain ⟨h0, h1, h2, h3, h4, h5, h6, h7, h8, h9⟩ := h
  obtain ⟨⟨i0, i1, i2, i3⟩, ⟨i4, i5, i6, i7, i8⟩, ⟨i9, i10⟩, I1, I2, I3, I4⟩ := id I
  have hh : mAt cs s g := ⟨h0, h1, h2, h3, h4, h5, h6, h7, h8, h9⟩
  refine Ef.in (md := mX6_worthOf) (L := [some (.ref 65), some (.int (nI m)), none, none]) rfl (Nat.le_of_ble_eq_true rfl) rfl ?_
  refine E_iconst (x := nI 0) rfl (by decide) ?_
  refine E_istore_n (L2 := [some (.ref 65), some (.int (nI m)), some (.int (nI 0)), none]) rfl rfl ?_
  refine E_iconst (x := nI 0) rfl (by decide) ?_
  refine E_istore_n (L2 := [some (.ref 65), some (.int (nI m)), some (.int (nI 0)), some (.int (nI 0))]) rfl rfl ?_
  refine mo_worthOf_l hh I hm ?_ (qN s) 0 (by omega)
  refine E_iload_n rfl rfl ?_
  exact E_iret rfl rfl
theorem qHs_n {s : ab_q} {m i : Nat} (e : qBit m i = 0) : qHs s m (i + 1) = qHs s m i := by
  show _ + (if _ then _ else _) = _
  rw [if_neg (by omega)]
  rfl
theorem mo_harmOf_l {cs : List ab_C} {s : ab_q} {g : Nat → Int32} {m : Nat} {r : Option Value × List ab_C} (h : mAt cs s g) (I : qI s) (hm : m < 2 ^ 31) (K : Ef ab_Z0 1 mX6_harmOf (35, [some (.ref 65), some (.int (nI m)), some (.int (nI (qHs s m (qN s)))), some (.int (nI (qN s)))], [], cs) r) : ∀ n i, i + n = qN s → Ef ab_Z0 1 mX6_harmOf (4, [some (.ref 65), some (.int (nI m)), some (.int (nI (qHs s m i))), some (.int (nI i))], [], cs) r := by
  have hh := h
  obtain ⟨h0, h1, h2, h3, h4, h5, h6, h7, h8, h9⟩ := h
  obtain ⟨⟨i0, i1, i2, i3⟩, ⟨i4, i5, i6, i7, i8⟩, ⟨i9, i10⟩, I1, I2, I3, I4⟩ := id I
  have h := hh
  intro n
  induction n with
  | zero =>
    intro i hi
    obtain rfl : i = qN s := by omega
    refine E_iload_n rfl rfl ?_
    refine E_aload_n rfl rfl ?_
    refine E_getfield (v := .int (nI (qN s))) rfl h0 rfl (by decide) rfl ?_
    refine E_ic (t := 35) (b := true) rfl rfl ((cn_geN (by omega) (by omega)).trans (decide_eq_true (by omega))) ?_
    exact K
  | succ n ih =>
    intro i hi
    rcases qBit2 m i with e | e
    · have hd := ab_divlt (i := i) hm
      have e3 := e
      unfold qBit at e3
      refine E_iload_n rfl rfl ?_
      refine E_aload_n rfl rfl ?_
      refine E_getfield (v := .int (nI (qN s))) rfl h0 rfl (by decide) rfl ?_
      refine E_ic (t := 35) (b := false) rfl rfl ((cn_geN (by omega) (by omega)).trans (decide_eq_false (by omega))) ?_
      refine E_iload_n rfl rfl ?_
      refine E_iload_n rfl rfl ?_
      refine E_ishr (z := nI (m / 2 ^ i)) rfl (ab_shr (by omega) (by omega)) ?_
      refine E_iconst (x := nI 1) rfl (by decide) ?_
      refine E_iand (z := nI 0) rfl ((ab_and1 (by omega)).trans (congrArg nI e3)) ?_
      refine E_iconst (x := nI 1) rfl (by decide) ?_
      refine E_ic (t := 29) (b := true) rfl rfl (by decide) ?_
      refine E_iinc (y := nI (i + 1)) (L2 := [some (.ref 65), some (.int (nI m)), some (.int (nI (qHs s m i))), some (.int (nI (i + 1)))]) rfl rfl (nI_1 _) rfl ?_
      refine E_goto (t := 4) rfl rfl ?_
      rw [← qHs_n e]
      exact ih (i + 1) (by omega)
    · have hd := ab_divlt (i := i) hm
      have e3 := e
      unfold qBit at e3
      refine E_iload_n rfl rfl ?_
      refine E_aload_n rfl rfl ?_
      refine E_getfield (v := .int (nI (qN s))) rfl h0 rfl (by decide) rfl ?_
      refine E_ic (t := 35) (b := false) rfl rfl ((cn_geN (by omega) (by omega)).trans (decide_eq_false (by omega))) ?_
      refine E_iload_n rfl rfl ?_
      refine E_iload_n rfl rfl ?_
      refine E_ishr (z := nI (m / 2 ^ i)) rfl (ab_shr (by omega) (by omega)) ?_
      refine E_iconst (x := nI 1) rfl (by decide) ?_
      refine E_iand (z := nI 1) rfl ((ab_and1 (by omega)).trans (congrArg nI e3)) ?_
      refine E_iconst (x := nI 1) rfl (by decide) ?_
      refine E_ic (t := 29) (b := false) rfl rfl (by decide) ?_
      refine E_iload_n rfl rfl ?_
      refine E_aload_n rfl rfl ?_
      refine E_iload_n rfl rfl ?_
      refine E_callV (v := some (.int (nI (qHarm s i)))) (As := [.ref 65, .int (nI i)]) (r0 := [.int (nI (qHs s m i))]) (cs2 := cs) rfl rfl rfl (Nat.le_of_ble_eq_true rfl) rfl (ab_rvOf h0 rfl) (mo_harms h I (by omega)) (by decide) rfl ?_
      refine E_iadd (z := nI (qHs s m (i + 1))) rfl (qHs_1 e) ?_
      refine E_istore_n (L2 := [some (.ref 65), some (.int (nI m)), some (.int (nI (qHs s m (i + 1)))), some (.int (nI i))]) rfl rfl ?_
      refine E_iinc (y := nI (i + 1)) (L2 := [some (.ref 65), some (.int (nI m)), some (.int (nI (qHs s m (i + 1)))), some (.int (nI (i + 1)))]) rfl rfl (nI_1 _) rfl ?_
      refine E_goto (t := 4) rfl rfl ?_
      exact ih (i + 1) (by omega)
theorem mo_harmOf {cs : List ab_C} {s : ab_q} {g : Nat → Int32} {m : Nat} (h : mAt cs s g) (I : qI s) (hm : m < 2 ^ 31) : Ev ab_Z0 2 169 [.ref 65, .int (nI m)] cs (some (.int (nI (qHs s m (qN s)))), cs) := by
  obtain ⟨h0, h1, h2, h3, h4, h5, h6, h7, h8, h9⟩ := h
  obtain ⟨⟨i0, i1, i2, i3⟩, ⟨i4, i5, i6, i7, i8⟩, ⟨i9, i10⟩, I1, I2, I3, I4⟩ := id I
  have hh : mAt cs s g := ⟨h0, h1, h2, h3, h4, h5, h6, h7, h8, h9⟩
  refine Ef.in (md := mX6_harmOf) (L := [some (.ref 65), some (.int (nI m)), none, none]) rfl (Nat.le_of_ble_eq_true rfl) rfl ?_
  refine E_iconst (x := nI 0) rfl (by decide) ?_
  refine E_istore_n (L2 := [some (.ref 65), some (.int (nI m)), some (.int (nI 0)), none]) rfl rfl ?_
  refine E_iconst (x := nI 0) rfl (by decide) ?_
  refine E_istore_n (L2 := [some (.ref 65), some (.int (nI m)), some (.int (nI 0)), some (.int (nI 0))]) rfl rfl ?_
  refine mo_harmOf_l hh I hm ?_ (qN s) 0 (by omega)
  refine E_iload_n rfl rfl ?_
  exact E_iret rfl rfl
/-- how many bits of the first i -/
def qMany (m : Nat) : Nat → Nat
  | 0 => 0
  | i + 1 => qMany m i + qBit m i
theorem mo_many_l {cs : List ab_C} {s : ab_q} {g : Nat → Int32} {m : Nat} {r : Option Value × List ab_C} (h : mAt cs s g) (I : qI s) (hm : m < 2 ^ 31) (K : Ef ab_Z0 0 mX6_many (24, [some (.ref 65), some (.int (nI m)), some (.int (nI (qMany m 9))), some (.int (nI 9))], [], cs) r) : ∀ n i, i + n = 9 → Ef ab_Z0 0 mX6_many (4, [some (.ref 65), some (.int (nI m)), some (.int (nI (qMany m i))), some (.int (nI i))], [], cs) r := by
  have hh := h
  obtain ⟨h0, h1, h2, h3, h4, h5, h6, h7, h8, h9⟩ := h
  obtain ⟨⟨i0, i1, i2, i3⟩, ⟨i4, i5, i6, i7, i8⟩, ⟨i9, i10⟩, I1, I2, I3, I4⟩ := id I
  have h := hh
  intro n
  induction n with
  | zero =>
    intro i hi
    obtain rfl : i = 9 := by omega
    refine E_iload_n rfl rfl ?_
    refine E_bipush (x := nI 9) rfl (by decide) ?_
    refine E_ic (t := 24) (b := true) rfl rfl (by decide) ?_
    exact K
  | succ n ih =>
    intro i hi
    have hd := ab_divlt (i := i) hm
    refine E_iload_n rfl rfl ?_
    refine E_bipush (x := nI 9) rfl (by decide) ?_
    refine E_ic (t := 24) (b := false) rfl rfl ((cn_geN (by omega) (by omega)).trans (decide_eq_false (by omega))) ?_
    refine E_iload_n rfl rfl ?_
    refine E_iload_n rfl rfl ?_
    refine E_iload_n rfl rfl ?_
    refine E_ishr (z := nI (m / 2 ^ i)) rfl (ab_shr (by omega) (by omega)) ?_
    refine E_iconst (x := nI 1) rfl (by decide) ?_
    refine E_iand (z := nI (qBit m i)) rfl (ab_and1 (by omega)) ?_
    refine E_iadd (z := nI (qMany m (i + 1))) rfl (nI_add _ _) ?_
    refine E_istore_n (L2 := [some (.ref 65), some (.int (nI m)), some (.int (nI (qMany m (i + 1)))), some (.int (nI i))]) rfl rfl ?_
    refine E_iinc (y := nI (i + 1)) (L2 := [some (.ref 65), some (.int (nI m)), some (.int (nI (qMany m (i + 1)))), some (.int (nI (i + 1)))]) rfl rfl (nI_1 _) rfl ?_
    refine E_goto (t := 4) rfl rfl ?_
    exact ih (i + 1) (by omega)
theorem mo_many {cs : List ab_C} {s : ab_q} {g : Nat → Int32} {m : Nat} (h : mAt cs s g) (I : qI s) (hm : m < 2 ^ 31) : Ev ab_Z0 1 167 [.ref 65, .int (nI m)] cs (some (.int (nI (qMany m 9))), cs) := by
  obtain ⟨h0, h1, h2, h3, h4, h5, h6, h7, h8, h9⟩ := h
  obtain ⟨⟨i0, i1, i2, i3⟩, ⟨i4, i5, i6, i7, i8⟩, ⟨i9, i10⟩, I1, I2, I3, I4⟩ := id I
  have hh : mAt cs s g := ⟨h0, h1, h2, h3, h4, h5, h6, h7, h8, h9⟩
  refine Ef.in (md := mX6_many) (L := [some (.ref 65), some (.int (nI m)), none, none]) rfl (Nat.le_of_ble_eq_true rfl) rfl ?_
  refine E_iconst (x := nI 0) rfl (by decide) ?_
  refine E_istore_n (L2 := [some (.ref 65), some (.int (nI m)), some (.int (nI 0)), none]) rfl rfl ?_
  refine E_iconst (x := nI 0) rfl (by decide) ?_
  refine E_istore_n (L2 := [some (.ref 65), some (.int (nI m)), some (.int (nI 0)), some (.int (nI 0))]) rfl rfl ?_
  refine mo_many_l hh I hm ?_ 9 0 (by omega)
  refine E_iload_n rfl rfl ?_
  exact E_iret rfl rfl
theorem qWn_n {s : ab_q} {w i : Nat} (e : ¬ (qW s).getD i 0 = w) : qWn s w (i + 1) = qWn s w i := by
  show _ + (if _ then _ else _) = _
  rw [if_neg e]
  rfl
theorem qWn_i {s : ab_q} {w i : Nat} (e : (qW s).getD i 0 = w) : nI (qWn s w i) + 1 = nI (qWn s w (i + 1)) := by
  rw [nI_1]
  show _ = nI (_ + (if _ then _ else _))
  rw [if_pos e]
theorem mo_wanting_l {cs : List ab_C} {s : ab_q} {g : Nat → Int32} {w : Nat} {r : Option Value × List ab_C} (h : mAt cs s g) (I : qI s) (hw : w < 2 ^ 31) (K : Ef ab_Z0 0 mX6_wanting (31, [some (.ref 65), some (.int (nI w)), some (.int (nI (qWn s w (qM s)))), some (.int (nI (qM s)))], [], cs) r) : ∀ n i, i + n = qM s → Ef ab_Z0 0 mX6_wanting (4, [some (.ref 65), some (.int (nI w)), some (.int (nI (qWn s w i))), some (.int (nI i))], [], cs) r := by
  have hh := h
  obtain ⟨h0, h1, h2, h3, h4, h5, h6, h7, h8, h9⟩ := h
  obtain ⟨⟨i0, i1, i2, i3⟩, ⟨i4, i5, i6, i7, i8⟩, ⟨i9, i10⟩, I1, I2, I3, I4⟩ := id I
  have h := hh
  intro n
  induction n with
  | zero =>
    intro i hi
    obtain rfl : i = qM s := by omega
    refine E_iload_n rfl rfl ?_
    refine E_aload_n rfl rfl ?_
    refine E_getfield (v := .int (nI (qM s))) rfl h0 rfl (by decide) rfl ?_
    refine E_ic (t := 31) (b := true) rfl rfl ((cn_geN (by omega) (by omega)).trans (decide_eq_true (by omega))) ?_
    exact K
  | succ n ih =>
    intro i hi
    by_cases e : (qW s).getD i 0 = w
    · have J := I2 i (by omega)
      refine E_iload_n rfl rfl ?_
      refine E_aload_n rfl rfl ?_
      refine E_getfield (v := .int (nI (qM s))) rfl h0 rfl (by decide) rfl ?_
      refine E_ic (t := 31) (b := false) rfl rfl ((cn_geN (by omega) (by omega)).trans (decide_eq_false (by omega))) ?_
      refine E_aload_n rfl rfl ?_
      refine E_getfield (v := .ref 73) rfl h0 rfl (by decide) rfl ?_
      refine E_iload_n rfl rfl ?_
      refine E_ialN (v := (qW s).getD i 0) rfl h7 (by omega) (by omega) rfl ?_
      refine E_iload_n rfl rfl ?_
      refine E_ic (t := 25) (b := false) rfl rfl ((cn_neN (by omega) (by omega)).trans (decide_eq_false (by omega))) ?_
      refine E_iinc (y := nI (qWn s w (i + 1))) (L2 := [some (.ref 65), some (.int (nI w)), some (.int (nI (qWn s w (i + 1)))), some (.int (nI i))]) rfl rfl (qWn_i e) rfl ?_
      refine E_iinc (y := nI (i + 1)) (L2 := [some (.ref 65), some (.int (nI w)), some (.int (nI (qWn s w (i + 1)))), some (.int (nI (i + 1)))]) rfl rfl (nI_1 _) rfl ?_
      refine E_goto (t := 4) rfl rfl ?_
      exact ih (i + 1) (by omega)
    · have J := I2 i (by omega)
      refine E_iload_n rfl rfl ?_
      refine E_aload_n rfl rfl ?_
      refine E_getfield (v := .int (nI (qM s))) rfl h0 rfl (by decide) rfl ?_
      refine E_ic (t := 31) (b := false) rfl rfl ((cn_geN (by omega) (by omega)).trans (decide_eq_false (by omega))) ?_
      refine E_aload_n rfl rfl ?_
      refine E_getfield (v := .ref 73) rfl h0 rfl (by decide) rfl ?_
      refine E_iload_n rfl rfl ?_
      refine E_ialN (v := (qW s).getD i 0) rfl h7 (by omega) (by omega) rfl ?_
      refine E_iload_n rfl rfl ?_
      refine E_ic (t := 25) (b := true) rfl rfl ((cn_neN (by omega) (by omega)).trans (decide_eq_true (by omega))) ?_
      refine E_iinc (y := nI (i + 1)) (L2 := [some (.ref 65), some (.int (nI w)), some (.int (nI (qWn s w i))), some (.int (nI (i + 1)))]) rfl rfl (nI_1 _) rfl ?_
      refine E_goto (t := 4) rfl rfl ?_
      rw [← qWn_n e]
      exact ih (i + 1) (by omega)
theorem mo_wanting {cs : List ab_C} {s : ab_q} {g : Nat → Int32} {w : Nat} (h : mAt cs s g) (I : qI s) (hw : w < 2 ^ 31) : Ev ab_Z0 1 190 [.ref 65, .int (nI w)] cs (some (.int (nI (qWn s w (qM s)))), cs) := by
  obtain ⟨h0, h1, h2, h3, h4, h5, h6, h7, h8, h9⟩ := h
  obtain ⟨⟨i0, i1, i2, i3⟩, ⟨i4, i5, i6, i7, i8⟩, ⟨i9, i10⟩, I1, I2, I3, I4⟩ := id I
  have hh : mAt cs s g := ⟨h0, h1, h2, h3, h4, h5, h6, h7, h8, h9⟩
  refine Ef.in (md := mX6_wanting) (L := [some (.ref 65), some (.int (nI w)), none, none]) rfl (Nat.le_of_ble_eq_true rfl) rfl ?_
  refine E_iconst (x := nI 0) rfl (by decide) ?_
  refine E_istore_n (L2 := [some (.ref 65), some (.int (nI w)), some (.int (nI 0)), none]) rfl rfl ?_
  refine E_iconst (x := nI 0) rfl (by decide) ?_
  refine E_istore_n (L2 := [some (.ref 65), some (.int (nI w)), some (.int (nI 0)), some (.int (nI 0))]) rfl rfl ?_
  refine mo_wanting_l hh I hw ?_ (qM s) 0 (by omega)
  refine E_iload_n rfl rfl ?_
  exact E_iret rfl rfl
theorem mo_allGranted_l {cs : List ab_C} {s : ab_q} {g : Nat → Int32} {r : Option Value × List ab_C} (h : mAt cs s g) (I : qI s) (K : Ef ab_Z0 0 mX6_allGranted (27, [some (.ref 65), some (.int (qGs s (qM s))), some (.int (nI (qM s)))], [], cs) r) : ∀ n i, i + n = qM s → Ef ab_Z0 0 mX6_allGranted (4, [some (.ref 65), some (.int (qGs s i)), some (.int (nI i))], [], cs) r := by
  have hh := h
  obtain ⟨h0, h1, h2, h3, h4, h5, h6, h7, h8, h9⟩ := h
  obtain ⟨⟨i0, i1, i2, i3⟩, ⟨i4, i5, i6, i7, i8⟩, ⟨i9, i10⟩, I1, I2, I3, I4⟩ := id I
  have h := hh
  intro n
  induction n with
  | zero =>
    intro i hi
    obtain rfl : i = qM s := by omega
    refine E_iload_n rfl rfl ?_
    refine E_aload_n rfl rfl ?_
    refine E_getfield (v := .int (nI (qM s))) rfl h0 rfl (by decide) rfl ?_
    refine E_ic (t := 27) (b := true) rfl rfl ((cn_geN (by omega) (by omega)).trans (decide_eq_true (by omega))) ?_
    exact K
  | succ n ih =>
    intro i hi
    refine E_iload_n rfl rfl ?_
    refine E_aload_n rfl rfl ?_
    refine E_getfield (v := .int (nI (qM s))) rfl h0 rfl (by decide) rfl ?_
    refine E_ic (t := 27) (b := false) rfl rfl ((cn_geN (by omega) (by omega)).trans (decide_eq_false (by omega))) ?_
    refine E_iload_n rfl rfl ?_
    refine E_aload_n rfl rfl ?_
    refine E_getfield (v := .ref 74) rfl h0 rfl (by decide) rfl ?_
    refine E_iload_n rfl rfl ?_
    refine E_ialI (v := (qG s).getD i 0) rfl h8 (by omega) (by omega) rfl ?_
    refine E_iadd (z := (qGs s (i + 1))) rfl rfl ?_
    refine E_istore_n (L2 := [some (.ref 65), some (.int (qGs s (i + 1))), some (.int (nI i))]) rfl rfl ?_
    refine E_iinc (y := nI (i + 1)) (L2 := [some (.ref 65), some (.int (qGs s (i + 1))), some (.int (nI (i + 1)))]) rfl rfl (nI_1 _) rfl ?_
    refine E_goto (t := 4) rfl rfl ?_
    exact ih (i + 1) (by omega)
theorem mo_allGranted {cs : List ab_C} {s : ab_q} {g : Nat → Int32} (h : mAt cs s g) (I : qI s) : Ev ab_Z0 1 201 [.ref 65] cs (some (.int (qGs s (qM s))), cs) := by
  obtain ⟨h0, h1, h2, h3, h4, h5, h6, h7, h8, h9⟩ := h
  obtain ⟨⟨i0, i1, i2, i3⟩, ⟨i4, i5, i6, i7, i8⟩, ⟨i9, i10⟩, I1, I2, I3, I4⟩ := id I
  have hh : mAt cs s g := ⟨h0, h1, h2, h3, h4, h5, h6, h7, h8, h9⟩
  refine Ef.in (md := mX6_allGranted) (L := [some (.ref 65), none, none]) rfl (Nat.le_of_ble_eq_true rfl) rfl ?_
  refine E_iconst (x := nI 0) rfl (by decide) ?_
  refine E_istore_n (L2 := [some (.ref 65), some (.int (nI 0)), none]) rfl rfl ?_
  refine E_iconst (x := nI 0) rfl (by decide) ?_
  refine E_istore_n (L2 := [some (.ref 65), some (.int (nI 0)), some (.int (nI 0))]) rfl rfl ?_
  refine mo_allGranted_l hh I ?_ (qM s) 0 (by omega)
  refine E_iload_n rfl rfl ?_
  exact E_iret rfl rfl
