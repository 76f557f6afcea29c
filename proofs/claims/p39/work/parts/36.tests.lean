/-! the small tests, for any int; by program (wip/tools/st.py) -/
/-- x is from 0 on and below n -/
def qIn (x n : Int32) : Nat := if x < 0 then 0 else if n ≤ x then 0 else 1
/-- x is from a to b -/
def qFr (x a b : Int32) : Nat := if x < a then 0 else if b < x then 0 else 1
theorem qIn_neg {x n : Int32} (h : x < 0) : qIn x n = 0 := if_pos h
theorem qIn_N {j n : Nat} (hj : j < 2 ^ 31) (hn : n < 2 ^ 31) : qIn (nI j) (nI n) = if j < n then 1 else 0 := by
  unfold qIn
  rw [if_neg (nI_pos hj)]
  by_cases h : j < n
  · rw [if_pos h, if_neg (nI_ge h hn)]
  · rw [if_neg h, if_pos (nI_le (by omega) hj)]
theorem st_X4_isKind {cs : List ab_C} {x : Int32} : Ev ab_Z0 1 46 [.int x] cs (some (.int (nI (qIn x (nI 7)))), cs) := by
  by_cases a1 : x < 0
  · rw [show qIn x (nI 7) = 0 from if_pos a1]
    refine Ef.in (md := mX4_isKind) (L := [some (.int x)]) rfl (Nat.le_of_ble_eq_true rfl) rfl ?_
    refine E_iload_n rfl rfl ?_
    refine E_if (t := 14) (b := true) rfl rfl (decide_eq_true a1) ?_
    refine E_iconst (x := nI 0) rfl (by decide) ?_
    exact E_iret rfl rfl
  · by_cases a2 : (nI 7) ≤ x
    · rw [show qIn x (nI 7) = 0 by unfold qIn; rw [if_neg a1]; exact if_pos a2]
      refine Ef.in (md := mX4_isKind) (L := [some (.int x)]) rfl (Nat.le_of_ble_eq_true rfl) rfl ?_
      refine E_iload_n rfl rfl ?_
      refine E_if (t := 14) (b := false) rfl rfl (decide_eq_false a1) ?_
      refine E_iload_n rfl rfl ?_
      refine E_bipush (x := nI 7) rfl (by decide) ?_
      refine E_ic (t := 14) (b := true) rfl rfl (decide_eq_true a2) ?_
      refine E_iconst (x := nI 0) rfl (by decide) ?_
      exact E_iret rfl rfl
    · rw [show qIn x (nI 7) = 1 by unfold qIn; rw [if_neg a1]; exact if_neg a2]
      refine Ef.in (md := mX4_isKind) (L := [some (.int x)]) rfl (Nat.le_of_ble_eq_true rfl) rfl ?_
      refine E_iload_n rfl rfl ?_
      refine E_if (t := 14) (b := false) rfl rfl (decide_eq_false a1) ?_
      refine E_iload_n rfl rfl ?_
      refine E_bipush (x := nI 7) rfl (by decide) ?_
      refine E_ic (t := 14) (b := false) rfl rfl (decide_eq_false a2) ?_
      refine E_iconst (x := nI 1) rfl (by decide) ?_
      refine E_goto (t := 15) rfl rfl ?_
      exact E_iret rfl rfl
theorem st_X4_isWish {cs : List ab_C} {x : Int32} : Ev ab_Z0 1 47 [.int x] cs (some (.int (nI (qIn x (nI 8)))), cs) := by
  by_cases a1 : x < 0
  · rw [show qIn x (nI 8) = 0 from if_pos a1]
    refine Ef.in (md := mX4_isWish) (L := [some (.int x)]) rfl (Nat.le_of_ble_eq_true rfl) rfl ?_
    refine E_iload_n rfl rfl ?_
    refine E_if (t := 14) (b := true) rfl rfl (decide_eq_true a1) ?_
    refine E_iconst (x := nI 0) rfl (by decide) ?_
    exact E_iret rfl rfl
  · by_cases a2 : (nI 8) ≤ x
    · rw [show qIn x (nI 8) = 0 by unfold qIn; rw [if_neg a1]; exact if_pos a2]
      refine Ef.in (md := mX4_isWish) (L := [some (.int x)]) rfl (Nat.le_of_ble_eq_true rfl) rfl ?_
      refine E_iload_n rfl rfl ?_
      refine E_if (t := 14) (b := false) rfl rfl (decide_eq_false a1) ?_
      refine E_iload_n rfl rfl ?_
      refine E_bipush (x := nI 8) rfl (by decide) ?_
      refine E_ic (t := 14) (b := true) rfl rfl (decide_eq_true a2) ?_
      refine E_iconst (x := nI 0) rfl (by decide) ?_
      exact E_iret rfl rfl
    · rw [show qIn x (nI 8) = 1 by unfold qIn; rw [if_neg a1]; exact if_neg a2]
      refine Ef.in (md := mX4_isWish) (L := [some (.int x)]) rfl (Nat.le_of_ble_eq_true rfl) rfl ?_
      refine E_iload_n rfl rfl ?_
      refine E_if (t := 14) (b := false) rfl rfl (decide_eq_false a1) ?_
      refine E_iload_n rfl rfl ?_
      refine E_bipush (x := nI 8) rfl (by decide) ?_
      refine E_ic (t := 14) (b := false) rfl rfl (decide_eq_false a2) ?_
      refine E_iconst (x := nI 1) rfl (by decide) ?_
      refine E_goto (t := 15) rfl rfl ?_
      exact E_iret rfl rfl
theorem st_X4_isAmount {cs : List ab_C} {x : Int32} : Ev ab_Z0 1 48 [.int x] cs (some (.int (nI (qIn x (nI 100)))), cs) := by
  by_cases a1 : x < 0
  · rw [show qIn x (nI 100) = 0 from if_pos a1]
    refine Ef.in (md := mX4_isAmount) (L := [some (.int x)]) rfl (Nat.le_of_ble_eq_true rfl) rfl ?_
    refine E_iload_n rfl rfl ?_
    refine E_if (t := 14) (b := true) rfl rfl (decide_eq_true a1) ?_
    refine E_iconst (x := nI 0) rfl (by decide) ?_
    exact E_iret rfl rfl
  · by_cases a2 : (nI 100) ≤ x
    · rw [show qIn x (nI 100) = 0 by unfold qIn; rw [if_neg a1]; exact if_pos a2]
      refine Ef.in (md := mX4_isAmount) (L := [some (.int x)]) rfl (Nat.le_of_ble_eq_true rfl) rfl ?_
      refine E_iload_n rfl rfl ?_
      refine E_if (t := 14) (b := false) rfl rfl (decide_eq_false a1) ?_
      refine E_iload_n rfl rfl ?_
      refine E_bipush (x := nI 100) rfl (by decide) ?_
      refine E_ic (t := 14) (b := true) rfl rfl (decide_eq_true a2) ?_
      refine E_iconst (x := nI 0) rfl (by decide) ?_
      exact E_iret rfl rfl
    · rw [show qIn x (nI 100) = 1 by unfold qIn; rw [if_neg a1]; exact if_neg a2]
      refine Ef.in (md := mX4_isAmount) (L := [some (.int x)]) rfl (Nat.le_of_ble_eq_true rfl) rfl ?_
      refine E_iload_n rfl rfl ?_
      refine E_if (t := 14) (b := false) rfl rfl (decide_eq_false a1) ?_
      refine E_iload_n rfl rfl ?_
      refine E_bipush (x := nI 100) rfl (by decide) ?_
      refine E_ic (t := 14) (b := false) rfl rfl (decide_eq_false a2) ?_
      refine E_iconst (x := nI 1) rfl (by decide) ?_
      refine E_goto (t := 15) rfl rfl ?_
      exact E_iret rfl rfl
theorem st_X5_isShelf {cs : List ab_C} {x : Int32} : Ev ab_Z0 1 117 [.int x] cs (some (.int (nI (qIn x (nI 8)))), cs) := by
  by_cases a1 : x < 0
  · rw [show qIn x (nI 8) = 0 from if_pos a1]
    refine Ef.in (md := mX5_isShelf) (L := [some (.int x)]) rfl (Nat.le_of_ble_eq_true rfl) rfl ?_
    refine E_iload_n rfl rfl ?_
    refine E_if (t := 14) (b := true) rfl rfl (decide_eq_true a1) ?_
    refine E_iconst (x := nI 0) rfl (by decide) ?_
    exact E_iret rfl rfl
  · by_cases a2 : (nI 8) ≤ x
    · rw [show qIn x (nI 8) = 0 by unfold qIn; rw [if_neg a1]; exact if_pos a2]
      refine Ef.in (md := mX5_isShelf) (L := [some (.int x)]) rfl (Nat.le_of_ble_eq_true rfl) rfl ?_
      refine E_iload_n rfl rfl ?_
      refine E_if (t := 14) (b := false) rfl rfl (decide_eq_false a1) ?_
      refine E_iload_n rfl rfl ?_
      refine E_bipush (x := nI 8) rfl (by decide) ?_
      refine E_ic (t := 14) (b := true) rfl rfl (decide_eq_true a2) ?_
      refine E_iconst (x := nI 0) rfl (by decide) ?_
      exact E_iret rfl rfl
    · rw [show qIn x (nI 8) = 1 by unfold qIn; rw [if_neg a1]; exact if_neg a2]
      refine Ef.in (md := mX5_isShelf) (L := [some (.int x)]) rfl (Nat.le_of_ble_eq_true rfl) rfl ?_
      refine E_iload_n rfl rfl ?_
      refine E_if (t := 14) (b := false) rfl rfl (decide_eq_false a1) ?_
      refine E_iload_n rfl rfl ?_
      refine E_bipush (x := nI 8) rfl (by decide) ?_
      refine E_ic (t := 14) (b := false) rfl rfl (decide_eq_false a2) ?_
      refine E_iconst (x := nI 1) rfl (by decide) ?_
      refine E_goto (t := 15) rfl rfl ?_
      exact E_iret rfl rfl
theorem st_X5_isFrom {cs : List ab_C} {x a b : Int32} : Ev ab_Z0 1 115 [.int x, .int a, .int b] cs (some (.int (nI (qFr x a b))), cs) := by
  by_cases a1 : x < a
  · rw [show qFr x a b = 0 from if_pos a1]
    refine Ef.in (md := mX5_isFrom) (L := [some (.int x), some (.int a), some (.int b)]) rfl (Nat.le_of_ble_eq_true rfl) rfl ?_
    refine E_iload_n rfl rfl ?_
    refine E_iload_n rfl rfl ?_
    refine E_ic (t := 14) (b := true) rfl rfl (decide_eq_true a1) ?_
    refine E_iconst (x := nI 0) rfl (by decide) ?_
    exact E_iret rfl rfl
  · by_cases a2 : b < x
    · rw [show qFr x a b = 0 by unfold qFr; rw [if_neg a1]; exact if_pos a2]
      refine Ef.in (md := mX5_isFrom) (L := [some (.int x), some (.int a), some (.int b)]) rfl (Nat.le_of_ble_eq_true rfl) rfl ?_
      refine E_iload_n rfl rfl ?_
      refine E_iload_n rfl rfl ?_
      refine E_ic (t := 14) (b := false) rfl rfl (decide_eq_false a1) ?_
      refine E_iload_n rfl rfl ?_
      refine E_iload_n rfl rfl ?_
      refine E_ic (t := 14) (b := true) rfl rfl (decide_eq_true a2) ?_
      refine E_iconst (x := nI 0) rfl (by decide) ?_
      exact E_iret rfl rfl
    · rw [show qFr x a b = 1 by unfold qFr; rw [if_neg a1]; exact if_neg a2]
      refine Ef.in (md := mX5_isFrom) (L := [some (.int x), some (.int a), some (.int b)]) rfl (Nat.le_of_ble_eq_true rfl) rfl ?_
      refine E_iload_n rfl rfl ?_
      refine E_iload_n rfl rfl ?_
      refine E_ic (t := 14) (b := false) rfl rfl (decide_eq_false a1) ?_
      refine E_iload_n rfl rfl ?_
      refine E_iload_n rfl rfl ?_
      refine E_ic (t := 14) (b := false) rfl rfl (decide_eq_false a2) ?_
      refine E_iconst (x := nI 1) rfl (by decide) ?_
      refine E_goto (t := 15) rfl rfl ?_
      exact E_iret rfl rfl
theorem st_X6_isShelf {cs : List ab_C} {x : Int32} {s : ab_q} {g : Nat → Int32} (h : mAt cs s g) : Ev ab_Z0 1 131 [.ref 65, .int x] cs (some (.int (nI (qIn x (nI 8)))), cs) := by
  obtain ⟨h0, h1, h2, h3, h4, h5, h6, h7, h8, h9⟩ := h
  by_cases a1 : x < 0
  · rw [show qIn x (nI 8) = 0 from if_pos a1]
    refine Ef.in (md := mX6_isShelf) (L := [some (.ref 65), some (.int x)]) rfl (Nat.le_of_ble_eq_true rfl) rfl ?_
    refine E_iload_n rfl rfl ?_
    refine E_if (t := 14) (b := true) rfl rfl (decide_eq_true a1) ?_
    refine E_iconst (x := nI 0) rfl (by decide) ?_
    exact E_iret rfl rfl
  · by_cases a2 : (nI 8) ≤ x
    · rw [show qIn x (nI 8) = 0 by unfold qIn; rw [if_neg a1]; exact if_pos a2]
      refine Ef.in (md := mX6_isShelf) (L := [some (.ref 65), some (.int x)]) rfl (Nat.le_of_ble_eq_true rfl) rfl ?_
      refine E_iload_n rfl rfl ?_
      refine E_if (t := 14) (b := false) rfl rfl (decide_eq_false a1) ?_
      refine E_iload_n rfl rfl ?_
      refine E_bipush (x := nI 8) rfl (by decide) ?_
      refine E_ic (t := 14) (b := true) rfl rfl (decide_eq_true a2) ?_
      refine E_iconst (x := nI 0) rfl (by decide) ?_
      exact E_iret rfl rfl
    · rw [show qIn x (nI 8) = 1 by unfold qIn; rw [if_neg a1]; exact if_neg a2]
      refine Ef.in (md := mX6_isShelf) (L := [some (.ref 65), some (.int x)]) rfl (Nat.le_of_ble_eq_true rfl) rfl ?_
      refine E_iload_n rfl rfl ?_
      refine E_if (t := 14) (b := false) rfl rfl (decide_eq_false a1) ?_
      refine E_iload_n rfl rfl ?_
      refine E_bipush (x := nI 8) rfl (by decide) ?_
      refine E_ic (t := 14) (b := false) rfl rfl (decide_eq_false a2) ?_
      refine E_iconst (x := nI 1) rfl (by decide) ?_
      refine E_goto (t := 15) rfl rfl ?_
      exact E_iret rfl rfl
theorem st_X6_isPiece {cs : List ab_C} {x : Int32} {s : ab_q} {g : Nat → Int32} (h : mAt cs s g) : Ev ab_Z0 1 132 [.ref 65, .int x] cs (some (.int (nI (qIn x (nI (qN s))))), cs) := by
  obtain ⟨h0, h1, h2, h3, h4, h5, h6, h7, h8, h9⟩ := h
  by_cases a1 : x < 0
  · rw [show qIn x (nI (qN s)) = 0 from if_pos a1]
    refine Ef.in (md := mX6_isPiece) (L := [some (.ref 65), some (.int x)]) rfl (Nat.le_of_ble_eq_true rfl) rfl ?_
    refine E_iload_n rfl rfl ?_
    refine E_if (t := 16) (b := true) rfl rfl (decide_eq_true a1) ?_
    refine E_iconst (x := nI 0) rfl (by decide) ?_
    exact E_iret rfl rfl
  · by_cases a2 : (nI (qN s)) ≤ x
    · rw [show qIn x (nI (qN s)) = 0 by unfold qIn; rw [if_neg a1]; exact if_pos a2]
      refine Ef.in (md := mX6_isPiece) (L := [some (.ref 65), some (.int x)]) rfl (Nat.le_of_ble_eq_true rfl) rfl ?_
      refine E_iload_n rfl rfl ?_
      refine E_if (t := 16) (b := false) rfl rfl (decide_eq_false a1) ?_
      refine E_iload_n rfl rfl ?_
      refine E_aload_n rfl rfl ?_
      refine E_getfield (v := .int (nI (qN s))) rfl h0 rfl (by decide) rfl ?_
      refine E_ic (t := 16) (b := true) rfl rfl (decide_eq_true a2) ?_
      refine E_iconst (x := nI 0) rfl (by decide) ?_
      exact E_iret rfl rfl
    · rw [show qIn x (nI (qN s)) = 1 by unfold qIn; rw [if_neg a1]; exact if_neg a2]
      refine Ef.in (md := mX6_isPiece) (L := [some (.ref 65), some (.int x)]) rfl (Nat.le_of_ble_eq_true rfl) rfl ?_
      refine E_iload_n rfl rfl ?_
      refine E_if (t := 16) (b := false) rfl rfl (decide_eq_false a1) ?_
      refine E_iload_n rfl rfl ?_
      refine E_aload_n rfl rfl ?_
      refine E_getfield (v := .int (nI (qN s))) rfl h0 rfl (by decide) rfl ?_
      refine E_ic (t := 16) (b := false) rfl rfl (decide_eq_false a2) ?_
      refine E_iconst (x := nI 1) rfl (by decide) ?_
      refine E_goto (t := 17) rfl rfl ?_
      exact E_iret rfl rfl
theorem st_X6_isOne {cs : List ab_C} {x : Int32} {s : ab_q} {g : Nat → Int32} (h : mAt cs s g) : Ev ab_Z0 1 133 [.ref 65, .int x] cs (some (.int (nI (qIn x (nI (qM s))))), cs) := by
  obtain ⟨h0, h1, h2, h3, h4, h5, h6, h7, h8, h9⟩ := h
  by_cases a1 : x < 0
  · rw [show qIn x (nI (qM s)) = 0 from if_pos a1]
    refine Ef.in (md := mX6_isOne) (L := [some (.ref 65), some (.int x)]) rfl (Nat.le_of_ble_eq_true rfl) rfl ?_
    refine E_iload_n rfl rfl ?_
    refine E_if (t := 16) (b := true) rfl rfl (decide_eq_true a1) ?_
    refine E_iconst (x := nI 0) rfl (by decide) ?_
    exact E_iret rfl rfl
  · by_cases a2 : (nI (qM s)) ≤ x
    · rw [show qIn x (nI (qM s)) = 0 by unfold qIn; rw [if_neg a1]; exact if_pos a2]
      refine Ef.in (md := mX6_isOne) (L := [some (.ref 65), some (.int x)]) rfl (Nat.le_of_ble_eq_true rfl) rfl ?_
      refine E_iload_n rfl rfl ?_
      refine E_if (t := 16) (b := false) rfl rfl (decide_eq_false a1) ?_
      refine E_iload_n rfl rfl ?_
      refine E_aload_n rfl rfl ?_
      refine E_getfield (v := .int (nI (qM s))) rfl h0 rfl (by decide) rfl ?_
      refine E_ic (t := 16) (b := true) rfl rfl (decide_eq_true a2) ?_
      refine E_iconst (x := nI 0) rfl (by decide) ?_
      exact E_iret rfl rfl
    · rw [show qIn x (nI (qM s)) = 1 by unfold qIn; rw [if_neg a1]; exact if_neg a2]
      refine Ef.in (md := mX6_isOne) (L := [some (.ref 65), some (.int x)]) rfl (Nat.le_of_ble_eq_true rfl) rfl ?_
      refine E_iload_n rfl rfl ?_
      refine E_if (t := 16) (b := false) rfl rfl (decide_eq_false a1) ?_
      refine E_iload_n rfl rfl ?_
      refine E_aload_n rfl rfl ?_
      refine E_getfield (v := .int (nI (qM s))) rfl h0 rfl (by decide) rfl ?_
      refine E_ic (t := 16) (b := false) rfl rfl (decide_eq_false a2) ?_
      refine E_iconst (x := nI 1) rfl (by decide) ?_
      refine E_goto (t := 17) rfl rfl ?_
      exact E_iret rfl rfl
theorem st_X6_isFrom {cs : List ab_C} {x a b : Int32} : Ev ab_Z0 1 134 [.ref 65, .int x, .int a, .int b] cs (some (.int (nI (qFr x a b))), cs) := by
  by_cases a1 : x < a
  · rw [show qFr x a b = 0 from if_pos a1]
    refine Ef.in (md := mX6_isFrom) (L := [some (.ref 65), some (.int x), some (.int a), some (.int b)]) rfl (Nat.le_of_ble_eq_true rfl) rfl ?_
    refine E_iload_n rfl rfl ?_
    refine E_iload_n rfl rfl ?_
    refine E_ic (t := 14) (b := true) rfl rfl (decide_eq_true a1) ?_
    refine E_iconst (x := nI 0) rfl (by decide) ?_
    exact E_iret rfl rfl
  · by_cases a2 : b < x
    · rw [show qFr x a b = 0 by unfold qFr; rw [if_neg a1]; exact if_pos a2]
      refine Ef.in (md := mX6_isFrom) (L := [some (.ref 65), some (.int x), some (.int a), some (.int b)]) rfl (Nat.le_of_ble_eq_true rfl) rfl ?_
      refine E_iload_n rfl rfl ?_
      refine E_iload_n rfl rfl ?_
      refine E_ic (t := 14) (b := false) rfl rfl (decide_eq_false a1) ?_
      refine E_iload_n rfl rfl ?_
      refine E_iload_n rfl rfl ?_
      refine E_ic (t := 14) (b := true) rfl rfl (decide_eq_true a2) ?_
      refine E_iconst (x := nI 0) rfl (by decide) ?_
      exact E_iret rfl rfl
    · rw [show qFr x a b = 1 by unfold qFr; rw [if_neg a1]; exact if_neg a2]
      refine Ef.in (md := mX6_isFrom) (L := [some (.ref 65), some (.int x), some (.int a), some (.int b)]) rfl (Nat.le_of_ble_eq_true rfl) rfl ?_
      refine E_iload_n rfl rfl ?_
      refine E_iload_n rfl rfl ?_
      refine E_ic (t := 14) (b := false) rfl rfl (decide_eq_false a1) ?_
      refine E_iload_n rfl rfl ?_
      refine E_iload_n rfl rfl ?_
      refine E_ic (t := 14) (b := false) rfl rfl (decide_eq_false a2) ?_
      refine E_iconst (x := nI 1) rfl (by decide) ?_
      refine E_goto (t := 15) rfl rfl ?_
      exact E_iret rfl rfl
theorem st_X4_isPiece {cs : List ab_C} {b : Nat} {x : Int32} {s : ab_q} (h : qAt cs b s) : Ev ab_Z0 1 50 [.ref b, .int x] cs (some (.int (nI (qIn x (nI (qN s))))), cs) := by
  obtain ⟨h0, h1, h2, h3, h4, h5, h6, h7, h8, h9⟩ := h
  by_cases a1 : x < 0
  · rw [show qIn x (nI (qN s)) = 0 from if_pos a1]
    refine Ef.in (md := mX4_isPiece) (L := [some (.ref b), some (.int x)]) rfl (Nat.le_of_ble_eq_true rfl) rfl ?_
    refine E_iload_n rfl rfl ?_
    refine E_if (t := 16) (b := true) rfl rfl (decide_eq_true a1) ?_
    refine E_iconst (x := nI 0) rfl (by decide) ?_
    exact E_iret rfl rfl
  · by_cases a2 : (nI (qN s)) ≤ x
    · rw [show qIn x (nI (qN s)) = 0 by unfold qIn; rw [if_neg a1]; exact if_pos a2]
      refine Ef.in (md := mX4_isPiece) (L := [some (.ref b), some (.int x)]) rfl (Nat.le_of_ble_eq_true rfl) rfl ?_
      refine E_iload_n rfl rfl ?_
      refine E_if (t := 16) (b := false) rfl rfl (decide_eq_false a1) ?_
      refine E_iload_n rfl rfl ?_
      refine E_aload_n rfl rfl ?_
      refine E_getfield (v := .int (nI (qN s))) rfl h0 rfl (by decide) rfl ?_
      refine E_ic (t := 16) (b := true) rfl rfl (decide_eq_true a2) ?_
      refine E_iconst (x := nI 0) rfl (by decide) ?_
      exact E_iret rfl rfl
    · rw [show qIn x (nI (qN s)) = 1 by unfold qIn; rw [if_neg a1]; exact if_neg a2]
      refine Ef.in (md := mX4_isPiece) (L := [some (.ref b), some (.int x)]) rfl (Nat.le_of_ble_eq_true rfl) rfl ?_
      refine E_iload_n rfl rfl ?_
      refine E_if (t := 16) (b := false) rfl rfl (decide_eq_false a1) ?_
      refine E_iload_n rfl rfl ?_
      refine E_aload_n rfl rfl ?_
      refine E_getfield (v := .int (nI (qN s))) rfl h0 rfl (by decide) rfl ?_
      refine E_ic (t := 16) (b := false) rfl rfl (decide_eq_false a2) ?_
      refine E_iconst (x := nI 1) rfl (by decide) ?_
      refine E_goto (t := 17) rfl rfl ?_
      exact E_iret rfl rfl
theorem st_X4_isPerson {cs : List ab_C} {b : Nat} {x : Int32} {s : ab_q} (h : qAt cs b s) : Ev ab_Z0 1 51 [.ref b, .int x] cs (some (.int (nI (qIn x (nI (qM s))))), cs) := by
  obtain ⟨h0, h1, h2, h3, h4, h5, h6, h7, h8, h9⟩ := h
  by_cases a1 : x < 0
  · rw [show qIn x (nI (qM s)) = 0 from if_pos a1]
    refine Ef.in (md := mX4_isPerson) (L := [some (.ref b), some (.int x)]) rfl (Nat.le_of_ble_eq_true rfl) rfl ?_
    refine E_iload_n rfl rfl ?_
    refine E_if (t := 16) (b := true) rfl rfl (decide_eq_true a1) ?_
    refine E_iconst (x := nI 0) rfl (by decide) ?_
    exact E_iret rfl rfl
  · by_cases a2 : (nI (qM s)) ≤ x
    · rw [show qIn x (nI (qM s)) = 0 by unfold qIn; rw [if_neg a1]; exact if_pos a2]
      refine Ef.in (md := mX4_isPerson) (L := [some (.ref b), some (.int x)]) rfl (Nat.le_of_ble_eq_true rfl) rfl ?_
      refine E_iload_n rfl rfl ?_
      refine E_if (t := 16) (b := false) rfl rfl (decide_eq_false a1) ?_
      refine E_iload_n rfl rfl ?_
      refine E_aload_n rfl rfl ?_
      refine E_getfield (v := .int (nI (qM s))) rfl h0 rfl (by decide) rfl ?_
      refine E_ic (t := 16) (b := true) rfl rfl (decide_eq_true a2) ?_
      refine E_iconst (x := nI 0) rfl (by decide) ?_
      exact E_iret rfl rfl
    · rw [show qIn x (nI (qM s)) = 1 by unfold qIn; rw [if_neg a1]; exact if_neg a2]
      refine Ef.in (md := mX4_isPerson) (L := [some (.ref b), some (.int x)]) rfl (Nat.le_of_ble_eq_true rfl) rfl ?_
      refine E_iload_n rfl rfl ?_
      refine E_if (t := 16) (b := false) rfl rfl (decide_eq_false a1) ?_
      refine E_iload_n rfl rfl ?_
      refine E_aload_n rfl rfl ?_
      refine E_getfield (v := .int (nI (qM s))) rfl h0 rfl (by decide) rfl ?_
      refine E_ic (t := 16) (b := false) rfl rfl (decide_eq_false a2) ?_
      refine E_iconst (x := nI 1) rfl (by decide) ?_
      refine E_goto (t := 17) rfl rfl ?_
      exact E_iret rfl rfl
theorem st_X4_hasRoomForPiece {cs : List ab_C} {b : Nat} {s : ab_q} (h : qAt cs b s) (I : qI s) : Ev ab_Z0 1 52 [.ref b] cs (some (.int (nI (if qN s < 9 then 1 else 0))), cs) := by
  obtain ⟨h0, h1, h2, h3, h4, h5, h6, h7, h8, h9⟩ := h
  obtain ⟨⟨i0, i1, i2, i3⟩, ⟨i4, i5, i6, i7, i8⟩, ⟨i9, i10⟩, I1, I2, I3, I4⟩ := id I
  by_cases e : qN s < 9
  · rw [if_pos e]
    refine Ef.in (md := mX4_hasRoomForPiece) (L := [some (.ref b)]) rfl (Nat.le_of_ble_eq_true rfl) rfl ?_
    refine E_aload_n rfl rfl ?_
    refine E_getfield (v := .int (nI (qN s))) rfl h0 rfl (by decide) rfl ?_
    refine E_bipush (x := nI 9) rfl (by decide) ?_
    refine E_ic (t := 13) (b := false) rfl rfl ((cn_geN (by omega) (by omega)).trans (decide_eq_false (by omega))) ?_
    refine E_iconst (x := nI 1) rfl (by decide) ?_
    refine E_goto (t := 14) rfl rfl ?_
    exact E_iret rfl rfl
  · rw [if_neg e]
    refine Ef.in (md := mX4_hasRoomForPiece) (L := [some (.ref b)]) rfl (Nat.le_of_ble_eq_true rfl) rfl ?_
    refine E_aload_n rfl rfl ?_
    refine E_getfield (v := .int (nI (qN s))) rfl h0 rfl (by decide) rfl ?_
    refine E_bipush (x := nI 9) rfl (by decide) ?_
    refine E_ic (t := 13) (b := true) rfl rfl ((cn_geN (by omega) (by omega)).trans (decide_eq_true (by omega))) ?_
    refine E_iconst (x := nI 0) rfl (by decide) ?_
    exact E_iret rfl rfl
theorem st_X4_hasRoomForPerson {cs : List ab_C} {b : Nat} {s : ab_q} (h : qAt cs b s) (I : qI s) : Ev ab_Z0 1 53 [.ref b] cs (some (.int (nI (if qM s < 6 then 1 else 0))), cs) := by
  obtain ⟨h0, h1, h2, h3, h4, h5, h6, h7, h8, h9⟩ := h
  obtain ⟨⟨i0, i1, i2, i3⟩, ⟨i4, i5, i6, i7, i8⟩, ⟨i9, i10⟩, I1, I2, I3, I4⟩ := id I
  by_cases e : qM s < 6
  · rw [if_pos e]
    refine Ef.in (md := mX4_hasRoomForPerson) (L := [some (.ref b)]) rfl (Nat.le_of_ble_eq_true rfl) rfl ?_
    refine E_aload_n rfl rfl ?_
    refine E_getfield (v := .int (nI (qM s))) rfl h0 rfl (by decide) rfl ?_
    refine E_bipush (x := nI 6) rfl (by decide) ?_
    refine E_ic (t := 13) (b := false) rfl rfl ((cn_geN (by omega) (by omega)).trans (decide_eq_false (by omega))) ?_
    refine E_iconst (x := nI 1) rfl (by decide) ?_
    refine E_goto (t := 14) rfl rfl ?_
    exact E_iret rfl rfl
  · rw [if_neg e]
    refine Ef.in (md := mX4_hasRoomForPerson) (L := [some (.ref b)]) rfl (Nat.le_of_ble_eq_true rfl) rfl ?_
    refine E_aload_n rfl rfl ?_
    refine E_getfield (v := .int (nI (qM s))) rfl h0 rfl (by decide) rfl ?_
    refine E_bipush (x := nI 6) rfl (by decide) ?_
    refine E_ic (t := 13) (b := true) rfl rfl ((cn_geN (by omega) (by omega)).trans (decide_eq_true (by omega))) ?_
    refine E_iconst (x := nI 0) rfl (by decide) ?_
    exact E_iret rfl rfl
