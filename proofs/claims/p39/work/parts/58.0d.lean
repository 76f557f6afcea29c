/-! the reference reads; by program (wip/tools/mksq.py) -/
theorem gn28 {g : Nat → Int32} {a27 a29 a6 a28 a30 a31 z : Int32} : fUp (fUp (fUp (fUp (fUp (fUp (fUp g 27 a27) 29 a29) 6 a6) 28 a28) 30 a30) 31 a31) 28 z = (fUp (fUp (fUp (fUp (fUp (fUp g 27 a27) 29 a29) 6 a6) 28 z) 30 a30) 31 a31) := by
  funext p
  unfold fUp
  by_cases h31 : p = 31
  · subst h31; rfl
  by_cases h30 : p = 30
  · subst h30; rfl
  by_cases h28 : p = 28
  · subst h28; rfl
  simp only [if_neg h31, if_neg h30, if_neg h28]
theorem gn30 {g : Nat → Int32} {a27 a29 a6 a28 a30 a31 z : Int32} : fUp (fUp (fUp (fUp (fUp (fUp (fUp g 27 a27) 29 a29) 6 a6) 28 a28) 30 a30) 31 a31) 30 z = (fUp (fUp (fUp (fUp (fUp (fUp g 27 a27) 29 a29) 6 a6) 28 a28) 30 z) 31 a31) := by
  funext p
  unfold fUp
  by_cases h31 : p = 31
  · subst h31; rfl
  by_cases h30 : p = 30
  · subst h30; rfl
  by_cases h28 : p = 28
  · subst h28; rfl
  simp only [if_neg h31, if_neg h30, if_neg h28]
theorem gn31 {g : Nat → Int32} {a27 a29 a6 a28 a30 a31 z : Int32} : fUp (fUp (fUp (fUp (fUp (fUp (fUp g 27 a27) 29 a29) 6 a6) 28 a28) 30 a30) 31 a31) 31 z = (fUp (fUp (fUp (fUp (fUp (fUp g 27 a27) 29 a29) 6 a6) 28 a28) 30 a30) 31 z) := by
  funext p
  unfold fUp
  by_cases h31 : p = 31
  · subst h31; rfl
  by_cases h30 : p = 30
  · subst h30; rfl
  by_cases h28 : p = 28
  · subst h28; rfl
  simp only [if_neg h31, if_neg h30, if_neg h28]
theorem mxa {a x y : Nat} : max (a + x) (a + y) = a + max x y := by omega
theorem mrS_0 (e : List Int64) (n a : Nat) : mr0 e n a = if mj0 e n a = 5 ∧ chB e n (a + 5) 32 = true then 6 else mj0 e n a := mtc_sp [112, 105, 101, 99, 101] a
theorem er_0 {e : List Int64} {n a : Nat} (h : mr0 e n a = 6) : chB e n (a) 112 = true ∧ chB e n (a + 1) 105 = true ∧ chB e n (a + 1 + 1) 101 = true ∧ chB e n (a + 1 + 1 + 1) 99 = true ∧ chB e n (a + 1 + 1 + 1 + 1) 101 = true ∧ chB e n (a + 1 + 1 + 1 + 1 + 1) 32 = true := by
  unfold mr0 at h
  rcases bo2 (chB e n (a) 112) with hb0 | hb0
  · have q0 : mtc e n [112, 105, 101, 99, 101, 32] (a) = 0 := mtc_f hb0 ; omega
  rcases bo2 (chB e n (a + 1) 105) with hb1 | hb1
  · have q0 : mtc e n [112, 105, 101, 99, 101, 32] (a) = mtc e n [105, 101, 99, 101, 32] (a + 1) + 1 := mtc_t hb0 ; have q1 : mtc e n [105, 101, 99, 101, 32] (a + 1) = 0 := mtc_f hb1 ; omega
  rcases bo2 (chB e n (a + 1 + 1) 101) with hb2 | hb2
  · have q0 : mtc e n [112, 105, 101, 99, 101, 32] (a) = mtc e n [105, 101, 99, 101, 32] (a + 1) + 1 := mtc_t hb0 ; have q1 : mtc e n [105, 101, 99, 101, 32] (a + 1) = mtc e n [101, 99, 101, 32] (a + 1 + 1) + 1 := mtc_t hb1 ; have q2 : mtc e n [101, 99, 101, 32] (a + 1 + 1) = 0 := mtc_f hb2 ; omega
  rcases bo2 (chB e n (a + 1 + 1 + 1) 99) with hb3 | hb3
  · have q0 : mtc e n [112, 105, 101, 99, 101, 32] (a) = mtc e n [105, 101, 99, 101, 32] (a + 1) + 1 := mtc_t hb0 ; have q1 : mtc e n [105, 101, 99, 101, 32] (a + 1) = mtc e n [101, 99, 101, 32] (a + 1 + 1) + 1 := mtc_t hb1 ; have q2 : mtc e n [101, 99, 101, 32] (a + 1 + 1) = mtc e n [99, 101, 32] (a + 1 + 1 + 1) + 1 := mtc_t hb2 ; have q3 : mtc e n [99, 101, 32] (a + 1 + 1 + 1) = 0 := mtc_f hb3 ; omega
  rcases bo2 (chB e n (a + 1 + 1 + 1 + 1) 101) with hb4 | hb4
  · have q0 : mtc e n [112, 105, 101, 99, 101, 32] (a) = mtc e n [105, 101, 99, 101, 32] (a + 1) + 1 := mtc_t hb0 ; have q1 : mtc e n [105, 101, 99, 101, 32] (a + 1) = mtc e n [101, 99, 101, 32] (a + 1 + 1) + 1 := mtc_t hb1 ; have q2 : mtc e n [101, 99, 101, 32] (a + 1 + 1) = mtc e n [99, 101, 32] (a + 1 + 1 + 1) + 1 := mtc_t hb2 ; have q3 : mtc e n [99, 101, 32] (a + 1 + 1 + 1) = mtc e n [101, 32] (a + 1 + 1 + 1 + 1) + 1 := mtc_t hb3 ; have q4 : mtc e n [101, 32] (a + 1 + 1 + 1 + 1) = 0 := mtc_f hb4 ; omega
  rcases bo2 (chB e n (a + 1 + 1 + 1 + 1 + 1) 32) with hb5 | hb5
  · have q0 : mtc e n [112, 105, 101, 99, 101, 32] (a) = mtc e n [105, 101, 99, 101, 32] (a + 1) + 1 := mtc_t hb0 ; have q1 : mtc e n [105, 101, 99, 101, 32] (a + 1) = mtc e n [101, 99, 101, 32] (a + 1 + 1) + 1 := mtc_t hb1 ; have q2 : mtc e n [101, 99, 101, 32] (a + 1 + 1) = mtc e n [99, 101, 32] (a + 1 + 1 + 1) + 1 := mtc_t hb2 ; have q3 : mtc e n [99, 101, 32] (a + 1 + 1 + 1) = mtc e n [101, 32] (a + 1 + 1 + 1 + 1) + 1 := mtc_t hb3 ; have q4 : mtc e n [101, 32] (a + 1 + 1 + 1 + 1) = mtc e n [32] (a + 1 + 1 + 1 + 1 + 1) + 1 := mtc_t hb4 ; have q5 : mtc e n [32] (a + 1 + 1 + 1 + 1 + 1) = 0 := mtc_f hb5 ; omega
  exact ⟨hb0, hb1, hb2, hb3, hb4, hb5⟩
theorem mrS_1 (e : List Int64) (n a : Nat) : mr1 e n a = if mj1 e n a = 6 ∧ chB e n (a + 6) 32 = true then 7 else mj1 e n a := mtc_sp [112, 101, 114, 115, 111, 110] a
theorem er_1 {e : List Int64} {n a : Nat} (h : mr1 e n a = 7) : chB e n (a) 112 = true ∧ chB e n (a + 1) 101 = true ∧ chB e n (a + 1 + 1) 114 = true ∧ chB e n (a + 1 + 1 + 1) 115 = true ∧ chB e n (a + 1 + 1 + 1 + 1) 111 = true ∧ chB e n (a + 1 + 1 + 1 + 1 + 1) 110 = true ∧ chB e n (a + 1 + 1 + 1 + 1 + 1 + 1) 32 = true := by
  unfold mr1 at h
  rcases bo2 (chB e n (a) 112) with hb0 | hb0
  · have q0 : mtc e n [112, 101, 114, 115, 111, 110, 32] (a) = 0 := mtc_f hb0 ; omega
  rcases bo2 (chB e n (a + 1) 101) with hb1 | hb1
  · have q0 : mtc e n [112, 101, 114, 115, 111, 110, 32] (a) = mtc e n [101, 114, 115, 111, 110, 32] (a + 1) + 1 := mtc_t hb0 ; have q1 : mtc e n [101, 114, 115, 111, 110, 32] (a + 1) = 0 := mtc_f hb1 ; omega
  rcases bo2 (chB e n (a + 1 + 1) 114) with hb2 | hb2
  · have q0 : mtc e n [112, 101, 114, 115, 111, 110, 32] (a) = mtc e n [101, 114, 115, 111, 110, 32] (a + 1) + 1 := mtc_t hb0 ; have q1 : mtc e n [101, 114, 115, 111, 110, 32] (a + 1) = mtc e n [114, 115, 111, 110, 32] (a + 1 + 1) + 1 := mtc_t hb1 ; have q2 : mtc e n [114, 115, 111, 110, 32] (a + 1 + 1) = 0 := mtc_f hb2 ; omega
  rcases bo2 (chB e n (a + 1 + 1 + 1) 115) with hb3 | hb3
  · have q0 : mtc e n [112, 101, 114, 115, 111, 110, 32] (a) = mtc e n [101, 114, 115, 111, 110, 32] (a + 1) + 1 := mtc_t hb0 ; have q1 : mtc e n [101, 114, 115, 111, 110, 32] (a + 1) = mtc e n [114, 115, 111, 110, 32] (a + 1 + 1) + 1 := mtc_t hb1 ; have q2 : mtc e n [114, 115, 111, 110, 32] (a + 1 + 1) = mtc e n [115, 111, 110, 32] (a + 1 + 1 + 1) + 1 := mtc_t hb2 ; have q3 : mtc e n [115, 111, 110, 32] (a + 1 + 1 + 1) = 0 := mtc_f hb3 ; omega
  rcases bo2 (chB e n (a + 1 + 1 + 1 + 1) 111) with hb4 | hb4
  · have q0 : mtc e n [112, 101, 114, 115, 111, 110, 32] (a) = mtc e n [101, 114, 115, 111, 110, 32] (a + 1) + 1 := mtc_t hb0 ; have q1 : mtc e n [101, 114, 115, 111, 110, 32] (a + 1) = mtc e n [114, 115, 111, 110, 32] (a + 1 + 1) + 1 := mtc_t hb1 ; have q2 : mtc e n [114, 115, 111, 110, 32] (a + 1 + 1) = mtc e n [115, 111, 110, 32] (a + 1 + 1 + 1) + 1 := mtc_t hb2 ; have q3 : mtc e n [115, 111, 110, 32] (a + 1 + 1 + 1) = mtc e n [111, 110, 32] (a + 1 + 1 + 1 + 1) + 1 := mtc_t hb3 ; have q4 : mtc e n [111, 110, 32] (a + 1 + 1 + 1 + 1) = 0 := mtc_f hb4 ; omega
  rcases bo2 (chB e n (a + 1 + 1 + 1 + 1 + 1) 110) with hb5 | hb5
  · have q0 : mtc e n [112, 101, 114, 115, 111, 110, 32] (a) = mtc e n [101, 114, 115, 111, 110, 32] (a + 1) + 1 := mtc_t hb0 ; have q1 : mtc e n [101, 114, 115, 111, 110, 32] (a + 1) = mtc e n [114, 115, 111, 110, 32] (a + 1 + 1) + 1 := mtc_t hb1 ; have q2 : mtc e n [114, 115, 111, 110, 32] (a + 1 + 1) = mtc e n [115, 111, 110, 32] (a + 1 + 1 + 1) + 1 := mtc_t hb2 ; have q3 : mtc e n [115, 111, 110, 32] (a + 1 + 1 + 1) = mtc e n [111, 110, 32] (a + 1 + 1 + 1 + 1) + 1 := mtc_t hb3 ; have q4 : mtc e n [111, 110, 32] (a + 1 + 1 + 1 + 1) = mtc e n [110, 32] (a + 1 + 1 + 1 + 1 + 1) + 1 := mtc_t hb4 ; have q5 : mtc e n [110, 32] (a + 1 + 1 + 1 + 1 + 1) = 0 := mtc_f hb5 ; omega
  rcases bo2 (chB e n (a + 1 + 1 + 1 + 1 + 1 + 1) 32) with hb6 | hb6
  · have q0 : mtc e n [112, 101, 114, 115, 111, 110, 32] (a) = mtc e n [101, 114, 115, 111, 110, 32] (a + 1) + 1 := mtc_t hb0 ; have q1 : mtc e n [101, 114, 115, 111, 110, 32] (a + 1) = mtc e n [114, 115, 111, 110, 32] (a + 1 + 1) + 1 := mtc_t hb1 ; have q2 : mtc e n [114, 115, 111, 110, 32] (a + 1 + 1) = mtc e n [115, 111, 110, 32] (a + 1 + 1 + 1) + 1 := mtc_t hb2 ; have q3 : mtc e n [115, 111, 110, 32] (a + 1 + 1 + 1) = mtc e n [111, 110, 32] (a + 1 + 1 + 1 + 1) + 1 := mtc_t hb3 ; have q4 : mtc e n [111, 110, 32] (a + 1 + 1 + 1 + 1) = mtc e n [110, 32] (a + 1 + 1 + 1 + 1 + 1) + 1 := mtc_t hb4 ; have q5 : mtc e n [110, 32] (a + 1 + 1 + 1 + 1 + 1) = mtc e n [32] (a + 1 + 1 + 1 + 1 + 1 + 1) + 1 := mtc_t hb5 ; have q6 : mtc e n [32] (a + 1 + 1 + 1 + 1 + 1 + 1) = 0 := mtc_f hb6 ; omega
  exact ⟨hb0, hb1, hb2, hb3, hb4, hb5, hb6⟩
theorem mrS_2 (e : List Int64) (n a : Nat) : mr2 e n a = if mj2 e n a = 4 ∧ chB e n (a + 4) 32 = true then 5 else mj2 e n a := mtc_sp [99, 111, 115, 116] a
theorem er_2 {e : List Int64} {n a : Nat} (h : mr2 e n a = 5) : chB e n (a) 99 = true ∧ chB e n (a + 1) 111 = true ∧ chB e n (a + 1 + 1) 115 = true ∧ chB e n (a + 1 + 1 + 1) 116 = true ∧ chB e n (a + 1 + 1 + 1 + 1) 32 = true := by
  unfold mr2 at h
  rcases bo2 (chB e n (a) 99) with hb0 | hb0
  · have q0 : mtc e n [99, 111, 115, 116, 32] (a) = 0 := mtc_f hb0 ; omega
  rcases bo2 (chB e n (a + 1) 111) with hb1 | hb1
  · have q0 : mtc e n [99, 111, 115, 116, 32] (a) = mtc e n [111, 115, 116, 32] (a + 1) + 1 := mtc_t hb0 ; have q1 : mtc e n [111, 115, 116, 32] (a + 1) = 0 := mtc_f hb1 ; omega
  rcases bo2 (chB e n (a + 1 + 1) 115) with hb2 | hb2
  · have q0 : mtc e n [99, 111, 115, 116, 32] (a) = mtc e n [111, 115, 116, 32] (a + 1) + 1 := mtc_t hb0 ; have q1 : mtc e n [111, 115, 116, 32] (a + 1) = mtc e n [115, 116, 32] (a + 1 + 1) + 1 := mtc_t hb1 ; have q2 : mtc e n [115, 116, 32] (a + 1 + 1) = 0 := mtc_f hb2 ; omega
  rcases bo2 (chB e n (a + 1 + 1 + 1) 116) with hb3 | hb3
  · have q0 : mtc e n [99, 111, 115, 116, 32] (a) = mtc e n [111, 115, 116, 32] (a + 1) + 1 := mtc_t hb0 ; have q1 : mtc e n [111, 115, 116, 32] (a + 1) = mtc e n [115, 116, 32] (a + 1 + 1) + 1 := mtc_t hb1 ; have q2 : mtc e n [115, 116, 32] (a + 1 + 1) = mtc e n [116, 32] (a + 1 + 1 + 1) + 1 := mtc_t hb2 ; have q3 : mtc e n [116, 32] (a + 1 + 1 + 1) = 0 := mtc_f hb3 ; omega
  rcases bo2 (chB e n (a + 1 + 1 + 1 + 1) 32) with hb4 | hb4
  · have q0 : mtc e n [99, 111, 115, 116, 32] (a) = mtc e n [111, 115, 116, 32] (a + 1) + 1 := mtc_t hb0 ; have q1 : mtc e n [111, 115, 116, 32] (a + 1) = mtc e n [115, 116, 32] (a + 1 + 1) + 1 := mtc_t hb1 ; have q2 : mtc e n [115, 116, 32] (a + 1 + 1) = mtc e n [116, 32] (a + 1 + 1 + 1) + 1 := mtc_t hb2 ; have q3 : mtc e n [116, 32] (a + 1 + 1 + 1) = mtc e n [32] (a + 1 + 1 + 1 + 1) + 1 := mtc_t hb3 ; have q4 : mtc e n [32] (a + 1 + 1 + 1 + 1) = 0 := mtc_f hb4 ; omega
  exact ⟨hb0, hb1, hb2, hb3, hb4⟩
theorem mrS_3 (e : List Int64) (n a : Nat) : mr3 e n a = if mj3 e n a = 3 ∧ chB e n (a + 3) 32 = true then 4 else mj3 e n a := mtc_sp [104, 97, 115] a
theorem er_3 {e : List Int64} {n a : Nat} (h : mr3 e n a = 4) : chB e n (a) 104 = true ∧ chB e n (a + 1) 97 = true ∧ chB e n (a + 1 + 1) 115 = true ∧ chB e n (a + 1 + 1 + 1) 32 = true := by
  unfold mr3 at h
  rcases bo2 (chB e n (a) 104) with hb0 | hb0
  · have q0 : mtc e n [104, 97, 115, 32] (a) = 0 := mtc_f hb0 ; omega
  rcases bo2 (chB e n (a + 1) 97) with hb1 | hb1
  · have q0 : mtc e n [104, 97, 115, 32] (a) = mtc e n [97, 115, 32] (a + 1) + 1 := mtc_t hb0 ; have q1 : mtc e n [97, 115, 32] (a + 1) = 0 := mtc_f hb1 ; omega
  rcases bo2 (chB e n (a + 1 + 1) 115) with hb2 | hb2
  · have q0 : mtc e n [104, 97, 115, 32] (a) = mtc e n [97, 115, 32] (a + 1) + 1 := mtc_t hb0 ; have q1 : mtc e n [97, 115, 32] (a + 1) = mtc e n [115, 32] (a + 1 + 1) + 1 := mtc_t hb1 ; have q2 : mtc e n [115, 32] (a + 1 + 1) = 0 := mtc_f hb2 ; omega
  rcases bo2 (chB e n (a + 1 + 1 + 1) 32) with hb3 | hb3
  · have q0 : mtc e n [104, 97, 115, 32] (a) = mtc e n [97, 115, 32] (a + 1) + 1 := mtc_t hb0 ; have q1 : mtc e n [97, 115, 32] (a + 1) = mtc e n [115, 32] (a + 1 + 1) + 1 := mtc_t hb1 ; have q2 : mtc e n [115, 32] (a + 1 + 1) = mtc e n [32] (a + 1 + 1 + 1) + 1 := mtc_t hb2 ; have q3 : mtc e n [32] (a + 1 + 1 + 1) = 0 := mtc_f hb3 ; omega
  exact ⟨hb0, hb1, hb2, hb3⟩
theorem mrS_4 (e : List Int64) (n a : Nat) : mr4 e n a = if mj4 e n a = 4 ∧ chB e n (a + 4) 32 = true then 5 else mj4 e n a := mtc_sp [98, 97, 99, 107] a
theorem er_4 {e : List Int64} {n a : Nat} (h : mr4 e n a = 5) : chB e n (a) 98 = true ∧ chB e n (a + 1) 97 = true ∧ chB e n (a + 1 + 1) 99 = true ∧ chB e n (a + 1 + 1 + 1) 107 = true ∧ chB e n (a + 1 + 1 + 1 + 1) 32 = true := by
  unfold mr4 at h
  rcases bo2 (chB e n (a) 98) with hb0 | hb0
  · have q0 : mtc e n [98, 97, 99, 107, 32] (a) = 0 := mtc_f hb0 ; omega
  rcases bo2 (chB e n (a + 1) 97) with hb1 | hb1
  · have q0 : mtc e n [98, 97, 99, 107, 32] (a) = mtc e n [97, 99, 107, 32] (a + 1) + 1 := mtc_t hb0 ; have q1 : mtc e n [97, 99, 107, 32] (a + 1) = 0 := mtc_f hb1 ; omega
  rcases bo2 (chB e n (a + 1 + 1) 99) with hb2 | hb2
  · have q0 : mtc e n [98, 97, 99, 107, 32] (a) = mtc e n [97, 99, 107, 32] (a + 1) + 1 := mtc_t hb0 ; have q1 : mtc e n [97, 99, 107, 32] (a + 1) = mtc e n [99, 107, 32] (a + 1 + 1) + 1 := mtc_t hb1 ; have q2 : mtc e n [99, 107, 32] (a + 1 + 1) = 0 := mtc_f hb2 ; omega
  rcases bo2 (chB e n (a + 1 + 1 + 1) 107) with hb3 | hb3
  · have q0 : mtc e n [98, 97, 99, 107, 32] (a) = mtc e n [97, 99, 107, 32] (a + 1) + 1 := mtc_t hb0 ; have q1 : mtc e n [97, 99, 107, 32] (a + 1) = mtc e n [99, 107, 32] (a + 1 + 1) + 1 := mtc_t hb1 ; have q2 : mtc e n [99, 107, 32] (a + 1 + 1) = mtc e n [107, 32] (a + 1 + 1 + 1) + 1 := mtc_t hb2 ; have q3 : mtc e n [107, 32] (a + 1 + 1 + 1) = 0 := mtc_f hb3 ; omega
  rcases bo2 (chB e n (a + 1 + 1 + 1 + 1) 32) with hb4 | hb4
  · have q0 : mtc e n [98, 97, 99, 107, 32] (a) = mtc e n [97, 99, 107, 32] (a + 1) + 1 := mtc_t hb0 ; have q1 : mtc e n [97, 99, 107, 32] (a + 1) = mtc e n [99, 107, 32] (a + 1 + 1) + 1 := mtc_t hb1 ; have q2 : mtc e n [99, 107, 32] (a + 1 + 1) = mtc e n [107, 32] (a + 1 + 1 + 1) + 1 := mtc_t hb2 ; have q3 : mtc e n [107, 32] (a + 1 + 1 + 1) = mtc e n [32] (a + 1 + 1 + 1 + 1) + 1 := mtc_t hb3 ; have q4 : mtc e n [32] (a + 1 + 1 + 1 + 1) = 0 := mtc_f hb4 ; omega
  exact ⟨hb0, hb1, hb2, hb3, hb4⟩
theorem mrS_5 (e : List Int64) (n a : Nat) : mr5 e n a = mj5 e n a := rfl
theorem er_5 {e : List Int64} {n a : Nat} (h : mr5 e n a = 6) : chB e n (a) 103 = true ∧ chB e n (a + 1) 114 = true ∧ chB e n (a + 1 + 1) 101 = true ∧ chB e n (a + 1 + 1 + 1) 101 = true ∧ chB e n (a + 1 + 1 + 1 + 1) 100 = true ∧ chB e n (a + 1 + 1 + 1 + 1 + 1) 121 = true := by
  unfold mr5 at h
  rcases bo2 (chB e n (a) 103) with hb0 | hb0
  · have q0 : mtc e n [103, 114, 101, 101, 100, 121] (a) = 0 := mtc_f hb0 ; omega
  rcases bo2 (chB e n (a + 1) 114) with hb1 | hb1
  · have q0 : mtc e n [103, 114, 101, 101, 100, 121] (a) = mtc e n [114, 101, 101, 100, 121] (a + 1) + 1 := mtc_t hb0 ; have q1 : mtc e n [114, 101, 101, 100, 121] (a + 1) = 0 := mtc_f hb1 ; omega
  rcases bo2 (chB e n (a + 1 + 1) 101) with hb2 | hb2
  · have q0 : mtc e n [103, 114, 101, 101, 100, 121] (a) = mtc e n [114, 101, 101, 100, 121] (a + 1) + 1 := mtc_t hb0 ; have q1 : mtc e n [114, 101, 101, 100, 121] (a + 1) = mtc e n [101, 101, 100, 121] (a + 1 + 1) + 1 := mtc_t hb1 ; have q2 : mtc e n [101, 101, 100, 121] (a + 1 + 1) = 0 := mtc_f hb2 ; omega
  rcases bo2 (chB e n (a + 1 + 1 + 1) 101) with hb3 | hb3
  · have q0 : mtc e n [103, 114, 101, 101, 100, 121] (a) = mtc e n [114, 101, 101, 100, 121] (a + 1) + 1 := mtc_t hb0 ; have q1 : mtc e n [114, 101, 101, 100, 121] (a + 1) = mtc e n [101, 101, 100, 121] (a + 1 + 1) + 1 := mtc_t hb1 ; have q2 : mtc e n [101, 101, 100, 121] (a + 1 + 1) = mtc e n [101, 100, 121] (a + 1 + 1 + 1) + 1 := mtc_t hb2 ; have q3 : mtc e n [101, 100, 121] (a + 1 + 1 + 1) = 0 := mtc_f hb3 ; omega
  rcases bo2 (chB e n (a + 1 + 1 + 1 + 1) 100) with hb4 | hb4
  · have q0 : mtc e n [103, 114, 101, 101, 100, 121] (a) = mtc e n [114, 101, 101, 100, 121] (a + 1) + 1 := mtc_t hb0 ; have q1 : mtc e n [114, 101, 101, 100, 121] (a + 1) = mtc e n [101, 101, 100, 121] (a + 1 + 1) + 1 := mtc_t hb1 ; have q2 : mtc e n [101, 101, 100, 121] (a + 1 + 1) = mtc e n [101, 100, 121] (a + 1 + 1 + 1) + 1 := mtc_t hb2 ; have q3 : mtc e n [101, 100, 121] (a + 1 + 1 + 1) = mtc e n [100, 121] (a + 1 + 1 + 1 + 1) + 1 := mtc_t hb3 ; have q4 : mtc e n [100, 121] (a + 1 + 1 + 1 + 1) = 0 := mtc_f hb4 ; omega
  rcases bo2 (chB e n (a + 1 + 1 + 1 + 1 + 1) 121) with hb5 | hb5
  · have q0 : mtc e n [103, 114, 101, 101, 100, 121] (a) = mtc e n [114, 101, 101, 100, 121] (a + 1) + 1 := mtc_t hb0 ; have q1 : mtc e n [114, 101, 101, 100, 121] (a + 1) = mtc e n [101, 101, 100, 121] (a + 1 + 1) + 1 := mtc_t hb1 ; have q2 : mtc e n [101, 101, 100, 121] (a + 1 + 1) = mtc e n [101, 100, 121] (a + 1 + 1 + 1) + 1 := mtc_t hb2 ; have q3 : mtc e n [101, 100, 121] (a + 1 + 1 + 1) = mtc e n [100, 121] (a + 1 + 1 + 1 + 1) + 1 := mtc_t hb3 ; have q4 : mtc e n [100, 121] (a + 1 + 1 + 1 + 1) = mtc e n [121] (a + 1 + 1 + 1 + 1 + 1) + 1 := mtc_t hb4 ; have q5 : mtc e n [121] (a + 1 + 1 + 1 + 1 + 1) = 0 := mtc_f hb5 ; omega
  exact ⟨hb0, hb1, hb2, hb3, hb4, hb5⟩
theorem mrS_6 (e : List Int64) (n a : Nat) : mr6 e n a = mj6 e n a := rfl
theorem er_6 {e : List Int64} {n a : Nat} (h : mr6 e n a = 4) : chB e n (a) 98 = true ∧ chB e n (a + 1) 101 = true ∧ chB e n (a + 1 + 1) 115 = true ∧ chB e n (a + 1 + 1 + 1) 116 = true := by
  unfold mr6 at h
  rcases bo2 (chB e n (a) 98) with hb0 | hb0
  · have q0 : mtc e n [98, 101, 115, 116] (a) = 0 := mtc_f hb0 ; omega
  rcases bo2 (chB e n (a + 1) 101) with hb1 | hb1
  · have q0 : mtc e n [98, 101, 115, 116] (a) = mtc e n [101, 115, 116] (a + 1) + 1 := mtc_t hb0 ; have q1 : mtc e n [101, 115, 116] (a + 1) = 0 := mtc_f hb1 ; omega
  rcases bo2 (chB e n (a + 1 + 1) 115) with hb2 | hb2
  · have q0 : mtc e n [98, 101, 115, 116] (a) = mtc e n [101, 115, 116] (a + 1) + 1 := mtc_t hb0 ; have q1 : mtc e n [101, 115, 116] (a + 1) = mtc e n [115, 116] (a + 1 + 1) + 1 := mtc_t hb1 ; have q2 : mtc e n [115, 116] (a + 1 + 1) = 0 := mtc_f hb2 ; omega
  rcases bo2 (chB e n (a + 1 + 1 + 1) 116) with hb3 | hb3
  · have q0 : mtc e n [98, 101, 115, 116] (a) = mtc e n [101, 115, 116] (a + 1) + 1 := mtc_t hb0 ; have q1 : mtc e n [101, 115, 116] (a + 1) = mtc e n [115, 116] (a + 1 + 1) + 1 := mtc_t hb1 ; have q2 : mtc e n [115, 116] (a + 1 + 1) = mtc e n [116] (a + 1 + 1 + 1) + 1 := mtc_t hb2 ; have q3 : mtc e n [116] (a + 1 + 1 + 1) = 0 := mtc_f hb3 ; omega
  exact ⟨hb0, hb1, hb2, hb3⟩
section SD
variable {im : Int32} {lf : Int32} {s : ab_q} {d : ab_q} {k : ab_q} {ls : List Int32} {rf : Int32} {rz : Int32} {ra : Int32} {rn : Int32} {rq : ab_q} {lt : List Int32} {m1 : Int32} {m2 : Int32} {m3 : Int32} {m4 : Int32} {bd : List Int32} {fc : List Int32} {hd : Nat → Int32} {sz : Nat → Int32} {el : Nat → List Int64} {t : ab_q} {g : Nat → Int32} {fm : List Int32} {hm : List Nat} {so : List Nat} {si : List Nat} {sh : List Int32} {ce : List Int64} {ca : List Int64} {td : List Int32} {wa : List Int32} {kp : List Int32} {la : List Int32} {bf : List Int32} {oo : List Int32} {bo : List Int32} {pw : List Int32} {ow : List Int32} {tr : List Int32}
set_option maxHeartbeats 400000 in
theorem m_dg1 {e : List Int64} {n a j : Nat} {x30 x31 : Int32} {q : ab_q} (hj : j < 8) (hn : n ≤ 160) (ha : a ≤ n) (l_ce : ce.length = 1280) (hce : ∀ p, p < 160 → e.getD p 0 = ce.getD (160 * j + p) 0) (h : dgB e n a = true) : Ev ab_Z0 1 159 [.ref 65] (ww im lf s d k ls rf rz ra rn rq lt m1 m2 m3 m4 bd fc hd sz el q (fUp (fUp (fUp (fUp (fUp (fUp g 27 (nI (160 * j))) 29 (nI n)) 6 (-1)) 28 (nI a)) 30 x30) 31 x31) fm hm so si sh ce ca td wa kp la bf oo bo pw ow tr) (some (.int (nI 1)), (ww im lf s d k ls rf rz ra rn rq lt m1 m2 m3 m4 bd fc hd sz el q (fUp (fUp (fUp (fUp (fUp (fUp g 27 (nI (160 * j))) 29 (nI n)) 6 (-1)) 28 (nI a)) 30 x30) 31 x31) fm hm so si sh ce ca td wa kp la bf oo bo pw ow tr)) := by
  have h2 := dgB_t h
  refine Ef.in (md := mX6_isDigit) (L := [some (.ref 65)]) rfl (Nat.le_of_ble_eq_true rfl) rfl ?_
  refine E_aload_n at_X6_isDigit_0 rfl ?_
  refine E_getfield (v := .int (nI a)) at_X6_isDigit_1 w65 rfl (by decide) rfl ?_
  refine E_aload_n at_X6_isDigit_4 rfl ?_
  refine E_getfield (v := .int (nI n)) at_X6_isDigit_5 w65 rfl (by decide) rfl ?_
  refine E_ic (t := 55) (b := false) at_X6_isDigit_8 rfl ((cn_ge (nI_toInt (by omega)) (nI_toInt (by omega))).trans (decide_eq_false (by omega))) ?_
  refine E_aload_n rfl rfl ?_
  refine E_getfield (v := .ref 80) rfl w65 rfl (by decide) rfl ?_
  refine E_aload_n rfl rfl ?_
  refine E_getfield (v := .int (nI (160 * j))) rfl w65 rfl (by decide) rfl ?_
  refine E_aload_n rfl rfl ?_
  refine E_getfield (v := .int (nI a)) rfl w65 rfl (by decide) rfl ?_
  refine E_iadd (z := nI ((160 * j) + a)) rfl (nI_add _ _) ?_
  refine E_lalL (l := ce) (v := ce.getD ((160 * j) + a) 0) rfl w80 (by omega) (by omega) rfl ?_
  refine E_l2i (z := tw e a) rfl (by unfold tw; rw [hce a (by omega)]) ?_
  refine E_bipush (x := nI 48) rfl (by decide) ?_
  refine E_ic (t := 55) (b := false) rfl rfl ((cn_lt rfl (nI_toInt (by omega))).trans (decide_eq_false (by omega))) ?_
  refine E_aload_n rfl rfl ?_
  refine E_getfield (v := .ref 80) rfl w65 rfl (by decide) rfl ?_
  refine E_aload_n rfl rfl ?_
  refine E_getfield (v := .int (nI (160 * j))) rfl w65 rfl (by decide) rfl ?_
  refine E_aload_n rfl rfl ?_
  refine E_getfield (v := .int (nI a)) rfl w65 rfl (by decide) rfl ?_
  refine E_iadd (z := nI ((160 * j) + a)) rfl (nI_add _ _) ?_
  refine E_lalL (l := ce) (v := ce.getD ((160 * j) + a) 0) rfl w80 (by omega) (by omega) rfl ?_
  refine E_l2i (z := tw e a) rfl (by unfold tw; rw [hce a (by omega)]) ?_
  refine E_bipush (x := nI 57) rfl (by decide) ?_
  refine E_ic (t := 55) (b := false) rfl rfl ((cn_gt rfl (nI_toInt (by omega))).trans (decide_eq_false (by omega))) ?_
  refine E_iconst (x := nI 1) rfl (by decide) ?_
  refine E_goto (t := 56) rfl rfl ?_
  exact E_iret at_X6_isDigit_56 rfl
set_option maxHeartbeats 400000 in
theorem m_dg0 {e : List Int64} {n a j : Nat} {x30 x31 : Int32} {q : ab_q} (hj : j < 8) (hn : n ≤ 160) (ha : a ≤ n) (l_ce : ce.length = 1280) (hce : ∀ p, p < 160 → e.getD p 0 = ce.getD (160 * j + p) 0) (h : dgB e n a = false) : Ev ab_Z0 1 159 [.ref 65] (ww im lf s d k ls rf rz ra rn rq lt m1 m2 m3 m4 bd fc hd sz el q (fUp (fUp (fUp (fUp (fUp (fUp g 27 (nI (160 * j))) 29 (nI n)) 6 (-1)) 28 (nI a)) 30 x30) 31 x31) fm hm so si sh ce ca td wa kp la bf oo bo pw ow tr) (some (.int (nI 0)), (ww im lf s d k ls rf rz ra rn rq lt m1 m2 m3 m4 bd fc hd sz el q (fUp (fUp (fUp (fUp (fUp (fUp g 27 (nI (160 * j))) 29 (nI n)) 6 (-1)) 28 (nI a)) 30 x30) 31 x31) fm hm so si sh ce ca td wa kp la bf oo bo pw ow tr)) := by
  rcases dgB_f h with h3 | ⟨h3, h3 | h3⟩
  · refine Ef.in (md := mX6_isDigit) (L := [some (.ref 65)]) rfl (Nat.le_of_ble_eq_true rfl) rfl ?_
    refine E_aload_n at_X6_isDigit_0 rfl ?_
    refine E_getfield (v := .int (nI a)) at_X6_isDigit_1 w65 rfl (by decide) rfl ?_
    refine E_aload_n at_X6_isDigit_4 rfl ?_
    refine E_getfield (v := .int (nI n)) at_X6_isDigit_5 w65 rfl (by decide) rfl ?_
    refine E_ic (t := 55) (b := true) at_X6_isDigit_8 rfl ((cn_ge (nI_toInt (by omega)) (nI_toInt (by omega))).trans (decide_eq_true (by omega))) ?_
    refine E_iconst (x := nI 0) rfl (by decide) ?_
    exact E_iret at_X6_isDigit_56 rfl
  · refine Ef.in (md := mX6_isDigit) (L := [some (.ref 65)]) rfl (Nat.le_of_ble_eq_true rfl) rfl ?_
    refine E_aload_n at_X6_isDigit_0 rfl ?_
    refine E_getfield (v := .int (nI a)) at_X6_isDigit_1 w65 rfl (by decide) rfl ?_
    refine E_aload_n at_X6_isDigit_4 rfl ?_
    refine E_getfield (v := .int (nI n)) at_X6_isDigit_5 w65 rfl (by decide) rfl ?_
    refine E_ic (t := 55) (b := false) at_X6_isDigit_8 rfl ((cn_ge (nI_toInt (by omega)) (nI_toInt (by omega))).trans (decide_eq_false (by omega))) ?_
    refine E_aload_n rfl rfl ?_
    refine E_getfield (v := .ref 80) rfl w65 rfl (by decide) rfl ?_
    refine E_aload_n rfl rfl ?_
    refine E_getfield (v := .int (nI (160 * j))) rfl w65 rfl (by decide) rfl ?_
    refine E_aload_n rfl rfl ?_
    refine E_getfield (v := .int (nI a)) rfl w65 rfl (by decide) rfl ?_
    refine E_iadd (z := nI ((160 * j) + a)) rfl (nI_add _ _) ?_
    refine E_lalL (l := ce) (v := ce.getD ((160 * j) + a) 0) rfl w80 (by omega) (by omega) rfl ?_
    refine E_l2i (z := tw e a) rfl (by unfold tw; rw [hce a (by omega)]) ?_
    refine E_bipush (x := nI 48) rfl (by decide) ?_
    refine E_ic (t := 55) (b := true) rfl rfl ((cn_lt rfl (nI_toInt (by omega))).trans (decide_eq_true (by omega))) ?_
    refine E_iconst (x := nI 0) rfl (by decide) ?_
    exact E_iret at_X6_isDigit_56 rfl
  · refine Ef.in (md := mX6_isDigit) (L := [some (.ref 65)]) rfl (Nat.le_of_ble_eq_true rfl) rfl ?_
    refine E_aload_n at_X6_isDigit_0 rfl ?_
    refine E_getfield (v := .int (nI a)) at_X6_isDigit_1 w65 rfl (by decide) rfl ?_
    refine E_aload_n at_X6_isDigit_4 rfl ?_
    refine E_getfield (v := .int (nI n)) at_X6_isDigit_5 w65 rfl (by decide) rfl ?_
    refine E_ic (t := 55) (b := false) at_X6_isDigit_8 rfl ((cn_ge (nI_toInt (by omega)) (nI_toInt (by omega))).trans (decide_eq_false (by omega))) ?_
    refine E_aload_n rfl rfl ?_
    refine E_getfield (v := .ref 80) rfl w65 rfl (by decide) rfl ?_
    refine E_aload_n rfl rfl ?_
    refine E_getfield (v := .int (nI (160 * j))) rfl w65 rfl (by decide) rfl ?_
    refine E_aload_n rfl rfl ?_
    refine E_getfield (v := .int (nI a)) rfl w65 rfl (by decide) rfl ?_
    refine E_iadd (z := nI ((160 * j) + a)) rfl (nI_add _ _) ?_
    refine E_lalL (l := ce) (v := ce.getD ((160 * j) + a) 0) rfl w80 (by omega) (by omega) rfl ?_
    refine E_l2i (z := tw e a) rfl (by unfold tw; rw [hce a (by omega)]) ?_
    refine E_bipush (x := nI 48) rfl (by decide) ?_
    refine E_ic (t := 55) (b := false) rfl rfl ((cn_lt rfl (nI_toInt (by omega))).trans (decide_eq_false (by omega))) ?_
    refine E_aload_n rfl rfl ?_
    refine E_getfield (v := .ref 80) rfl w65 rfl (by decide) rfl ?_
    refine E_aload_n rfl rfl ?_
    refine E_getfield (v := .int (nI (160 * j))) rfl w65 rfl (by decide) rfl ?_
    refine E_aload_n rfl rfl ?_
    refine E_getfield (v := .int (nI a)) rfl w65 rfl (by decide) rfl ?_
    refine E_iadd (z := nI ((160 * j) + a)) rfl (nI_add _ _) ?_
    refine E_lalL (l := ce) (v := ce.getD ((160 * j) + a) 0) rfl w80 (by omega) (by omega) rfl ?_
    refine E_l2i (z := tw e a) rfl (by unfold tw; rw [hce a (by omega)]) ?_
    refine E_bipush (x := nI 57) rfl (by decide) ?_
    refine E_ic (t := 55) (b := true) rfl rfl ((cn_gt rfl (nI_toInt (by omega))).trans (decide_eq_true (by omega))) ?_
    refine E_iconst (x := nI 0) rfl (by decide) ?_
    exact E_iret at_X6_isDigit_56 rfl
set_option maxHeartbeats 400000 in
theorem m_rd0 {e : List Int64} {n a j : Nat} {x30 x31 : Int32} {q : ab_q} (hj : j < 8) (hn : n ≤ 160) (ha : a ≤ n) (l_ce : ce.length = 1280) (hce : ∀ p, p < 160 → e.getD p 0 = ce.getD (160 * j + p) 0) (h : dgB e n a = false) : Ev ab_Z0 2 160 [.ref 65] (ww im lf s d k ls rf rz ra rn rq lt m1 m2 m3 m4 bd fc hd sz el q (fUp (fUp (fUp (fUp (fUp (fUp g 27 (nI (160 * j))) 29 (nI n)) 6 (-1)) 28 (nI a)) 30 x30) 31 x31) fm hm so si sh ce ca td wa kp la bf oo bo pw ow tr) (some (.int (nI 0)), (ww im lf s d k ls rf rz ra rn rq lt m1 m2 m3 m4 bd fc hd sz el q (fUp (fUp (fUp (fUp (fUp (fUp g 27 (nI (160 * j))) 29 (nI n)) 6 (-1)) 28 (nI a)) 30 (nI 0)) 31 (nI a)) fm hm so si sh ce ca td wa kp la bf oo bo pw ow tr)) := by
  refine Ef.in (md := mX6_reads) (L := [some (.ref 65), none]) rfl (Nat.le_of_ble_eq_true rfl) rfl ?_
  refine E_aload_n rfl rfl ?_
  refine E_iconst (x := nI 0) rfl (by decide) ?_
  refine E_putfield (cs2 := (ww im lf s d k ls rf rz ra rn rq lt m1 m2 m3 m4 bd fc hd sz el q (fUp (fUp (fUp (fUp (fUp (fUp g 27 (nI (160 * j))) 29 (nI n)) 6 (-1)) 28 (nI a)) 30 (nI 0)) 31 x31) fm hm so si sh ce ca td wa kp la bf oo bo pw ow tr)) rfl w65 rfl (by decide) (Nat.le_of_ble_eq_true rfl) rfl rfl rfl (w_pt65_30.trans (by rw [gn30])) ?_
  refine E_aload_n rfl rfl ?_
  refine E_callV (v := some (.int (nI 0))) (As := [.ref 65]) (r0 := []) (cs2 := (ww im lf s d k ls rf rz ra rn rq lt m1 m2 m3 m4 bd fc hd sz el q (fUp (fUp (fUp (fUp (fUp (fUp g 27 (nI (160 * j))) 29 (nI n)) 6 (-1)) 28 (nI a)) 30 (nI 0)) 31 x31) fm hm so si sh ce ca td wa kp la bf oo bo pw ow tr)) rfl rfl rfl (Nat.le_of_ble_eq_true rfl) rfl (ab_rvOf w65 rfl) (m_dg0 hj hn ha l_ce hce h) (by decide) rfl ?_
  refine E_if (t := 21) (b := false) rfl rfl (by decide) ?_
  refine E_aload_n rfl rfl ?_
  refine E_aload_n rfl rfl ?_
  refine E_getfield (v := .int (nI a)) rfl w65 rfl (by decide) rfl ?_
  have e1 : Ev ab_Z0 1 156 [.ref 65, .int (nI a)] (ww im lf s d k ls rf rz ra rn rq lt m1 m2 m3 m4 bd fc hd sz el q (fUp (fUp (fUp (fUp (fUp (fUp g 27 (nI (160 * j))) 29 (nI n)) 6 (-1)) 28 (nI a)) 30 (nI 0)) 31 x31) fm hm so si sh ce ca td wa kp la bf oo bo pw ow tr) (some (.int (nI 0)), (ww im lf s d k ls rf rz ra rn rq lt m1 m2 m3 m4 bd fc hd sz el q (fUp (fUp (fUp (fUp (fUp (fUp g 27 (nI (160 * j))) 29 (nI n)) 6 (-1)) 28 (nI a)) 30 (nI 0)) 31 (nI a)) fm hm so si sh ce ca td wa kp la bf oo bo pw ow tr)) := by
    refine Ef.in (md := mX6_wrong) (L := [some (.ref 65), some (.int (nI a))]) rfl (Nat.le_of_ble_eq_true rfl) rfl ?_
    refine E_aload_n at_X6_wrong_0 rfl ?_
    refine E_iload_n at_X6_wrong_1 rfl ?_
    refine E_putfield (cs2 := (ww im lf s d k ls rf rz ra rn rq lt m1 m2 m3 m4 bd fc hd sz el q (fUp (fUp (fUp (fUp (fUp (fUp g 27 (nI (160 * j))) 29 (nI n)) 6 (-1)) 28 (nI a)) 30 (nI 0)) 31 (nI a)) fm hm so si sh ce ca td wa kp la bf oo bo pw ow tr)) at_X6_wrong_2 w65 rfl (by decide) (Nat.le_of_ble_eq_true rfl) rfl rfl rfl (w_pt65_31.trans (by rw [gn31])) ?_
    refine E_iconst (x := nI 0) at_X6_wrong_5 (by decide) ?_
    exact E_iret at_X6_wrong_6 rfl
  refine E_callV (v := some (.int (nI 0))) (As := [.ref 65, .int (nI a)]) (r0 := []) (cs2 := (ww im lf s d k ls rf rz ra rn rq lt m1 m2 m3 m4 bd fc hd sz el q (fUp (fUp (fUp (fUp (fUp (fUp g 27 (nI (160 * j))) 29 (nI n)) 6 (-1)) 28 (nI a)) 30 (nI 0)) 31 (nI a)) fm hm so si sh ce ca td wa kp la bf oo bo pw ow tr)) rfl rfl rfl (Nat.le_of_ble_eq_true rfl) rfl (ab_rvOf w65 rfl) e1 (by decide) w_lens ?_
  exact E_iret rfl rfl
set_option maxHeartbeats 1000000 in
theorem m_rd1 {e : List Int64} {n a j : Nat} {x30 x31 : Int32} {q : ab_q} (hj : j < 8) (hn : n ≤ 160) (ha : a ≤ n) (l_ce : ce.length = 1280) (hce : ∀ p, p < 160 → e.getD p 0 = ce.getD (160 * j + p) 0) (h : dgB e n a = true) : Ev ab_Z0 2 160 [.ref 65] (ww im lf s d k ls rf rz ra rn rq lt m1 m2 m3 m4 bd fc hd sz el q (fUp (fUp (fUp (fUp (fUp (fUp g 27 (nI (160 * j))) 29 (nI n)) 6 (-1)) 28 (nI a)) 30 x30) 31 x31) fm hm so si sh ce ca td wa kp la bf oo bo pw ow tr) (some (.int (nI 1)), (ww im lf s d k ls rf rz ra rn rq lt m1 m2 m3 m4 bd fc hd sz el q (fUp (fUp (fUp (fUp (fUp (fUp g 27 (nI (160 * j))) 29 (nI n)) 6 (-1)) 28 (nI (nuE e n a))) 30 (nI (nuV e n a))) 31 x31) fm hm so si sh ce ca td wa kp la bf oo bo pw ow tr)) := by
  have ha0 := (dgB_t h).1
  rcases bo2 (dgB e n (a + 1)) with hd2 | hd2
  · have hvh := (dv_eq h).2.1
    have hV0 : nuV e n a = dv e a := if_neg (by rw [hd2]; decide)
    have hE0 : nuE e n a = a + 1 := if_neg (by rw [hd2]; decide)
    have hV : nuV e n a = (0 + (dv e a + 48)) - 48 := by omega
    have hE : nuE e n a = a + 1 := by omega
    rw [hV, hE]
    refine Ef.in (md := mX6_reads) (L := [some (.ref 65), none]) rfl (Nat.le_of_ble_eq_true rfl) rfl ?_
    refine E_aload_n rfl rfl ?_
    refine E_iconst (x := nI 0) rfl (by decide) ?_
    refine E_putfield (cs2 := (ww im lf s d k ls rf rz ra rn rq lt m1 m2 m3 m4 bd fc hd sz el q (fUp (fUp (fUp (fUp (fUp (fUp g 27 (nI (160 * j))) 29 (nI n)) 6 (-1)) 28 (nI a)) 30 (nI 0)) 31 x31) fm hm so si sh ce ca td wa kp la bf oo bo pw ow tr)) rfl w65 rfl (by decide) (Nat.le_of_ble_eq_true rfl) rfl rfl rfl (w_pt65_30.trans (by rw [gn30])) ?_
    refine E_aload_n rfl rfl ?_
    refine E_callV (v := some (.int (nI 1))) (As := [.ref 65]) (r0 := []) (cs2 := (ww im lf s d k ls rf rz ra rn rq lt m1 m2 m3 m4 bd fc hd sz el q (fUp (fUp (fUp (fUp (fUp (fUp g 27 (nI (160 * j))) 29 (nI n)) 6 (-1)) 28 (nI a)) 30 (nI 0)) 31 x31) fm hm so si sh ce ca td wa kp la bf oo bo pw ow tr)) rfl rfl rfl (Nat.le_of_ble_eq_true rfl) rfl (ab_rvOf w65 rfl) (m_dg1 hj hn ha l_ce hce h) (by decide) rfl ?_
    refine E_if (t := 21) (b := true) rfl rfl (by decide) ?_
    refine E_iconst (x := nI 0) rfl (by decide) ?_
    refine E_istore_n (L2 := [some (.ref 65), some (.int (nI 0))]) rfl rfl ?_
    refine E_iload_n at_X6_reads_23 rfl ?_
    refine E_iconst (x := nI 2) at_X6_reads_24 (by decide) ?_
    refine E_ic (t := 81) (b := false) at_X6_reads_25 rfl (by decide) ?_
    refine E_aload_n at_X6_reads_28 rfl ?_
    refine E_callV (v := some (.int (nI 1))) (As := [.ref 65]) (r0 := []) (cs2 := (ww im lf s d k ls rf rz ra rn rq lt m1 m2 m3 m4 bd fc hd sz el q (fUp (fUp (fUp (fUp (fUp (fUp g 27 (nI (160 * j))) 29 (nI n)) 6 (-1)) 28 (nI a)) 30 (nI 0)) 31 x31) fm hm so si sh ce ca td wa kp la bf oo bo pw ow tr)) at_X6_reads_29 rfl rfl (Nat.le_of_ble_eq_true rfl) rfl (ab_rvOf w65 rfl) (m_dg1 hj hn ha l_ce hce h) (by decide) rfl ?_
    refine E_if (t := 81) (b := false) at_X6_reads_32 rfl (by decide) ?_
    refine E_aload_n rfl rfl ?_
    refine E_bipush (x := nI 10) rfl (by decide) ?_
    refine E_aload_n rfl rfl ?_
    refine E_getfield (v := .int (nI 0)) rfl w65 rfl (by decide) rfl ?_
    refine E_imul (z := nI 0) rfl (by decide) ?_
    refine E_aload_n rfl rfl ?_
    refine E_getfield (v := .ref 80) rfl w65 rfl (by decide) rfl ?_
    refine E_aload_n rfl rfl ?_
    refine E_getfield (v := .int (nI (160 * j))) rfl w65 rfl (by decide) rfl ?_
    refine E_aload_n rfl rfl ?_
    refine E_getfield (v := .int (nI a)) rfl w65 rfl (by decide) rfl ?_
    refine E_iadd (z := nI ((160 * j) + a)) rfl (nI_add _ _) ?_
    refine E_lalL (l := ce) (v := ce.getD ((160 * j) + a) 0) rfl w80 (by omega) (by omega) rfl ?_
    refine E_l2i (z := nI (dv e a + 48)) rfl (by rw [← (dv_eq h).2.2]; unfold tw; rw [hce a (by omega)]) ?_
    refine E_iadd (z := nI (0 + (dv e a + 48))) rfl (nI_add _ _) ?_
    refine E_bipush (x := nI 48) rfl (by decide) ?_
    refine E_isub (z := nI ((0 + (dv e a + 48)) - 48)) rfl (pk_sub (by omega)) ?_
    refine E_putfield (cs2 := (ww im lf s d k ls rf rz ra rn rq lt m1 m2 m3 m4 bd fc hd sz el q (fUp (fUp (fUp (fUp (fUp (fUp g 27 (nI (160 * j))) 29 (nI n)) 6 (-1)) 28 (nI a)) 30 (nI ((0 + (dv e a + 48)) - 48))) 31 x31) fm hm so si sh ce ca td wa kp la bf oo bo pw ow tr)) rfl w65 rfl (by decide) (Nat.le_of_ble_eq_true rfl) rfl rfl rfl (w_pt65_30.trans (by rw [gn30])) ?_
    refine E_aload_n rfl rfl ?_
    refine E_dup rfl rfl ?_
    refine E_getfield (v := .int (nI a)) rfl w65 rfl (by decide) rfl ?_
    refine E_iconst (x := nI 1) rfl (by decide) ?_
    refine E_iadd (z := nI (a + 1)) rfl (nI_add _ _) ?_
    refine E_putfield (cs2 := (ww im lf s d k ls rf rz ra rn rq lt m1 m2 m3 m4 bd fc hd sz el q (fUp (fUp (fUp (fUp (fUp (fUp g 27 (nI (160 * j))) 29 (nI n)) 6 (-1)) 28 (nI (a + 1))) 30 (nI ((0 + (dv e a + 48)) - 48))) 31 x31) fm hm so si sh ce ca td wa kp la bf oo bo pw ow tr)) rfl w65 rfl (by decide) (Nat.le_of_ble_eq_true rfl) rfl rfl rfl (w_pt65_28.trans (by rw [gn28])) ?_
    refine E_iinc (y := nI 1) (L2 := [some (.ref 65), some (.int (nI 1))]) rfl rfl (by decide) rfl ?_
    refine E_goto (t := 23) rfl rfl ?_
    refine E_iload_n at_X6_reads_23 rfl ?_
    refine E_iconst (x := nI 2) at_X6_reads_24 (by decide) ?_
    refine E_ic (t := 81) (b := false) at_X6_reads_25 rfl (by decide) ?_
    refine E_aload_n at_X6_reads_28 rfl ?_
    refine E_callV (v := some (.int (nI 0))) (As := [.ref 65]) (r0 := []) (cs2 := (ww im lf s d k ls rf rz ra rn rq lt m1 m2 m3 m4 bd fc hd sz el q (fUp (fUp (fUp (fUp (fUp (fUp g 27 (nI (160 * j))) 29 (nI n)) 6 (-1)) 28 (nI (a + 1))) 30 (nI ((0 + (dv e a + 48)) - 48))) 31 x31) fm hm so si sh ce ca td wa kp la bf oo bo pw ow tr)) at_X6_reads_29 rfl rfl (Nat.le_of_ble_eq_true rfl) rfl (ab_rvOf w65 rfl) (m_dg0 hj hn (by omega) l_ce hce hd2) (by decide) rfl ?_
    refine E_if (t := 81) (b := true) at_X6_reads_32 rfl (by decide) ?_
    refine E_iconst (x := nI 1) rfl (by decide) ?_
    exact E_iret rfl rfl
  · have hvh := (dv_eq h).2.1
    have hd3 := (dgB_t hd2).1
    have hvhd2 := (dv_eq hd2).2.1
    have hV0 : nuV e n a = dv e a * 10 + dv e (a + 1) := if_pos hd2
    have hE0 : nuE e n a = a + 2 := if_pos hd2
    have hV : nuV e n a = ((10 * ((0 + (dv e a + 48)) - 48)) + (dv e (a + 1) + 48)) - 48 := by omega
    have hE : nuE e n a = (a + 1) + 1 := by omega
    rw [hV, hE]
    refine Ef.in (md := mX6_reads) (L := [some (.ref 65), none]) rfl (Nat.le_of_ble_eq_true rfl) rfl ?_
    refine E_aload_n rfl rfl ?_
    refine E_iconst (x := nI 0) rfl (by decide) ?_
    refine E_putfield (cs2 := (ww im lf s d k ls rf rz ra rn rq lt m1 m2 m3 m4 bd fc hd sz el q (fUp (fUp (fUp (fUp (fUp (fUp g 27 (nI (160 * j))) 29 (nI n)) 6 (-1)) 28 (nI a)) 30 (nI 0)) 31 x31) fm hm so si sh ce ca td wa kp la bf oo bo pw ow tr)) rfl w65 rfl (by decide) (Nat.le_of_ble_eq_true rfl) rfl rfl rfl (w_pt65_30.trans (by rw [gn30])) ?_
    refine E_aload_n rfl rfl ?_
    refine E_callV (v := some (.int (nI 1))) (As := [.ref 65]) (r0 := []) (cs2 := (ww im lf s d k ls rf rz ra rn rq lt m1 m2 m3 m4 bd fc hd sz el q (fUp (fUp (fUp (fUp (fUp (fUp g 27 (nI (160 * j))) 29 (nI n)) 6 (-1)) 28 (nI a)) 30 (nI 0)) 31 x31) fm hm so si sh ce ca td wa kp la bf oo bo pw ow tr)) rfl rfl rfl (Nat.le_of_ble_eq_true rfl) rfl (ab_rvOf w65 rfl) (m_dg1 hj hn ha l_ce hce h) (by decide) rfl ?_
    refine E_if (t := 21) (b := true) rfl rfl (by decide) ?_
    refine E_iconst (x := nI 0) rfl (by decide) ?_
    refine E_istore_n (L2 := [some (.ref 65), some (.int (nI 0))]) rfl rfl ?_
    refine E_iload_n at_X6_reads_23 rfl ?_
    refine E_iconst (x := nI 2) at_X6_reads_24 (by decide) ?_
    refine E_ic (t := 81) (b := false) at_X6_reads_25 rfl (by decide) ?_
    refine E_aload_n at_X6_reads_28 rfl ?_
    refine E_callV (v := some (.int (nI 1))) (As := [.ref 65]) (r0 := []) (cs2 := (ww im lf s d k ls rf rz ra rn rq lt m1 m2 m3 m4 bd fc hd sz el q (fUp (fUp (fUp (fUp (fUp (fUp g 27 (nI (160 * j))) 29 (nI n)) 6 (-1)) 28 (nI a)) 30 (nI 0)) 31 x31) fm hm so si sh ce ca td wa kp la bf oo bo pw ow tr)) at_X6_reads_29 rfl rfl (Nat.le_of_ble_eq_true rfl) rfl (ab_rvOf w65 rfl) (m_dg1 hj hn ha l_ce hce h) (by decide) rfl ?_
    refine E_if (t := 81) (b := false) at_X6_reads_32 rfl (by decide) ?_
    refine E_aload_n rfl rfl ?_
    refine E_bipush (x := nI 10) rfl (by decide) ?_
    refine E_aload_n rfl rfl ?_
    refine E_getfield (v := .int (nI 0)) rfl w65 rfl (by decide) rfl ?_
    refine E_imul (z := nI 0) rfl (by decide) ?_
    refine E_aload_n rfl rfl ?_
    refine E_getfield (v := .ref 80) rfl w65 rfl (by decide) rfl ?_
    refine E_aload_n rfl rfl ?_
    refine E_getfield (v := .int (nI (160 * j))) rfl w65 rfl (by decide) rfl ?_
    refine E_aload_n rfl rfl ?_
    refine E_getfield (v := .int (nI a)) rfl w65 rfl (by decide) rfl ?_
    refine E_iadd (z := nI ((160 * j) + a)) rfl (nI_add _ _) ?_
    refine E_lalL (l := ce) (v := ce.getD ((160 * j) + a) 0) rfl w80 (by omega) (by omega) rfl ?_
    refine E_l2i (z := nI (dv e a + 48)) rfl (by rw [← (dv_eq h).2.2]; unfold tw; rw [hce a (by omega)]) ?_
    refine E_iadd (z := nI (0 + (dv e a + 48))) rfl (nI_add _ _) ?_
    refine E_bipush (x := nI 48) rfl (by decide) ?_
    refine E_isub (z := nI ((0 + (dv e a + 48)) - 48)) rfl (pk_sub (by omega)) ?_
    refine E_putfield (cs2 := (ww im lf s d k ls rf rz ra rn rq lt m1 m2 m3 m4 bd fc hd sz el q (fUp (fUp (fUp (fUp (fUp (fUp g 27 (nI (160 * j))) 29 (nI n)) 6 (-1)) 28 (nI a)) 30 (nI ((0 + (dv e a + 48)) - 48))) 31 x31) fm hm so si sh ce ca td wa kp la bf oo bo pw ow tr)) rfl w65 rfl (by decide) (Nat.le_of_ble_eq_true rfl) rfl rfl rfl (w_pt65_30.trans (by rw [gn30])) ?_
    refine E_aload_n rfl rfl ?_
    refine E_dup rfl rfl ?_
    refine E_getfield (v := .int (nI a)) rfl w65 rfl (by decide) rfl ?_
    refine E_iconst (x := nI 1) rfl (by decide) ?_
    refine E_iadd (z := nI (a + 1)) rfl (nI_add _ _) ?_
    refine E_putfield (cs2 := (ww im lf s d k ls rf rz ra rn rq lt m1 m2 m3 m4 bd fc hd sz el q (fUp (fUp (fUp (fUp (fUp (fUp g 27 (nI (160 * j))) 29 (nI n)) 6 (-1)) 28 (nI (a + 1))) 30 (nI ((0 + (dv e a + 48)) - 48))) 31 x31) fm hm so si sh ce ca td wa kp la bf oo bo pw ow tr)) rfl w65 rfl (by decide) (Nat.le_of_ble_eq_true rfl) rfl rfl rfl (w_pt65_28.trans (by rw [gn28])) ?_
    refine E_iinc (y := nI 1) (L2 := [some (.ref 65), some (.int (nI 1))]) rfl rfl (by decide) rfl ?_
    refine E_goto (t := 23) rfl rfl ?_
    refine E_iload_n at_X6_reads_23 rfl ?_
    refine E_iconst (x := nI 2) at_X6_reads_24 (by decide) ?_
    refine E_ic (t := 81) (b := false) at_X6_reads_25 rfl (by decide) ?_
    refine E_aload_n at_X6_reads_28 rfl ?_
    refine E_callV (v := some (.int (nI 1))) (As := [.ref 65]) (r0 := []) (cs2 := (ww im lf s d k ls rf rz ra rn rq lt m1 m2 m3 m4 bd fc hd sz el q (fUp (fUp (fUp (fUp (fUp (fUp g 27 (nI (160 * j))) 29 (nI n)) 6 (-1)) 28 (nI (a + 1))) 30 (nI ((0 + (dv e a + 48)) - 48))) 31 x31) fm hm so si sh ce ca td wa kp la bf oo bo pw ow tr)) at_X6_reads_29 rfl rfl (Nat.le_of_ble_eq_true rfl) rfl (ab_rvOf w65 rfl) (m_dg1 hj hn (by omega) l_ce hce hd2) (by decide) rfl ?_
    refine E_if (t := 81) (b := false) at_X6_reads_32 rfl (by decide) ?_
    refine E_aload_n rfl rfl ?_
    refine E_bipush (x := nI 10) rfl (by decide) ?_
    refine E_aload_n rfl rfl ?_
    refine E_getfield (v := .int (nI ((0 + (dv e a + 48)) - 48))) rfl w65 rfl (by decide) rfl ?_
    refine E_imul (z := nI (10 * ((0 + (dv e a + 48)) - 48))) rfl (pk_mul _ _) ?_
    refine E_aload_n rfl rfl ?_
    refine E_getfield (v := .ref 80) rfl w65 rfl (by decide) rfl ?_
    refine E_aload_n rfl rfl ?_
    refine E_getfield (v := .int (nI (160 * j))) rfl w65 rfl (by decide) rfl ?_
    refine E_aload_n rfl rfl ?_
    refine E_getfield (v := .int (nI (a + 1))) rfl w65 rfl (by decide) rfl ?_
    refine E_iadd (z := nI ((160 * j) + (a + 1))) rfl (nI_add _ _) ?_
    refine E_lalL (l := ce) (v := ce.getD ((160 * j) + (a + 1)) 0) rfl w80 (by omega) (by omega) rfl ?_
    refine E_l2i (z := nI (dv e (a + 1) + 48)) rfl (by rw [← (dv_eq hd2).2.2]; unfold tw; rw [hce (a + 1) (by omega)]) ?_
    refine E_iadd (z := nI ((10 * ((0 + (dv e a + 48)) - 48)) + (dv e (a + 1) + 48))) rfl (nI_add _ _) ?_
    refine E_bipush (x := nI 48) rfl (by decide) ?_
    refine E_isub (z := nI (((10 * ((0 + (dv e a + 48)) - 48)) + (dv e (a + 1) + 48)) - 48)) rfl (pk_sub (by omega)) ?_
    refine E_putfield (cs2 := (ww im lf s d k ls rf rz ra rn rq lt m1 m2 m3 m4 bd fc hd sz el q (fUp (fUp (fUp (fUp (fUp (fUp g 27 (nI (160 * j))) 29 (nI n)) 6 (-1)) 28 (nI (a + 1))) 30 (nI (((10 * ((0 + (dv e a + 48)) - 48)) + (dv e (a + 1) + 48)) - 48))) 31 x31) fm hm so si sh ce ca td wa kp la bf oo bo pw ow tr)) rfl w65 rfl (by decide) (Nat.le_of_ble_eq_true rfl) rfl rfl rfl (w_pt65_30.trans (by rw [gn30])) ?_
    refine E_aload_n rfl rfl ?_
    refine E_dup rfl rfl ?_
    refine E_getfield (v := .int (nI (a + 1))) rfl w65 rfl (by decide) rfl ?_
    refine E_iconst (x := nI 1) rfl (by decide) ?_
    refine E_iadd (z := nI ((a + 1) + 1)) rfl (nI_add _ _) ?_
    refine E_putfield (cs2 := (ww im lf s d k ls rf rz ra rn rq lt m1 m2 m3 m4 bd fc hd sz el q (fUp (fUp (fUp (fUp (fUp (fUp g 27 (nI (160 * j))) 29 (nI n)) 6 (-1)) 28 (nI ((a + 1) + 1))) 30 (nI (((10 * ((0 + (dv e a + 48)) - 48)) + (dv e (a + 1) + 48)) - 48))) 31 x31) fm hm so si sh ce ca td wa kp la bf oo bo pw ow tr)) rfl w65 rfl (by decide) (Nat.le_of_ble_eq_true rfl) rfl rfl rfl (w_pt65_28.trans (by rw [gn28])) ?_
    refine E_iinc (y := nI 2) (L2 := [some (.ref 65), some (.int (nI 2))]) rfl rfl (by decide) rfl ?_
    refine E_goto (t := 23) rfl rfl ?_
    refine E_iload_n at_X6_reads_23 rfl ?_
    refine E_iconst (x := nI 2) at_X6_reads_24 (by decide) ?_
    refine E_ic (t := 81) (b := true) at_X6_reads_25 rfl (by decide) ?_
    refine E_iconst (x := nI 1) rfl (by decide) ?_
    exact E_iret rfl rfl
set_option maxHeartbeats 1000000 in
theorem mw_s1 {e : List Int64} {n a j x pos ch : Nat} {x30 x31 u1 u2 u3 : Int32} {q : ab_q} (hj : j < 8) (hn : n ≤ 160) (hx : x < 2000) (l_ce : ce.length = 1280) (hce : ∀ p, p < 160 → e.getD p 0 = ce.getD (160 * j + p) 0) (hp : pos < 43) (hch : ([112, 105, 101, 99, 101, 32, 0, 112, 101, 114, 115, 111, 110, 32, 0, 99, 111, 115, 116, 32, 0, 104, 97, 115, 32, 0, 98, 97, 99, 107, 32, 0, 103, 114, 101, 101, 100, 121, 0, 98, 101, 115, 116, 0] : List Nat).getD pos 0 = ch) (hc : 0 < ch) (hc2 : ch < 1000) (h : chB e n x ch = true) {r : Option Value × List ab_C} (K : Ef ab_Z0 0 mX6_word (24, [some (.ref 65), some (.int u1), some (.int u2), some (.int u3), some (.int (nI (x + 1))), some (.int (nI (pos + 1)))], [], (ww im lf s d k ls rf rz ra rn rq lt m1 m2 m3 m4 bd fc hd sz el q (fUp (fUp (fUp (fUp (fUp (fUp g 27 (nI (160 * j))) 29 (nI n)) 6 (-1)) 28 (nI a)) 30 x30) 31 x31) fm hm so si sh ce ca td wa kp la bf oo bo pw ow tr)) r) : Ef ab_Z0 0 mX6_word (24, [some (.ref 65), some (.int u1), some (.int u2), some (.int u3), some (.int (nI x)), some (.int (nI pos))], [], (ww im lf s d k ls rf rz ra rn rq lt m1 m2 m3 m4 bd fc hd sz el q (fUp (fUp (fUp (fUp (fUp (fUp g 27 (nI (160 * j))) 29 (nI n)) 6 (-1)) 28 (nI a)) 30 x30) 31 x31) fm hm so si sh ce ca td wa kp la bf oo bo pw ow tr)) r := by
  have h2 := chB_t h
  have : ([112, 105, 101, 99, 101, 32, 0, 112, 101, 114, 115, 111, 110, 32, 0, 99, 111, 115, 116, 32, 0, 104, 97, 115, 32, 0, 98, 97, 99, 107, 32, 0, 103, 114, 101, 101, 100, 121, 0, 98, 101, 115, 116, 0] : List Nat).length = 44 := rfl
  refine E_aload_n at_X6_word_24 rfl ?_
  refine E_getfield (v := .ref 82) at_X6_word_25 w65 rfl (by decide) rfl ?_
  refine E_iload at_X6_word_28 rfl ?_
  refine E_ialN (l := [112, 105, 101, 99, 101, 32, 0, 112, 101, 114, 115, 111, 110, 32, 0, 99, 111, 115, 116, 32, 0, 104, 97, 115, 32, 0, 98, 97, 99, 107, 32, 0, 103, 114, 101, 101, 100, 121, 0, 98, 101, 115, 116, 0]) (v := ch) at_X6_word_30 w82 (by omega) (by omega) hch ?_
  refine E_if (t := 75) (b := false) at_X6_word_31 rfl ((cn_eq (nI_toInt (by omega)) (by decide : (0 : Int32).toInt = 0)).trans (decide_eq_false (by omega))) ?_
  refine E_iload rfl rfl ?_
  refine E_aload_n rfl rfl ?_
  refine E_getfield (v := .int (nI n)) rfl w65 rfl (by decide) rfl ?_
  refine E_ic (t := 75) (b := false) rfl rfl ((cn_ge (nI_toInt (by omega)) (nI_toInt (by omega))).trans (decide_eq_false (by omega))) ?_
  refine E_aload_n rfl rfl ?_
  refine E_getfield (v := .ref 80) rfl w65 rfl (by decide) rfl ?_
  refine E_aload_n rfl rfl ?_
  refine E_getfield (v := .int (nI (160 * j))) rfl w65 rfl (by decide) rfl ?_
  refine E_iload rfl rfl ?_
  refine E_iadd (z := nI ((160 * j) + x)) rfl (nI_add _ _) ?_
  refine E_lalL (l := ce) (v := ce.getD ((160 * j) + x) 0) rfl w80 (by omega) (by omega) rfl ?_
  refine E_l2i (z := tw e x) rfl (by unfold tw; rw [hce x (by omega)]) ?_
  refine E_aload_n rfl rfl ?_
  refine E_getfield (v := .ref 82) rfl w65 rfl (by decide) rfl ?_
  refine E_iload rfl rfl ?_
  refine E_ialN (l := [112, 105, 101, 99, 101, 32, 0, 112, 101, 114, 115, 111, 110, 32, 0, 99, 111, 115, 116, 32, 0, 104, 97, 115, 32, 0, 98, 97, 99, 107, 32, 0, 103, 114, 101, 101, 100, 121, 0, 98, 101, 115, 116, 0]) (v := ch) rfl w82 (by omega) (by omega) hch ?_
  refine E_ic (t := 75) (b := false) rfl rfl ((cn_ne rfl (nI_toInt (by omega))).trans (decide_eq_false (by omega))) ?_
  refine E_iinc (y := nI (x + 1)) (L2 := [some (.ref 65), some (.int u1), some (.int u2), some (.int u3), some (.int (nI (x + 1))), some (.int (nI pos))]) rfl rfl (nI_1 _) rfl ?_
  refine E_iinc (y := nI (pos + 1)) (L2 := [some (.ref 65), some (.int u1), some (.int u2), some (.int u3), some (.int (nI (x + 1))), some (.int (nI (pos + 1)))]) rfl rfl (nI_1 _) rfl ?_
  refine E_goto (t := 24) rfl rfl ?_
  exact K
set_option maxHeartbeats 1000000 in
theorem mw_s0 {e : List Int64} {n a j x pos ch : Nat} {x30 x31 u1 u2 u3 : Int32} {q : ab_q} (hj : j < 8) (hn : n ≤ 160) (hx : x < 2000) (l_ce : ce.length = 1280) (hce : ∀ p, p < 160 → e.getD p 0 = ce.getD (160 * j + p) 0) (hp : pos < 43) (hch : ([112, 105, 101, 99, 101, 32, 0, 112, 101, 114, 115, 111, 110, 32, 0, 99, 111, 115, 116, 32, 0, 104, 97, 115, 32, 0, 98, 97, 99, 107, 32, 0, 103, 114, 101, 101, 100, 121, 0, 98, 101, 115, 116, 0] : List Nat).getD pos 0 = ch) (hc : 0 < ch) (hc2 : ch < 1000) (h : chB e n x ch = false) {r : Option Value × List ab_C} (K : Ef ab_Z0 0 mX6_word (75, [some (.ref 65), some (.int u1), some (.int u2), some (.int u3), some (.int (nI x)), some (.int (nI pos))], [], (ww im lf s d k ls rf rz ra rn rq lt m1 m2 m3 m4 bd fc hd sz el q (fUp (fUp (fUp (fUp (fUp (fUp g 27 (nI (160 * j))) 29 (nI n)) 6 (-1)) 28 (nI a)) 30 x30) 31 x31) fm hm so si sh ce ca td wa kp la bf oo bo pw ow tr)) r) : Ef ab_Z0 0 mX6_word (24, [some (.ref 65), some (.int u1), some (.int u2), some (.int u3), some (.int (nI x)), some (.int (nI pos))], [], (ww im lf s d k ls rf rz ra rn rq lt m1 m2 m3 m4 bd fc hd sz el q (fUp (fUp (fUp (fUp (fUp (fUp g 27 (nI (160 * j))) 29 (nI n)) 6 (-1)) 28 (nI a)) 30 x30) 31 x31) fm hm so si sh ce ca td wa kp la bf oo bo pw ow tr)) r := by
  rcases chB_f h with h3 | h3
  · have : ([112, 105, 101, 99, 101, 32, 0, 112, 101, 114, 115, 111, 110, 32, 0, 99, 111, 115, 116, 32, 0, 104, 97, 115, 32, 0, 98, 97, 99, 107, 32, 0, 103, 114, 101, 101, 100, 121, 0, 98, 101, 115, 116, 0] : List Nat).length = 44 := rfl
    refine E_aload_n at_X6_word_24 rfl ?_
    refine E_getfield (v := .ref 82) at_X6_word_25 w65 rfl (by decide) rfl ?_
    refine E_iload at_X6_word_28 rfl ?_
    refine E_ialN (l := [112, 105, 101, 99, 101, 32, 0, 112, 101, 114, 115, 111, 110, 32, 0, 99, 111, 115, 116, 32, 0, 104, 97, 115, 32, 0, 98, 97, 99, 107, 32, 0, 103, 114, 101, 101, 100, 121, 0, 98, 101, 115, 116, 0]) (v := ch) at_X6_word_30 w82 (by omega) (by omega) hch ?_
    refine E_if (t := 75) (b := false) at_X6_word_31 rfl ((cn_eq (nI_toInt (by omega)) (by decide : (0 : Int32).toInt = 0)).trans (decide_eq_false (by omega))) ?_
    refine E_iload rfl rfl ?_
    refine E_aload_n rfl rfl ?_
    refine E_getfield (v := .int (nI n)) rfl w65 rfl (by decide) rfl ?_
    refine E_ic (t := 75) (b := true) rfl rfl ((cn_ge (nI_toInt (by omega)) (nI_toInt (by omega))).trans (decide_eq_true (by omega))) ?_
    exact K
  · have : ([112, 105, 101, 99, 101, 32, 0, 112, 101, 114, 115, 111, 110, 32, 0, 99, 111, 115, 116, 32, 0, 104, 97, 115, 32, 0, 98, 97, 99, 107, 32, 0, 103, 114, 101, 101, 100, 121, 0, 98, 101, 115, 116, 0] : List Nat).length = 44 := rfl
    refine E_aload_n at_X6_word_24 rfl ?_
    refine E_getfield (v := .ref 82) at_X6_word_25 w65 rfl (by decide) rfl ?_
    refine E_iload at_X6_word_28 rfl ?_
    refine E_ialN (l := [112, 105, 101, 99, 101, 32, 0, 112, 101, 114, 115, 111, 110, 32, 0, 99, 111, 115, 116, 32, 0, 104, 97, 115, 32, 0, 98, 97, 99, 107, 32, 0, 103, 114, 101, 101, 100, 121, 0, 98, 101, 115, 116, 0]) (v := ch) at_X6_word_30 w82 (by omega) (by omega) hch ?_
    refine E_if (t := 75) (b := false) at_X6_word_31 rfl ((cn_eq (nI_toInt (by omega)) (by decide : (0 : Int32).toInt = 0)).trans (decide_eq_false (by omega))) ?_
    refine E_iload rfl rfl ?_
    refine E_aload_n rfl rfl ?_
    refine E_getfield (v := .int (nI n)) rfl w65 rfl (by decide) rfl ?_
    refine E_ic (t := 75) (b := false) rfl rfl ((cn_ge (nI_toInt (by omega)) (nI_toInt (by omega))).trans (decide_eq_false (by omega))) ?_
    refine E_aload_n rfl rfl ?_
    refine E_getfield (v := .ref 80) rfl w65 rfl (by decide) rfl ?_
    refine E_aload_n rfl rfl ?_
    refine E_getfield (v := .int (nI (160 * j))) rfl w65 rfl (by decide) rfl ?_
    refine E_iload rfl rfl ?_
    refine E_iadd (z := nI ((160 * j) + x)) rfl (nI_add _ _) ?_
    refine E_lalL (l := ce) (v := ce.getD ((160 * j) + x) 0) rfl w80 (by omega) (by omega) rfl ?_
    refine E_l2i (z := tw e x) rfl (by unfold tw; rw [hce x (by omega)]) ?_
    refine E_aload_n rfl rfl ?_
    refine E_getfield (v := .ref 82) rfl w65 rfl (by decide) rfl ?_
    refine E_iload rfl rfl ?_
    refine E_ialN (l := [112, 105, 101, 99, 101, 32, 0, 112, 101, 114, 115, 111, 110, 32, 0, 99, 111, 115, 116, 32, 0, 104, 97, 115, 32, 0, 98, 97, 99, 107, 32, 0, 103, 114, 101, 101, 100, 121, 0, 98, 101, 115, 116, 0]) (v := ch) rfl w82 (by omega) (by omega) hch ?_
    refine E_ic (t := 75) (b := true) rfl rfl ((cn_ne rfl (nI_toInt (by omega))).trans (decide_eq_true (by omega))) ?_
    exact K
set_option maxHeartbeats 1000000 in
theorem ms_s1 {e : List Int64} {n a j x pos ch : Nat} {x30 x31 u1 : Int32} {q : ab_q} (hj : j < 8) (hn : n ≤ 160) (hx : x < 2000) (l_ce : ce.length = 1280) (hce : ∀ p, p < 160 → e.getD p 0 = ce.getD (160 * j + p) 0) (hp : pos < 43) (hch : ([112, 105, 101, 99, 101, 32, 0, 112, 101, 114, 115, 111, 110, 32, 0, 99, 111, 115, 116, 32, 0, 104, 97, 115, 32, 0, 98, 97, 99, 107, 32, 0, 103, 114, 101, 101, 100, 121, 0, 98, 101, 115, 116, 0] : List Nat).getD pos 0 = ch) (hc : 32 < ch) (hc2 : ch < 1000) (h : chB e n x ch = true) {r : Option Value × List ab_C} (K : Ef ab_Z0 0 mX6_stands (37, [some (.ref 65), some (.int u1), some (.int (nI (pos + 1))), some (.int (nI (x + 1)))], [], (ww im lf s d k ls rf rz ra rn rq lt m1 m2 m3 m4 bd fc hd sz el q (fUp (fUp (fUp (fUp (fUp (fUp g 27 (nI (160 * j))) 29 (nI n)) 6 (-1)) 28 (nI a)) 30 x30) 31 x31) fm hm so si sh ce ca td wa kp la bf oo bo pw ow tr)) r) : Ef ab_Z0 0 mX6_stands (37, [some (.ref 65), some (.int u1), some (.int (nI pos)), some (.int (nI x))], [], (ww im lf s d k ls rf rz ra rn rq lt m1 m2 m3 m4 bd fc hd sz el q (fUp (fUp (fUp (fUp (fUp (fUp g 27 (nI (160 * j))) 29 (nI n)) 6 (-1)) 28 (nI a)) 30 x30) 31 x31) fm hm so si sh ce ca td wa kp la bf oo bo pw ow tr)) r := by
  have h2 := chB_t h
  have : ([112, 105, 101, 99, 101, 32, 0, 112, 101, 114, 115, 111, 110, 32, 0, 99, 111, 115, 116, 32, 0, 104, 97, 115, 32, 0, 98, 97, 99, 107, 32, 0, 103, 114, 101, 101, 100, 121, 0, 98, 101, 115, 116, 0] : List Nat).length = 44 := rfl
  refine E_aload_n rfl rfl ?_
  refine E_getfield (v := .ref 82) rfl w65 rfl (by decide) rfl ?_
  refine E_iload_n rfl rfl ?_
  refine E_ialN (l := [112, 105, 101, 99, 101, 32, 0, 112, 101, 114, 115, 111, 110, 32, 0, 99, 111, 115, 116, 32, 0, 104, 97, 115, 32, 0, 98, 97, 99, 107, 32, 0, 103, 114, 101, 101, 100, 121, 0, 98, 101, 115, 116, 0]) (v := ch) rfl w82 (by omega) (by omega) hch ?_
  refine E_bipush (x := nI 32) rfl (by decide) ?_
  refine E_ic (t := 86) (b := false) rfl rfl ((cn_le (nI_toInt (by omega)) (nI_toInt (by omega))).trans (decide_eq_false (by omega))) ?_
  refine E_iload_n rfl rfl ?_
  refine E_aload_n rfl rfl ?_
  refine E_getfield (v := .int (nI n)) rfl w65 rfl (by decide) rfl ?_
  refine E_ic (t := 86) (b := false) rfl rfl ((cn_ge (nI_toInt (by omega)) (nI_toInt (by omega))).trans (decide_eq_false (by omega))) ?_
  refine E_aload_n rfl rfl ?_
  refine E_getfield (v := .ref 80) rfl w65 rfl (by decide) rfl ?_
  refine E_aload_n rfl rfl ?_
  refine E_getfield (v := .int (nI (160 * j))) rfl w65 rfl (by decide) rfl ?_
  refine E_iload_n rfl rfl ?_
  refine E_iadd (z := nI ((160 * j) + x)) rfl (nI_add _ _) ?_
  refine E_lalL (l := ce) (v := ce.getD ((160 * j) + x) 0) rfl w80 (by omega) (by omega) rfl ?_
  refine E_l2i (z := tw e x) rfl (by unfold tw; rw [hce x (by omega)]) ?_
  refine E_aload_n rfl rfl ?_
  refine E_getfield (v := .ref 82) rfl w65 rfl (by decide) rfl ?_
  refine E_iload_n rfl rfl ?_
  refine E_ialN (l := [112, 105, 101, 99, 101, 32, 0, 112, 101, 114, 115, 111, 110, 32, 0, 99, 111, 115, 116, 32, 0, 104, 97, 115, 32, 0, 98, 97, 99, 107, 32, 0, 103, 114, 101, 101, 100, 121, 0, 98, 101, 115, 116, 0]) (v := ch) rfl w82 (by omega) (by omega) hch ?_
  refine E_ic (t := 86) (b := false) rfl rfl ((cn_ne rfl (nI_toInt (by omega))).trans (decide_eq_false (by omega))) ?_
  refine E_iinc (y := nI (x + 1)) (L2 := [some (.ref 65), some (.int u1), some (.int (nI pos)), some (.int (nI (x + 1)))]) rfl rfl (nI_1 _) rfl ?_
  refine E_iinc (y := nI (pos + 1)) (L2 := [some (.ref 65), some (.int u1), some (.int (nI (pos + 1))), some (.int (nI (x + 1)))]) rfl rfl (nI_1 _) rfl ?_
  refine E_goto (t := 37) rfl rfl ?_
  exact K
set_option maxHeartbeats 1000000 in
theorem ms_s0 {e : List Int64} {n a j x pos ch : Nat} {x30 x31 u1 : Int32} {q : ab_q} (hj : j < 8) (hn : n ≤ 160) (hx : x < 2000) (l_ce : ce.length = 1280) (hce : ∀ p, p < 160 → e.getD p 0 = ce.getD (160 * j + p) 0) (hp : pos < 43) (hch : ([112, 105, 101, 99, 101, 32, 0, 112, 101, 114, 115, 111, 110, 32, 0, 99, 111, 115, 116, 32, 0, 104, 97, 115, 32, 0, 98, 97, 99, 107, 32, 0, 103, 114, 101, 101, 100, 121, 0, 98, 101, 115, 116, 0] : List Nat).getD pos 0 = ch) (hc : 32 < ch) (hc2 : ch < 1000) (h : chB e n x ch = false) {r : Option Value × List ab_C} (K : Ef ab_Z0 0 mX6_stands (86, [some (.ref 65), some (.int u1), some (.int (nI pos)), some (.int (nI x))], [], (ww im lf s d k ls rf rz ra rn rq lt m1 m2 m3 m4 bd fc hd sz el q (fUp (fUp (fUp (fUp (fUp (fUp g 27 (nI (160 * j))) 29 (nI n)) 6 (-1)) 28 (nI a)) 30 x30) 31 x31) fm hm so si sh ce ca td wa kp la bf oo bo pw ow tr)) r) : Ef ab_Z0 0 mX6_stands (37, [some (.ref 65), some (.int u1), some (.int (nI pos)), some (.int (nI x))], [], (ww im lf s d k ls rf rz ra rn rq lt m1 m2 m3 m4 bd fc hd sz el q (fUp (fUp (fUp (fUp (fUp (fUp g 27 (nI (160 * j))) 29 (nI n)) 6 (-1)) 28 (nI a)) 30 x30) 31 x31) fm hm so si sh ce ca td wa kp la bf oo bo pw ow tr)) r := by
  rcases chB_f h with h3 | h3
  · have : ([112, 105, 101, 99, 101, 32, 0, 112, 101, 114, 115, 111, 110, 32, 0, 99, 111, 115, 116, 32, 0, 104, 97, 115, 32, 0, 98, 97, 99, 107, 32, 0, 103, 114, 101, 101, 100, 121, 0, 98, 101, 115, 116, 0] : List Nat).length = 44 := rfl
    refine E_aload_n rfl rfl ?_
    refine E_getfield (v := .ref 82) rfl w65 rfl (by decide) rfl ?_
    refine E_iload_n rfl rfl ?_
    refine E_ialN (l := [112, 105, 101, 99, 101, 32, 0, 112, 101, 114, 115, 111, 110, 32, 0, 99, 111, 115, 116, 32, 0, 104, 97, 115, 32, 0, 98, 97, 99, 107, 32, 0, 103, 114, 101, 101, 100, 121, 0, 98, 101, 115, 116, 0]) (v := ch) rfl w82 (by omega) (by omega) hch ?_
    refine E_bipush (x := nI 32) rfl (by decide) ?_
    refine E_ic (t := 86) (b := false) rfl rfl ((cn_le (nI_toInt (by omega)) (nI_toInt (by omega))).trans (decide_eq_false (by omega))) ?_
    refine E_iload_n rfl rfl ?_
    refine E_aload_n rfl rfl ?_
    refine E_getfield (v := .int (nI n)) rfl w65 rfl (by decide) rfl ?_
    refine E_ic (t := 86) (b := true) rfl rfl ((cn_ge (nI_toInt (by omega)) (nI_toInt (by omega))).trans (decide_eq_true (by omega))) ?_
    exact K
  · have : ([112, 105, 101, 99, 101, 32, 0, 112, 101, 114, 115, 111, 110, 32, 0, 99, 111, 115, 116, 32, 0, 104, 97, 115, 32, 0, 98, 97, 99, 107, 32, 0, 103, 114, 101, 101, 100, 121, 0, 98, 101, 115, 116, 0] : List Nat).length = 44 := rfl
    refine E_aload_n rfl rfl ?_
    refine E_getfield (v := .ref 82) rfl w65 rfl (by decide) rfl ?_
    refine E_iload_n rfl rfl ?_
    refine E_ialN (l := [112, 105, 101, 99, 101, 32, 0, 112, 101, 114, 115, 111, 110, 32, 0, 99, 111, 115, 116, 32, 0, 104, 97, 115, 32, 0, 98, 97, 99, 107, 32, 0, 103, 114, 101, 101, 100, 121, 0, 98, 101, 115, 116, 0]) (v := ch) rfl w82 (by omega) (by omega) hch ?_
    refine E_bipush (x := nI 32) rfl (by decide) ?_
    refine E_ic (t := 86) (b := false) rfl rfl ((cn_le (nI_toInt (by omega)) (nI_toInt (by omega))).trans (decide_eq_false (by omega))) ?_
    refine E_iload_n rfl rfl ?_
    refine E_aload_n rfl rfl ?_
    refine E_getfield (v := .int (nI n)) rfl w65 rfl (by decide) rfl ?_
    refine E_ic (t := 86) (b := false) rfl rfl ((cn_ge (nI_toInt (by omega)) (nI_toInt (by omega))).trans (decide_eq_false (by omega))) ?_
    refine E_aload_n rfl rfl ?_
    refine E_getfield (v := .ref 80) rfl w65 rfl (by decide) rfl ?_
    refine E_aload_n rfl rfl ?_
    refine E_getfield (v := .int (nI (160 * j))) rfl w65 rfl (by decide) rfl ?_
    refine E_iload_n rfl rfl ?_
    refine E_iadd (z := nI ((160 * j) + x)) rfl (nI_add _ _) ?_
    refine E_lalL (l := ce) (v := ce.getD ((160 * j) + x) 0) rfl w80 (by omega) (by omega) rfl ?_
    refine E_l2i (z := tw e x) rfl (by unfold tw; rw [hce x (by omega)]) ?_
    refine E_aload_n rfl rfl ?_
    refine E_getfield (v := .ref 82) rfl w65 rfl (by decide) rfl ?_
    refine E_iload_n rfl rfl ?_
    refine E_ialN (l := [112, 105, 101, 99, 101, 32, 0, 112, 101, 114, 115, 111, 110, 32, 0, 99, 111, 115, 116, 32, 0, 104, 97, 115, 32, 0, 98, 97, 99, 107, 32, 0, 103, 114, 101, 101, 100, 121, 0, 98, 101, 115, 116, 0]) (v := ch) rfl w82 (by omega) (by omega) hch ?_
    refine E_ic (t := 86) (b := true) rfl rfl ((cn_ne rfl (nI_toInt (by omega))).trans (decide_eq_true (by omega))) ?_
    exact K
set_option maxHeartbeats 1000000 in
theorem m_sd0 {e : List Int64} {n a j : Nat} {x30 x31 : Int32} {q : ab_q} (hj : j < 8) (hn : n ≤ 160) (ha : a ≤ n) (l_ce : ce.length = 1280) (hce : ∀ p, p < 160 → e.getD p 0 = ce.getD (160 * j + p) 0) : Ev ab_Z0 1 157 [.ref 65, .int (nI 0)] (ww im lf s d k ls rf rz ra rn rq lt m1 m2 m3 m4 bd fc hd sz el q (fUp (fUp (fUp (fUp (fUp (fUp g 27 (nI (160 * j))) 29 (nI n)) 6 (-1)) 28 (nI a)) 30 x30) 31 x31) fm hm so si sh ce ca td wa kp la bf oo bo pw ow tr) (some (.int (nI (if mj0 e n a = 5 then 1 else 0))), (ww im lf s d k ls rf rz ra rn rq lt m1 m2 m3 m4 bd fc hd sz el q (fUp (fUp (fUp (fUp (fUp (fUp g 27 (nI (160 * j))) 29 (nI n)) 6 (-1)) 28 (nI a)) 30 x30) 31 x31) fm hm so si sh ce ca td wa kp la bf oo bo pw ow tr)) := by
  rcases bo2 (chB e n (a) 112) with hb0 | hb0
  · have : ([112, 105, 101, 99, 101, 32, 0, 112, 101, 114, 115, 111, 110, 32, 0, 99, 111, 115, 116, 32, 0, 104, 97, 115, 32, 0, 98, 97, 99, 107, 32, 0, 103, 114, 101, 101, 100, 121, 0, 98, 101, 115, 116, 0] : List Nat).length = 44 := rfl
    have q0 : mtc e n [112, 105, 101, 99, 101] (a) = 0 := mtc_f hb0
    have hm0 : mj0 e n a = 0 := by unfold mj0; omega
    rw [hm0]
    refine Ef.in (md := mX6_stands) (L := [some (.ref 65), some (.int (nI 0)), none, none]) rfl (Nat.le_of_ble_eq_true rfl) rfl ?_
    refine E_iconst (x := nI 0) at_X6_stands_0 (by decide) ?_
    refine E_istore_n (L2 := [some (.ref 65), some (.int (nI 0)), some (.int (nI 0)), none]) at_X6_stands_1 rfl ?_
    refine E_iconst (x := nI 0) at_X6_stands_2 (by decide) ?_
    refine E_istore_n (L2 := [some (.ref 65), some (.int (nI 0)), some (.int (nI 0)), some (.int (nI 0))]) at_X6_stands_3 rfl ?_
    refine E_iload_n at_X6_stands_4 rfl ?_
    refine E_iload_n at_X6_stands_5 rfl ?_
    refine E_ic (t := 32) (b := true) at_X6_stands_6 rfl (by decide) ?_
    refine E_aload_n at_X6_stands_32 rfl ?_
    refine E_getfield (v := .int (nI a)) at_X6_stands_33 w65 rfl (by decide) rfl ?_
    refine E_istore_n (L2 := [some (.ref 65), some (.int (nI 0)), some (.int (nI 0)), some (.int (nI a))]) at_X6_stands_36 rfl ?_
    refine ms_s0 (x := a + 0) (pos := 0) (ch := 112) hj hn (by omega) l_ce hce (by decide) rfl (by decide) (by decide) hb0 ?_
    refine E_aload_n rfl rfl ?_
    refine E_getfield (v := .ref 82) rfl w65 rfl (by decide) rfl ?_
    refine E_iload_n rfl rfl ?_
    refine E_ialN (l := [112, 105, 101, 99, 101, 32, 0, 112, 101, 114, 115, 111, 110, 32, 0, 99, 111, 115, 116, 32, 0, 104, 97, 115, 32, 0, 98, 97, 99, 107, 32, 0, 103, 114, 101, 101, 100, 121, 0, 98, 101, 115, 116, 0]) (v := 112) rfl w82 (by omega) (by omega) rfl ?_
    refine E_bipush (x := nI 32) rfl (by decide) ?_
    refine E_ic (t := 101) (b := true) rfl rfl (by decide) ?_
    refine E_iconst (x := nI 0) rfl (by decide) ?_
    exact E_iret rfl rfl
  · rcases bo2 (chB e n (a + 1) 105) with hb1 | hb1
    · have : ([112, 105, 101, 99, 101, 32, 0, 112, 101, 114, 115, 111, 110, 32, 0, 99, 111, 115, 116, 32, 0, 104, 97, 115, 32, 0, 98, 97, 99, 107, 32, 0, 103, 114, 101, 101, 100, 121, 0, 98, 101, 115, 116, 0] : List Nat).length = 44 := rfl
      have q0 : mtc e n [112, 105, 101, 99, 101] (a) = mtc e n [105, 101, 99, 101] (a + 1) + 1 := mtc_t hb0
      have q1 : mtc e n [105, 101, 99, 101] (a + 1) = 0 := mtc_f hb1
      have hm0 : mj0 e n a = 1 := by unfold mj0; omega
      rw [hm0]
      refine Ef.in (md := mX6_stands) (L := [some (.ref 65), some (.int (nI 0)), none, none]) rfl (Nat.le_of_ble_eq_true rfl) rfl ?_
      refine E_iconst (x := nI 0) at_X6_stands_0 (by decide) ?_
      refine E_istore_n (L2 := [some (.ref 65), some (.int (nI 0)), some (.int (nI 0)), none]) at_X6_stands_1 rfl ?_
      refine E_iconst (x := nI 0) at_X6_stands_2 (by decide) ?_
      refine E_istore_n (L2 := [some (.ref 65), some (.int (nI 0)), some (.int (nI 0)), some (.int (nI 0))]) at_X6_stands_3 rfl ?_
      refine E_iload_n at_X6_stands_4 rfl ?_
      refine E_iload_n at_X6_stands_5 rfl ?_
      refine E_ic (t := 32) (b := true) at_X6_stands_6 rfl (by decide) ?_
      refine E_aload_n at_X6_stands_32 rfl ?_
      refine E_getfield (v := .int (nI a)) at_X6_stands_33 w65 rfl (by decide) rfl ?_
      refine E_istore_n (L2 := [some (.ref 65), some (.int (nI 0)), some (.int (nI 0)), some (.int (nI a))]) at_X6_stands_36 rfl ?_
      refine ms_s1 (x := a + 0) (pos := 0) (ch := 112) hj hn (by omega) l_ce hce (by decide) rfl (by decide) (by decide) hb0 ?_
      refine ms_s0 (x := a + 1) (pos := 1) (ch := 105) hj hn (by omega) l_ce hce (by decide) rfl (by decide) (by decide) hb1 ?_
      refine E_aload_n rfl rfl ?_
      refine E_getfield (v := .ref 82) rfl w65 rfl (by decide) rfl ?_
      refine E_iload_n rfl rfl ?_
      refine E_ialN (l := [112, 105, 101, 99, 101, 32, 0, 112, 101, 114, 115, 111, 110, 32, 0, 99, 111, 115, 116, 32, 0, 104, 97, 115, 32, 0, 98, 97, 99, 107, 32, 0, 103, 114, 101, 101, 100, 121, 0, 98, 101, 115, 116, 0]) (v := 105) rfl w82 (by omega) (by omega) rfl ?_
      refine E_bipush (x := nI 32) rfl (by decide) ?_
      refine E_ic (t := 101) (b := true) rfl rfl (by decide) ?_
      refine E_iconst (x := nI 0) rfl (by decide) ?_
      exact E_iret rfl rfl
    · rcases bo2 (chB e n (a + 1 + 1) 101) with hb2 | hb2
      · have : ([112, 105, 101, 99, 101, 32, 0, 112, 101, 114, 115, 111, 110, 32, 0, 99, 111, 115, 116, 32, 0, 104, 97, 115, 32, 0, 98, 97, 99, 107, 32, 0, 103, 114, 101, 101, 100, 121, 0, 98, 101, 115, 116, 0] : List Nat).length = 44 := rfl
        have q0 : mtc e n [112, 105, 101, 99, 101] (a) = mtc e n [105, 101, 99, 101] (a + 1) + 1 := mtc_t hb0
        have q1 : mtc e n [105, 101, 99, 101] (a + 1) = mtc e n [101, 99, 101] (a + 1 + 1) + 1 := mtc_t hb1
        have q2 : mtc e n [101, 99, 101] (a + 1 + 1) = 0 := mtc_f hb2
        have hm0 : mj0 e n a = 2 := by unfold mj0; omega
        rw [hm0]
        refine Ef.in (md := mX6_stands) (L := [some (.ref 65), some (.int (nI 0)), none, none]) rfl (Nat.le_of_ble_eq_true rfl) rfl ?_
        refine E_iconst (x := nI 0) at_X6_stands_0 (by decide) ?_
        refine E_istore_n (L2 := [some (.ref 65), some (.int (nI 0)), some (.int (nI 0)), none]) at_X6_stands_1 rfl ?_
        refine E_iconst (x := nI 0) at_X6_stands_2 (by decide) ?_
        refine E_istore_n (L2 := [some (.ref 65), some (.int (nI 0)), some (.int (nI 0)), some (.int (nI 0))]) at_X6_stands_3 rfl ?_
        refine E_iload_n at_X6_stands_4 rfl ?_
        refine E_iload_n at_X6_stands_5 rfl ?_
        refine E_ic (t := 32) (b := true) at_X6_stands_6 rfl (by decide) ?_
        refine E_aload_n at_X6_stands_32 rfl ?_
        refine E_getfield (v := .int (nI a)) at_X6_stands_33 w65 rfl (by decide) rfl ?_
        refine E_istore_n (L2 := [some (.ref 65), some (.int (nI 0)), some (.int (nI 0)), some (.int (nI a))]) at_X6_stands_36 rfl ?_
        refine ms_s1 (x := a + 0) (pos := 0) (ch := 112) hj hn (by omega) l_ce hce (by decide) rfl (by decide) (by decide) hb0 ?_
        refine ms_s1 (x := a + 1) (pos := 1) (ch := 105) hj hn (by omega) l_ce hce (by decide) rfl (by decide) (by decide) hb1 ?_
        refine ms_s0 (x := a + 2) (pos := 2) (ch := 101) hj hn (by omega) l_ce hce (by decide) rfl (by decide) (by decide) hb2 ?_
        refine E_aload_n rfl rfl ?_
        refine E_getfield (v := .ref 82) rfl w65 rfl (by decide) rfl ?_
        refine E_iload_n rfl rfl ?_
        refine E_ialN (l := [112, 105, 101, 99, 101, 32, 0, 112, 101, 114, 115, 111, 110, 32, 0, 99, 111, 115, 116, 32, 0, 104, 97, 115, 32, 0, 98, 97, 99, 107, 32, 0, 103, 114, 101, 101, 100, 121, 0, 98, 101, 115, 116, 0]) (v := 101) rfl w82 (by omega) (by omega) rfl ?_
        refine E_bipush (x := nI 32) rfl (by decide) ?_
        refine E_ic (t := 101) (b := true) rfl rfl (by decide) ?_
        refine E_iconst (x := nI 0) rfl (by decide) ?_
        exact E_iret rfl rfl
      · rcases bo2 (chB e n (a + 1 + 1 + 1) 99) with hb3 | hb3
        · have : ([112, 105, 101, 99, 101, 32, 0, 112, 101, 114, 115, 111, 110, 32, 0, 99, 111, 115, 116, 32, 0, 104, 97, 115, 32, 0, 98, 97, 99, 107, 32, 0, 103, 114, 101, 101, 100, 121, 0, 98, 101, 115, 116, 0] : List Nat).length = 44 := rfl
          have q0 : mtc e n [112, 105, 101, 99, 101] (a) = mtc e n [105, 101, 99, 101] (a + 1) + 1 := mtc_t hb0
          have q1 : mtc e n [105, 101, 99, 101] (a + 1) = mtc e n [101, 99, 101] (a + 1 + 1) + 1 := mtc_t hb1
          have q2 : mtc e n [101, 99, 101] (a + 1 + 1) = mtc e n [99, 101] (a + 1 + 1 + 1) + 1 := mtc_t hb2
          have q3 : mtc e n [99, 101] (a + 1 + 1 + 1) = 0 := mtc_f hb3
          have hm0 : mj0 e n a = 3 := by unfold mj0; omega
          rw [hm0]
          refine Ef.in (md := mX6_stands) (L := [some (.ref 65), some (.int (nI 0)), none, none]) rfl (Nat.le_of_ble_eq_true rfl) rfl ?_
          refine E_iconst (x := nI 0) at_X6_stands_0 (by decide) ?_
          refine E_istore_n (L2 := [some (.ref 65), some (.int (nI 0)), some (.int (nI 0)), none]) at_X6_stands_1 rfl ?_
          refine E_iconst (x := nI 0) at_X6_stands_2 (by decide) ?_
          refine E_istore_n (L2 := [some (.ref 65), some (.int (nI 0)), some (.int (nI 0)), some (.int (nI 0))]) at_X6_stands_3 rfl ?_
          refine E_iload_n at_X6_stands_4 rfl ?_
          refine E_iload_n at_X6_stands_5 rfl ?_
          refine E_ic (t := 32) (b := true) at_X6_stands_6 rfl (by decide) ?_
          refine E_aload_n at_X6_stands_32 rfl ?_
          refine E_getfield (v := .int (nI a)) at_X6_stands_33 w65 rfl (by decide) rfl ?_
          refine E_istore_n (L2 := [some (.ref 65), some (.int (nI 0)), some (.int (nI 0)), some (.int (nI a))]) at_X6_stands_36 rfl ?_
          refine ms_s1 (x := a + 0) (pos := 0) (ch := 112) hj hn (by omega) l_ce hce (by decide) rfl (by decide) (by decide) hb0 ?_
          refine ms_s1 (x := a + 1) (pos := 1) (ch := 105) hj hn (by omega) l_ce hce (by decide) rfl (by decide) (by decide) hb1 ?_
          refine ms_s1 (x := a + 2) (pos := 2) (ch := 101) hj hn (by omega) l_ce hce (by decide) rfl (by decide) (by decide) hb2 ?_
          refine ms_s0 (x := a + 3) (pos := 3) (ch := 99) hj hn (by omega) l_ce hce (by decide) rfl (by decide) (by decide) hb3 ?_
          refine E_aload_n rfl rfl ?_
          refine E_getfield (v := .ref 82) rfl w65 rfl (by decide) rfl ?_
          refine E_iload_n rfl rfl ?_
          refine E_ialN (l := [112, 105, 101, 99, 101, 32, 0, 112, 101, 114, 115, 111, 110, 32, 0, 99, 111, 115, 116, 32, 0, 104, 97, 115, 32, 0, 98, 97, 99, 107, 32, 0, 103, 114, 101, 101, 100, 121, 0, 98, 101, 115, 116, 0]) (v := 99) rfl w82 (by omega) (by omega) rfl ?_
          refine E_bipush (x := nI 32) rfl (by decide) ?_
          refine E_ic (t := 101) (b := true) rfl rfl (by decide) ?_
          refine E_iconst (x := nI 0) rfl (by decide) ?_
          exact E_iret rfl rfl
        · rcases bo2 (chB e n (a + 1 + 1 + 1 + 1) 101) with hb4 | hb4
          · have : ([112, 105, 101, 99, 101, 32, 0, 112, 101, 114, 115, 111, 110, 32, 0, 99, 111, 115, 116, 32, 0, 104, 97, 115, 32, 0, 98, 97, 99, 107, 32, 0, 103, 114, 101, 101, 100, 121, 0, 98, 101, 115, 116, 0] : List Nat).length = 44 := rfl
            have q0 : mtc e n [112, 105, 101, 99, 101] (a) = mtc e n [105, 101, 99, 101] (a + 1) + 1 := mtc_t hb0
            have q1 : mtc e n [105, 101, 99, 101] (a + 1) = mtc e n [101, 99, 101] (a + 1 + 1) + 1 := mtc_t hb1
            have q2 : mtc e n [101, 99, 101] (a + 1 + 1) = mtc e n [99, 101] (a + 1 + 1 + 1) + 1 := mtc_t hb2
            have q3 : mtc e n [99, 101] (a + 1 + 1 + 1) = mtc e n [101] (a + 1 + 1 + 1 + 1) + 1 := mtc_t hb3
            have q4 : mtc e n [101] (a + 1 + 1 + 1 + 1) = 0 := mtc_f hb4
            have hm0 : mj0 e n a = 4 := by unfold mj0; omega
            rw [hm0]
            refine Ef.in (md := mX6_stands) (L := [some (.ref 65), some (.int (nI 0)), none, none]) rfl (Nat.le_of_ble_eq_true rfl) rfl ?_
            refine E_iconst (x := nI 0) at_X6_stands_0 (by decide) ?_
            refine E_istore_n (L2 := [some (.ref 65), some (.int (nI 0)), some (.int (nI 0)), none]) at_X6_stands_1 rfl ?_
            refine E_iconst (x := nI 0) at_X6_stands_2 (by decide) ?_
            refine E_istore_n (L2 := [some (.ref 65), some (.int (nI 0)), some (.int (nI 0)), some (.int (nI 0))]) at_X6_stands_3 rfl ?_
            refine E_iload_n at_X6_stands_4 rfl ?_
            refine E_iload_n at_X6_stands_5 rfl ?_
            refine E_ic (t := 32) (b := true) at_X6_stands_6 rfl (by decide) ?_
            refine E_aload_n at_X6_stands_32 rfl ?_
            refine E_getfield (v := .int (nI a)) at_X6_stands_33 w65 rfl (by decide) rfl ?_
            refine E_istore_n (L2 := [some (.ref 65), some (.int (nI 0)), some (.int (nI 0)), some (.int (nI a))]) at_X6_stands_36 rfl ?_
            refine ms_s1 (x := a + 0) (pos := 0) (ch := 112) hj hn (by omega) l_ce hce (by decide) rfl (by decide) (by decide) hb0 ?_
            refine ms_s1 (x := a + 1) (pos := 1) (ch := 105) hj hn (by omega) l_ce hce (by decide) rfl (by decide) (by decide) hb1 ?_
            refine ms_s1 (x := a + 2) (pos := 2) (ch := 101) hj hn (by omega) l_ce hce (by decide) rfl (by decide) (by decide) hb2 ?_
            refine ms_s1 (x := a + 3) (pos := 3) (ch := 99) hj hn (by omega) l_ce hce (by decide) rfl (by decide) (by decide) hb3 ?_
            refine ms_s0 (x := a + 4) (pos := 4) (ch := 101) hj hn (by omega) l_ce hce (by decide) rfl (by decide) (by decide) hb4 ?_
            refine E_aload_n rfl rfl ?_
            refine E_getfield (v := .ref 82) rfl w65 rfl (by decide) rfl ?_
            refine E_iload_n rfl rfl ?_
            refine E_ialN (l := [112, 105, 101, 99, 101, 32, 0, 112, 101, 114, 115, 111, 110, 32, 0, 99, 111, 115, 116, 32, 0, 104, 97, 115, 32, 0, 98, 97, 99, 107, 32, 0, 103, 114, 101, 101, 100, 121, 0, 98, 101, 115, 116, 0]) (v := 101) rfl w82 (by omega) (by omega) rfl ?_
            refine E_bipush (x := nI 32) rfl (by decide) ?_
            refine E_ic (t := 101) (b := true) rfl rfl (by decide) ?_
            refine E_iconst (x := nI 0) rfl (by decide) ?_
            exact E_iret rfl rfl
          · have : ([112, 105, 101, 99, 101, 32, 0, 112, 101, 114, 115, 111, 110, 32, 0, 99, 111, 115, 116, 32, 0, 104, 97, 115, 32, 0, 98, 97, 99, 107, 32, 0, 103, 114, 101, 101, 100, 121, 0, 98, 101, 115, 116, 0] : List Nat).length = 44 := rfl
            have q0 : mtc e n [112, 105, 101, 99, 101] (a) = mtc e n [105, 101, 99, 101] (a + 1) + 1 := mtc_t hb0
            have q1 : mtc e n [105, 101, 99, 101] (a + 1) = mtc e n [101, 99, 101] (a + 1 + 1) + 1 := mtc_t hb1
            have q2 : mtc e n [101, 99, 101] (a + 1 + 1) = mtc e n [99, 101] (a + 1 + 1 + 1) + 1 := mtc_t hb2
            have q3 : mtc e n [99, 101] (a + 1 + 1 + 1) = mtc e n [101] (a + 1 + 1 + 1 + 1) + 1 := mtc_t hb3
            have q4 : mtc e n [101] (a + 1 + 1 + 1 + 1) = mtc e n [] (a + 1 + 1 + 1 + 1 + 1) + 1 := mtc_t hb4
            have q5 : mtc e n [] (a + 1 + 1 + 1 + 1 + 1) = 0 := rfl
            have hm0 : mj0 e n a = 5 := by unfold mj0; omega
            rw [hm0]
            refine Ef.in (md := mX6_stands) (L := [some (.ref 65), some (.int (nI 0)), none, none]) rfl (Nat.le_of_ble_eq_true rfl) rfl ?_
            refine E_iconst (x := nI 0) at_X6_stands_0 (by decide) ?_
            refine E_istore_n (L2 := [some (.ref 65), some (.int (nI 0)), some (.int (nI 0)), none]) at_X6_stands_1 rfl ?_
            refine E_iconst (x := nI 0) at_X6_stands_2 (by decide) ?_
            refine E_istore_n (L2 := [some (.ref 65), some (.int (nI 0)), some (.int (nI 0)), some (.int (nI 0))]) at_X6_stands_3 rfl ?_
            refine E_iload_n at_X6_stands_4 rfl ?_
            refine E_iload_n at_X6_stands_5 rfl ?_
            refine E_ic (t := 32) (b := true) at_X6_stands_6 rfl (by decide) ?_
            refine E_aload_n at_X6_stands_32 rfl ?_
            refine E_getfield (v := .int (nI a)) at_X6_stands_33 w65 rfl (by decide) rfl ?_
            refine E_istore_n (L2 := [some (.ref 65), some (.int (nI 0)), some (.int (nI 0)), some (.int (nI a))]) at_X6_stands_36 rfl ?_
            refine ms_s1 (x := a + 0) (pos := 0) (ch := 112) hj hn (by omega) l_ce hce (by decide) rfl (by decide) (by decide) hb0 ?_
            refine ms_s1 (x := a + 1) (pos := 1) (ch := 105) hj hn (by omega) l_ce hce (by decide) rfl (by decide) (by decide) hb1 ?_
            refine ms_s1 (x := a + 2) (pos := 2) (ch := 101) hj hn (by omega) l_ce hce (by decide) rfl (by decide) (by decide) hb2 ?_
            refine ms_s1 (x := a + 3) (pos := 3) (ch := 99) hj hn (by omega) l_ce hce (by decide) rfl (by decide) (by decide) hb3 ?_
            refine ms_s1 (x := a + 4) (pos := 4) (ch := 101) hj hn (by omega) l_ce hce (by decide) rfl (by decide) (by decide) hb4 ?_
            refine E_aload_n rfl rfl ?_
            refine E_getfield (v := .ref 82) rfl w65 rfl (by decide) rfl ?_
            refine E_iload_n rfl rfl ?_
            refine E_ialN (l := [112, 105, 101, 99, 101, 32, 0, 112, 101, 114, 115, 111, 110, 32, 0, 99, 111, 115, 116, 32, 0, 104, 97, 115, 32, 0, 98, 97, 99, 107, 32, 0, 103, 114, 101, 101, 100, 121, 0, 98, 101, 115, 116, 0]) (v := 32) rfl w82 (by omega) (by omega) rfl ?_
            refine E_bipush (x := nI 32) rfl (by decide) ?_
            refine E_ic (t := 86) (b := true) rfl rfl (by decide) ?_
            refine E_aload_n rfl rfl ?_
            refine E_getfield (v := .ref 82) rfl w65 rfl (by decide) rfl ?_
            refine E_iload_n rfl rfl ?_
            refine E_ialN (l := [112, 105, 101, 99, 101, 32, 0, 112, 101, 114, 115, 111, 110, 32, 0, 99, 111, 115, 116, 32, 0, 104, 97, 115, 32, 0, 98, 97, 99, 107, 32, 0, 103, 114, 101, 101, 100, 121, 0, 98, 101, 115, 116, 0]) (v := 32) rfl w82 (by omega) (by omega) rfl ?_
            refine E_bipush (x := nI 32) rfl (by decide) ?_
            refine E_ic (t := 101) (b := false) rfl rfl (by decide) ?_
            refine E_iconst (x := nI 1) rfl (by decide) ?_
            refine E_goto (t := 102) rfl rfl ?_
            exact E_iret rfl rfl
set_option maxHeartbeats 1000000 in
theorem m_sd1 {e : List Int64} {n a j : Nat} {x30 x31 : Int32} {q : ab_q} (hj : j < 8) (hn : n ≤ 160) (ha : a ≤ n) (l_ce : ce.length = 1280) (hce : ∀ p, p < 160 → e.getD p 0 = ce.getD (160 * j + p) 0) : Ev ab_Z0 1 157 [.ref 65, .int (nI 1)] (ww im lf s d k ls rf rz ra rn rq lt m1 m2 m3 m4 bd fc hd sz el q (fUp (fUp (fUp (fUp (fUp (fUp g 27 (nI (160 * j))) 29 (nI n)) 6 (-1)) 28 (nI a)) 30 x30) 31 x31) fm hm so si sh ce ca td wa kp la bf oo bo pw ow tr) (some (.int (nI (if mj1 e n a = 6 then 1 else 0))), (ww im lf s d k ls rf rz ra rn rq lt m1 m2 m3 m4 bd fc hd sz el q (fUp (fUp (fUp (fUp (fUp (fUp g 27 (nI (160 * j))) 29 (nI n)) 6 (-1)) 28 (nI a)) 30 x30) 31 x31) fm hm so si sh ce ca td wa kp la bf oo bo pw ow tr)) := by
  rcases bo2 (chB e n (a) 112) with hb0 | hb0
  · have : ([112, 105, 101, 99, 101, 32, 0, 112, 101, 114, 115, 111, 110, 32, 0, 99, 111, 115, 116, 32, 0, 104, 97, 115, 32, 0, 98, 97, 99, 107, 32, 0, 103, 114, 101, 101, 100, 121, 0, 98, 101, 115, 116, 0] : List Nat).length = 44 := rfl
    have q0 : mtc e n [112, 101, 114, 115, 111, 110] (a) = 0 := mtc_f hb0
    have hm0 : mj1 e n a = 0 := by unfold mj1; omega
    rw [hm0]
    refine Ef.in (md := mX6_stands) (L := [some (.ref 65), some (.int (nI 1)), none, none]) rfl (Nat.le_of_ble_eq_true rfl) rfl ?_
    refine E_iconst (x := nI 0) at_X6_stands_0 (by decide) ?_
    refine E_istore_n (L2 := [some (.ref 65), some (.int (nI 1)), some (.int (nI 0)), none]) at_X6_stands_1 rfl ?_
    refine E_iconst (x := nI 0) at_X6_stands_2 (by decide) ?_
    refine E_istore_n (L2 := [some (.ref 65), some (.int (nI 1)), some (.int (nI 0)), some (.int (nI 0))]) at_X6_stands_3 rfl ?_
    refine E_iload_n at_X6_stands_4 rfl ?_
    refine E_iload_n at_X6_stands_5 rfl ?_
    refine E_ic (t := 32) (b := false) at_X6_stands_6 rfl (by decide) ?_
    refine E_iload_n at_X6_stands_9 rfl ?_
    refine E_aload_n at_X6_stands_10 rfl ?_
    refine E_getfield (v := .ref 82) at_X6_stands_11 w65 rfl (by decide) rfl ?_
    refine E_iload_n at_X6_stands_14 rfl ?_
    refine E_ialN (l := [112, 105, 101, 99, 101, 32, 0, 112, 101, 114, 115, 111, 110, 32, 0, 99, 111, 115, 116, 32, 0, 104, 97, 115, 32, 0, 98, 97, 99, 107, 32, 0, 103, 114, 101, 101, 100, 121, 0, 98, 101, 115, 116, 0]) (v := 112) at_X6_stands_15 w82 (by omega) (by omega) rfl ?_
    refine E_if (t := 23) (b := true) at_X6_stands_16 rfl (by decide) ?_
    refine E_iconst (x := nI 0) at_X6_stands_23 (by decide) ?_
    refine E_iadd (z := nI 0) at_X6_stands_24 (by decide) ?_
    refine E_istore_n (L2 := [some (.ref 65), some (.int (nI 1)), some (.int (nI 0)), some (.int (nI 0))]) at_X6_stands_25 rfl ?_
    refine E_iinc (y := nI 1) (L2 := [some (.ref 65), some (.int (nI 1)), some (.int (nI 1)), some (.int (nI 0))]) at_X6_stands_26 rfl (by decide) rfl ?_
    refine E_goto (t := 4) at_X6_stands_29 rfl ?_
    refine E_iload_n at_X6_stands_4 rfl ?_
    refine E_iload_n at_X6_stands_5 rfl ?_
    refine E_ic (t := 32) (b := false) at_X6_stands_6 rfl (by decide) ?_
    refine E_iload_n at_X6_stands_9 rfl ?_
    refine E_aload_n at_X6_stands_10 rfl ?_
    refine E_getfield (v := .ref 82) at_X6_stands_11 w65 rfl (by decide) rfl ?_
    refine E_iload_n at_X6_stands_14 rfl ?_
    refine E_ialN (l := [112, 105, 101, 99, 101, 32, 0, 112, 101, 114, 115, 111, 110, 32, 0, 99, 111, 115, 116, 32, 0, 104, 97, 115, 32, 0, 98, 97, 99, 107, 32, 0, 103, 114, 101, 101, 100, 121, 0, 98, 101, 115, 116, 0]) (v := 105) at_X6_stands_15 w82 (by omega) (by omega) rfl ?_
    refine E_if (t := 23) (b := true) at_X6_stands_16 rfl (by decide) ?_
    refine E_iconst (x := nI 0) at_X6_stands_23 (by decide) ?_
    refine E_iadd (z := nI 0) at_X6_stands_24 (by decide) ?_
    refine E_istore_n (L2 := [some (.ref 65), some (.int (nI 1)), some (.int (nI 1)), some (.int (nI 0))]) at_X6_stands_25 rfl ?_
    refine E_iinc (y := nI 2) (L2 := [some (.ref 65), some (.int (nI 1)), some (.int (nI 2)), some (.int (nI 0))]) at_X6_stands_26 rfl (by decide) rfl ?_
    refine E_goto (t := 4) at_X6_stands_29 rfl ?_
    refine E_iload_n at_X6_stands_4 rfl ?_
    refine E_iload_n at_X6_stands_5 rfl ?_
    refine E_ic (t := 32) (b := false) at_X6_stands_6 rfl (by decide) ?_
    refine E_iload_n at_X6_stands_9 rfl ?_
    refine E_aload_n at_X6_stands_10 rfl ?_
    refine E_getfield (v := .ref 82) at_X6_stands_11 w65 rfl (by decide) rfl ?_
    refine E_iload_n at_X6_stands_14 rfl ?_
    refine E_ialN (l := [112, 105, 101, 99, 101, 32, 0, 112, 101, 114, 115, 111, 110, 32, 0, 99, 111, 115, 116, 32, 0, 104, 97, 115, 32, 0, 98, 97, 99, 107, 32, 0, 103, 114, 101, 101, 100, 121, 0, 98, 101, 115, 116, 0]) (v := 101) at_X6_stands_15 w82 (by omega) (by omega) rfl ?_
    refine E_if (t := 23) (b := true) at_X6_stands_16 rfl (by decide) ?_
    refine E_iconst (x := nI 0) at_X6_stands_23 (by decide) ?_
    refine E_iadd (z := nI 0) at_X6_stands_24 (by decide) ?_
    refine E_istore_n (L2 := [some (.ref 65), some (.int (nI 1)), some (.int (nI 2)), some (.int (nI 0))]) at_X6_stands_25 rfl ?_
    refine E_iinc (y := nI 3) (L2 := [some (.ref 65), some (.int (nI 1)), some (.int (nI 3)), some (.int (nI 0))]) at_X6_stands_26 rfl (by decide) rfl ?_
    refine E_goto (t := 4) at_X6_stands_29 rfl ?_
    refine E_iload_n at_X6_stands_4 rfl ?_
    refine E_iload_n at_X6_stands_5 rfl ?_
    refine E_ic (t := 32) (b := false) at_X6_stands_6 rfl (by decide) ?_
    refine E_iload_n at_X6_stands_9 rfl ?_
    refine E_aload_n at_X6_stands_10 rfl ?_
    refine E_getfield (v := .ref 82) at_X6_stands_11 w65 rfl (by decide) rfl ?_
    refine E_iload_n at_X6_stands_14 rfl ?_
    refine E_ialN (l := [112, 105, 101, 99, 101, 32, 0, 112, 101, 114, 115, 111, 110, 32, 0, 99, 111, 115, 116, 32, 0, 104, 97, 115, 32, 0, 98, 97, 99, 107, 32, 0, 103, 114, 101, 101, 100, 121, 0, 98, 101, 115, 116, 0]) (v := 99) at_X6_stands_15 w82 (by omega) (by omega) rfl ?_
    refine E_if (t := 23) (b := true) at_X6_stands_16 rfl (by decide) ?_
    refine E_iconst (x := nI 0) at_X6_stands_23 (by decide) ?_
    refine E_iadd (z := nI 0) at_X6_stands_24 (by decide) ?_
    refine E_istore_n (L2 := [some (.ref 65), some (.int (nI 1)), some (.int (nI 3)), some (.int (nI 0))]) at_X6_stands_25 rfl ?_
    refine E_iinc (y := nI 4) (L2 := [some (.ref 65), some (.int (nI 1)), some (.int (nI 4)), some (.int (nI 0))]) at_X6_stands_26 rfl (by decide) rfl ?_
    refine E_goto (t := 4) at_X6_stands_29 rfl ?_
    refine E_iload_n at_X6_stands_4 rfl ?_
    refine E_iload_n at_X6_stands_5 rfl ?_
    refine E_ic (t := 32) (b := false) at_X6_stands_6 rfl (by decide) ?_
    refine E_iload_n at_X6_stands_9 rfl ?_
    refine E_aload_n at_X6_stands_10 rfl ?_
    refine E_getfield (v := .ref 82) at_X6_stands_11 w65 rfl (by decide) rfl ?_
    refine E_iload_n at_X6_stands_14 rfl ?_
    refine E_ialN (l := [112, 105, 101, 99, 101, 32, 0, 112, 101, 114, 115, 111, 110, 32, 0, 99, 111, 115, 116, 32, 0, 104, 97, 115, 32, 0, 98, 97, 99, 107, 32, 0, 103, 114, 101, 101, 100, 121, 0, 98, 101, 115, 116, 0]) (v := 101) at_X6_stands_15 w82 (by omega) (by omega) rfl ?_
    refine E_if (t := 23) (b := true) at_X6_stands_16 rfl (by decide) ?_
    refine E_iconst (x := nI 0) at_X6_stands_23 (by decide) ?_
    refine E_iadd (z := nI 0) at_X6_stands_24 (by decide) ?_
    refine E_istore_n (L2 := [some (.ref 65), some (.int (nI 1)), some (.int (nI 4)), some (.int (nI 0))]) at_X6_stands_25 rfl ?_
    refine E_iinc (y := nI 5) (L2 := [some (.ref 65), some (.int (nI 1)), some (.int (nI 5)), some (.int (nI 0))]) at_X6_stands_26 rfl (by decide) rfl ?_
    refine E_goto (t := 4) at_X6_stands_29 rfl ?_
    refine E_iload_n at_X6_stands_4 rfl ?_
    refine E_iload_n at_X6_stands_5 rfl ?_
    refine E_ic (t := 32) (b := false) at_X6_stands_6 rfl (by decide) ?_
    refine E_iload_n at_X6_stands_9 rfl ?_
    refine E_aload_n at_X6_stands_10 rfl ?_
    refine E_getfield (v := .ref 82) at_X6_stands_11 w65 rfl (by decide) rfl ?_
    refine E_iload_n at_X6_stands_14 rfl ?_
    refine E_ialN (l := [112, 105, 101, 99, 101, 32, 0, 112, 101, 114, 115, 111, 110, 32, 0, 99, 111, 115, 116, 32, 0, 104, 97, 115, 32, 0, 98, 97, 99, 107, 32, 0, 103, 114, 101, 101, 100, 121, 0, 98, 101, 115, 116, 0]) (v := 32) at_X6_stands_15 w82 (by omega) (by omega) rfl ?_
    refine E_if (t := 23) (b := true) at_X6_stands_16 rfl (by decide) ?_
    refine E_iconst (x := nI 0) at_X6_stands_23 (by decide) ?_
    refine E_iadd (z := nI 0) at_X6_stands_24 (by decide) ?_
    refine E_istore_n (L2 := [some (.ref 65), some (.int (nI 1)), some (.int (nI 5)), some (.int (nI 0))]) at_X6_stands_25 rfl ?_
    refine E_iinc (y := nI 6) (L2 := [some (.ref 65), some (.int (nI 1)), some (.int (nI 6)), some (.int (nI 0))]) at_X6_stands_26 rfl (by decide) rfl ?_
    refine E_goto (t := 4) at_X6_stands_29 rfl ?_
    refine E_iload_n at_X6_stands_4 rfl ?_
    refine E_iload_n at_X6_stands_5 rfl ?_
    refine E_ic (t := 32) (b := false) at_X6_stands_6 rfl (by decide) ?_
    refine E_iload_n at_X6_stands_9 rfl ?_
    refine E_aload_n at_X6_stands_10 rfl ?_
    refine E_getfield (v := .ref 82) at_X6_stands_11 w65 rfl (by decide) rfl ?_
    refine E_iload_n at_X6_stands_14 rfl ?_
    refine E_ialN (l := [112, 105, 101, 99, 101, 32, 0, 112, 101, 114, 115, 111, 110, 32, 0, 99, 111, 115, 116, 32, 0, 104, 97, 115, 32, 0, 98, 97, 99, 107, 32, 0, 103, 114, 101, 101, 100, 121, 0, 98, 101, 115, 116, 0]) (v := 0) at_X6_stands_15 w82 (by omega) (by omega) rfl ?_
    refine E_if (t := 23) (b := false) at_X6_stands_16 rfl (by decide) ?_
    refine E_iconst (x := nI 1) at_X6_stands_19 (by decide) ?_
    refine E_goto (t := 24) at_X6_stands_20 rfl ?_
    refine E_iadd (z := nI 1) at_X6_stands_24 (by decide) ?_
    refine E_istore_n (L2 := [some (.ref 65), some (.int (nI 1)), some (.int (nI 6)), some (.int (nI 1))]) at_X6_stands_25 rfl ?_
    refine E_iinc (y := nI 7) (L2 := [some (.ref 65), some (.int (nI 1)), some (.int (nI 7)), some (.int (nI 1))]) at_X6_stands_26 rfl (by decide) rfl ?_
    refine E_goto (t := 4) at_X6_stands_29 rfl ?_
    refine E_iload_n at_X6_stands_4 rfl ?_
    refine E_iload_n at_X6_stands_5 rfl ?_
    refine E_ic (t := 32) (b := true) at_X6_stands_6 rfl (by decide) ?_
    refine E_aload_n at_X6_stands_32 rfl ?_
    refine E_getfield (v := .int (nI a)) at_X6_stands_33 w65 rfl (by decide) rfl ?_
    refine E_istore_n (L2 := [some (.ref 65), some (.int (nI 1)), some (.int (nI 7)), some (.int (nI a))]) at_X6_stands_36 rfl ?_
    refine ms_s0 (x := a + 0) (pos := 7) (ch := 112) hj hn (by omega) l_ce hce (by decide) rfl (by decide) (by decide) hb0 ?_
    refine E_aload_n rfl rfl ?_
    refine E_getfield (v := .ref 82) rfl w65 rfl (by decide) rfl ?_
    refine E_iload_n rfl rfl ?_
    refine E_ialN (l := [112, 105, 101, 99, 101, 32, 0, 112, 101, 114, 115, 111, 110, 32, 0, 99, 111, 115, 116, 32, 0, 104, 97, 115, 32, 0, 98, 97, 99, 107, 32, 0, 103, 114, 101, 101, 100, 121, 0, 98, 101, 115, 116, 0]) (v := 112) rfl w82 (by omega) (by omega) rfl ?_
    refine E_bipush (x := nI 32) rfl (by decide) ?_
    refine E_ic (t := 101) (b := true) rfl rfl (by decide) ?_
    refine E_iconst (x := nI 0) rfl (by decide) ?_
    exact E_iret rfl rfl
  · rcases bo2 (chB e n (a + 1) 101) with hb1 | hb1
    · have : ([112, 105, 101, 99, 101, 32, 0, 112, 101, 114, 115, 111, 110, 32, 0, 99, 111, 115, 116, 32, 0, 104, 97, 115, 32, 0, 98, 97, 99, 107, 32, 0, 103, 114, 101, 101, 100, 121, 0, 98, 101, 115, 116, 0] : List Nat).length = 44 := rfl
      have q0 : mtc e n [112, 101, 114, 115, 111, 110] (a) = mtc e n [101, 114, 115, 111, 110] (a + 1) + 1 := mtc_t hb0
      have q1 : mtc e n [101, 114, 115, 111, 110] (a + 1) = 0 := mtc_f hb1
      have hm0 : mj1 e n a = 1 := by unfold mj1; omega
      rw [hm0]
      refine Ef.in (md := mX6_stands) (L := [some (.ref 65), some (.int (nI 1)), none, none]) rfl (Nat.le_of_ble_eq_true rfl) rfl ?_
      refine E_iconst (x := nI 0) at_X6_stands_0 (by decide) ?_
      refine E_istore_n (L2 := [some (.ref 65), some (.int (nI 1)), some (.int (nI 0)), none]) at_X6_stands_1 rfl ?_
      refine E_iconst (x := nI 0) at_X6_stands_2 (by decide) ?_
      refine E_istore_n (L2 := [some (.ref 65), some (.int (nI 1)), some (.int (nI 0)), some (.int (nI 0))]) at_X6_stands_3 rfl ?_
      refine E_iload_n at_X6_stands_4 rfl ?_
      refine E_iload_n at_X6_stands_5 rfl ?_
      refine E_ic (t := 32) (b := false) at_X6_stands_6 rfl (by decide) ?_
      refine E_iload_n at_X6_stands_9 rfl ?_
      refine E_aload_n at_X6_stands_10 rfl ?_
      refine E_getfield (v := .ref 82) at_X6_stands_11 w65 rfl (by decide) rfl ?_
      refine E_iload_n at_X6_stands_14 rfl ?_
      refine E_ialN (l := [112, 105, 101, 99, 101, 32, 0, 112, 101, 114, 115, 111, 110, 32, 0, 99, 111, 115, 116, 32, 0, 104, 97, 115, 32, 0, 98, 97, 99, 107, 32, 0, 103, 114, 101, 101, 100, 121, 0, 98, 101, 115, 116, 0]) (v := 112) at_X6_stands_15 w82 (by omega) (by omega) rfl ?_
      refine E_if (t := 23) (b := true) at_X6_stands_16 rfl (by decide) ?_
      refine E_iconst (x := nI 0) at_X6_stands_23 (by decide) ?_
      refine E_iadd (z := nI 0) at_X6_stands_24 (by decide) ?_
      refine E_istore_n (L2 := [some (.ref 65), some (.int (nI 1)), some (.int (nI 0)), some (.int (nI 0))]) at_X6_stands_25 rfl ?_
      refine E_iinc (y := nI 1) (L2 := [some (.ref 65), some (.int (nI 1)), some (.int (nI 1)), some (.int (nI 0))]) at_X6_stands_26 rfl (by decide) rfl ?_
      refine E_goto (t := 4) at_X6_stands_29 rfl ?_
      refine E_iload_n at_X6_stands_4 rfl ?_
      refine E_iload_n at_X6_stands_5 rfl ?_
      refine E_ic (t := 32) (b := false) at_X6_stands_6 rfl (by decide) ?_
      refine E_iload_n at_X6_stands_9 rfl ?_
      refine E_aload_n at_X6_stands_10 rfl ?_
      refine E_getfield (v := .ref 82) at_X6_stands_11 w65 rfl (by decide) rfl ?_
      refine E_iload_n at_X6_stands_14 rfl ?_
      refine E_ialN (l := [112, 105, 101, 99, 101, 32, 0, 112, 101, 114, 115, 111, 110, 32, 0, 99, 111, 115, 116, 32, 0, 104, 97, 115, 32, 0, 98, 97, 99, 107, 32, 0, 103, 114, 101, 101, 100, 121, 0, 98, 101, 115, 116, 0]) (v := 105) at_X6_stands_15 w82 (by omega) (by omega) rfl ?_
      refine E_if (t := 23) (b := true) at_X6_stands_16 rfl (by decide) ?_
      refine E_iconst (x := nI 0) at_X6_stands_23 (by decide) ?_
      refine E_iadd (z := nI 0) at_X6_stands_24 (by decide) ?_
      refine E_istore_n (L2 := [some (.ref 65), some (.int (nI 1)), some (.int (nI 1)), some (.int (nI 0))]) at_X6_stands_25 rfl ?_
      refine E_iinc (y := nI 2) (L2 := [some (.ref 65), some (.int (nI 1)), some (.int (nI 2)), some (.int (nI 0))]) at_X6_stands_26 rfl (by decide) rfl ?_
      refine E_goto (t := 4) at_X6_stands_29 rfl ?_
      refine E_iload_n at_X6_stands_4 rfl ?_
      refine E_iload_n at_X6_stands_5 rfl ?_
      refine E_ic (t := 32) (b := false) at_X6_stands_6 rfl (by decide) ?_
      refine E_iload_n at_X6_stands_9 rfl ?_
      refine E_aload_n at_X6_stands_10 rfl ?_
      refine E_getfield (v := .ref 82) at_X6_stands_11 w65 rfl (by decide) rfl ?_
      refine E_iload_n at_X6_stands_14 rfl ?_
      refine E_ialN (l := [112, 105, 101, 99, 101, 32, 0, 112, 101, 114, 115, 111, 110, 32, 0, 99, 111, 115, 116, 32, 0, 104, 97, 115, 32, 0, 98, 97, 99, 107, 32, 0, 103, 114, 101, 101, 100, 121, 0, 98, 101, 115, 116, 0]) (v := 101) at_X6_stands_15 w82 (by omega) (by omega) rfl ?_
      refine E_if (t := 23) (b := true) at_X6_stands_16 rfl (by decide) ?_
      refine E_iconst (x := nI 0) at_X6_stands_23 (by decide) ?_
      refine E_iadd (z := nI 0) at_X6_stands_24 (by decide) ?_
      refine E_istore_n (L2 := [some (.ref 65), some (.int (nI 1)), some (.int (nI 2)), some (.int (nI 0))]) at_X6_stands_25 rfl ?_
      refine E_iinc (y := nI 3) (L2 := [some (.ref 65), some (.int (nI 1)), some (.int (nI 3)), some (.int (nI 0))]) at_X6_stands_26 rfl (by decide) rfl ?_
      refine E_goto (t := 4) at_X6_stands_29 rfl ?_
      refine E_iload_n at_X6_stands_4 rfl ?_
      refine E_iload_n at_X6_stands_5 rfl ?_
      refine E_ic (t := 32) (b := false) at_X6_stands_6 rfl (by decide) ?_
      refine E_iload_n at_X6_stands_9 rfl ?_
      refine E_aload_n at_X6_stands_10 rfl ?_
      refine E_getfield (v := .ref 82) at_X6_stands_11 w65 rfl (by decide) rfl ?_
      refine E_iload_n at_X6_stands_14 rfl ?_
      refine E_ialN (l := [112, 105, 101, 99, 101, 32, 0, 112, 101, 114, 115, 111, 110, 32, 0, 99, 111, 115, 116, 32, 0, 104, 97, 115, 32, 0, 98, 97, 99, 107, 32, 0, 103, 114, 101, 101, 100, 121, 0, 98, 101, 115, 116, 0]) (v := 99) at_X6_stands_15 w82 (by omega) (by omega) rfl ?_
      refine E_if (t := 23) (b := true) at_X6_stands_16 rfl (by decide) ?_
      refine E_iconst (x := nI 0) at_X6_stands_23 (by decide) ?_
      refine E_iadd (z := nI 0) at_X6_stands_24 (by decide) ?_
      refine E_istore_n (L2 := [some (.ref 65), some (.int (nI 1)), some (.int (nI 3)), some (.int (nI 0))]) at_X6_stands_25 rfl ?_
      refine E_iinc (y := nI 4) (L2 := [some (.ref 65), some (.int (nI 1)), some (.int (nI 4)), some (.int (nI 0))]) at_X6_stands_26 rfl (by decide) rfl ?_
      refine E_goto (t := 4) at_X6_stands_29 rfl ?_
      refine E_iload_n at_X6_stands_4 rfl ?_
      refine E_iload_n at_X6_stands_5 rfl ?_
      refine E_ic (t := 32) (b := false) at_X6_stands_6 rfl (by decide) ?_
      refine E_iload_n at_X6_stands_9 rfl ?_
      refine E_aload_n at_X6_stands_10 rfl ?_
      refine E_getfield (v := .ref 82) at_X6_stands_11 w65 rfl (by decide) rfl ?_
      refine E_iload_n at_X6_stands_14 rfl ?_
      refine E_ialN (l := [112, 105, 101, 99, 101, 32, 0, 112, 101, 114, 115, 111, 110, 32, 0, 99, 111, 115, 116, 32, 0, 104, 97, 115, 32, 0, 98, 97, 99, 107, 32, 0, 103, 114, 101, 101, 100, 121, 0, 98, 101, 115, 116, 0]) (v := 101) at_X6_stands_15 w82 (by omega) (by omega) rfl ?_
      refine E_if (t := 23) (b := true) at_X6_stands_16 rfl (by decide) ?_
      refine E_iconst (x := nI 0) at_X6_stands_23 (by decide) ?_
      refine E_iadd (z := nI 0) at_X6_stands_24 (by decide) ?_
      refine E_istore_n (L2 := [some (.ref 65), some (.int (nI 1)), some (.int (nI 4)), some (.int (nI 0))]) at_X6_stands_25 rfl ?_
      refine E_iinc (y := nI 5) (L2 := [some (.ref 65), some (.int (nI 1)), some (.int (nI 5)), some (.int (nI 0))]) at_X6_stands_26 rfl (by decide) rfl ?_
      refine E_goto (t := 4) at_X6_stands_29 rfl ?_
      refine E_iload_n at_X6_stands_4 rfl ?_
      refine E_iload_n at_X6_stands_5 rfl ?_
      refine E_ic (t := 32) (b := false) at_X6_stands_6 rfl (by decide) ?_
      refine E_iload_n at_X6_stands_9 rfl ?_
      refine E_aload_n at_X6_stands_10 rfl ?_
      refine E_getfield (v := .ref 82) at_X6_stands_11 w65 rfl (by decide) rfl ?_
      refine E_iload_n at_X6_stands_14 rfl ?_
      refine E_ialN (l := [112, 105, 101, 99, 101, 32, 0, 112, 101, 114, 115, 111, 110, 32, 0, 99, 111, 115, 116, 32, 0, 104, 97, 115, 32, 0, 98, 97, 99, 107, 32, 0, 103, 114, 101, 101, 100, 121, 0, 98, 101, 115, 116, 0]) (v := 32) at_X6_stands_15 w82 (by omega) (by omega) rfl ?_
      refine E_if (t := 23) (b := true) at_X6_stands_16 rfl (by decide) ?_
      refine E_iconst (x := nI 0) at_X6_stands_23 (by decide) ?_
      refine E_iadd (z := nI 0) at_X6_stands_24 (by decide) ?_
      refine E_istore_n (L2 := [some (.ref 65), some (.int (nI 1)), some (.int (nI 5)), some (.int (nI 0))]) at_X6_stands_25 rfl ?_
      refine E_iinc (y := nI 6) (L2 := [some (.ref 65), some (.int (nI 1)), some (.int (nI 6)), some (.int (nI 0))]) at_X6_stands_26 rfl (by decide) rfl ?_
      refine E_goto (t := 4) at_X6_stands_29 rfl ?_
      refine E_iload_n at_X6_stands_4 rfl ?_
      refine E_iload_n at_X6_stands_5 rfl ?_
      refine E_ic (t := 32) (b := false) at_X6_stands_6 rfl (by decide) ?_
      refine E_iload_n at_X6_stands_9 rfl ?_
      refine E_aload_n at_X6_stands_10 rfl ?_
      refine E_getfield (v := .ref 82) at_X6_stands_11 w65 rfl (by decide) rfl ?_
      refine E_iload_n at_X6_stands_14 rfl ?_
      refine E_ialN (l := [112, 105, 101, 99, 101, 32, 0, 112, 101, 114, 115, 111, 110, 32, 0, 99, 111, 115, 116, 32, 0, 104, 97, 115, 32, 0, 98, 97, 99, 107, 32, 0, 103, 114, 101, 101, 100, 121, 0, 98, 101, 115, 116, 0]) (v := 0) at_X6_stands_15 w82 (by omega) (by omega) rfl ?_
      refine E_if (t := 23) (b := false) at_X6_stands_16 rfl (by decide) ?_
      refine E_iconst (x := nI 1) at_X6_stands_19 (by decide) ?_
      refine E_goto (t := 24) at_X6_stands_20 rfl ?_
      refine E_iadd (z := nI 1) at_X6_stands_24 (by decide) ?_
      refine E_istore_n (L2 := [some (.ref 65), some (.int (nI 1)), some (.int (nI 6)), some (.int (nI 1))]) at_X6_stands_25 rfl ?_
      refine E_iinc (y := nI 7) (L2 := [some (.ref 65), some (.int (nI 1)), some (.int (nI 7)), some (.int (nI 1))]) at_X6_stands_26 rfl (by decide) rfl ?_
      refine E_goto (t := 4) at_X6_stands_29 rfl ?_
      refine E_iload_n at_X6_stands_4 rfl ?_
      refine E_iload_n at_X6_stands_5 rfl ?_
      refine E_ic (t := 32) (b := true) at_X6_stands_6 rfl (by decide) ?_
      refine E_aload_n at_X6_stands_32 rfl ?_
      refine E_getfield (v := .int (nI a)) at_X6_stands_33 w65 rfl (by decide) rfl ?_
      refine E_istore_n (L2 := [some (.ref 65), some (.int (nI 1)), some (.int (nI 7)), some (.int (nI a))]) at_X6_stands_36 rfl ?_
      refine ms_s1 (x := a + 0) (pos := 7) (ch := 112) hj hn (by omega) l_ce hce (by decide) rfl (by decide) (by decide) hb0 ?_
      refine ms_s0 (x := a + 1) (pos := 8) (ch := 101) hj hn (by omega) l_ce hce (by decide) rfl (by decide) (by decide) hb1 ?_
      refine E_aload_n rfl rfl ?_
      refine E_getfield (v := .ref 82) rfl w65 rfl (by decide) rfl ?_
      refine E_iload_n rfl rfl ?_
      refine E_ialN (l := [112, 105, 101, 99, 101, 32, 0, 112, 101, 114, 115, 111, 110, 32, 0, 99, 111, 115, 116, 32, 0, 104, 97, 115, 32, 0, 98, 97, 99, 107, 32, 0, 103, 114, 101, 101, 100, 121, 0, 98, 101, 115, 116, 0]) (v := 101) rfl w82 (by omega) (by omega) rfl ?_
      refine E_bipush (x := nI 32) rfl (by decide) ?_
      refine E_ic (t := 101) (b := true) rfl rfl (by decide) ?_
      refine E_iconst (x := nI 0) rfl (by decide) ?_
      exact E_iret rfl rfl
    · rcases bo2 (chB e n (a + 1 + 1) 114) with hb2 | hb2
      · have : ([112, 105, 101, 99, 101, 32, 0, 112, 101, 114, 115, 111, 110, 32, 0, 99, 111, 115, 116, 32, 0, 104, 97, 115, 32, 0, 98, 97, 99, 107, 32, 0, 103, 114, 101, 101, 100, 121, 0, 98, 101, 115, 116, 0] : List Nat).length = 44 := rfl
        have q0 : mtc e n [112, 101, 114, 115, 111, 110] (a) = mtc e n [101, 114, 115, 111, 110] (a + 1) + 1 := mtc_t hb0
        have q1 : mtc e n [101, 114, 115, 111, 110] (a + 1) = mtc e n [114, 115, 111, 110] (a + 1 + 1) + 1 := mtc_t hb1
        have q2 : mtc e n [114, 115, 111, 110] (a + 1 + 1) = 0 := mtc_f hb2
        have hm0 : mj1 e n a = 2 := by unfold mj1; omega
        rw [hm0]
        refine Ef.in (md := mX6_stands) (L := [some (.ref 65), some (.int (nI 1)), none, none]) rfl (Nat.le_of_ble_eq_true rfl) rfl ?_
        refine E_iconst (x := nI 0) at_X6_stands_0 (by decide) ?_
        refine E_istore_n (L2 := [some (.ref 65), some (.int (nI 1)), some (.int (nI 0)), none]) at_X6_stands_1 rfl ?_
        refine E_iconst (x := nI 0) at_X6_stands_2 (by decide) ?_
        refine E_istore_n (L2 := [some (.ref 65), some (.int (nI 1)), some (.int (nI 0)), some (.int (nI 0))]) at_X6_stands_3 rfl ?_
        refine E_iload_n at_X6_stands_4 rfl ?_
        refine E_iload_n at_X6_stands_5 rfl ?_
        refine E_ic (t := 32) (b := false) at_X6_stands_6 rfl (by decide) ?_
        refine E_iload_n at_X6_stands_9 rfl ?_
        refine E_aload_n at_X6_stands_10 rfl ?_
        refine E_getfield (v := .ref 82) at_X6_stands_11 w65 rfl (by decide) rfl ?_
        refine E_iload_n at_X6_stands_14 rfl ?_
        refine E_ialN (l := [112, 105, 101, 99, 101, 32, 0, 112, 101, 114, 115, 111, 110, 32, 0, 99, 111, 115, 116, 32, 0, 104, 97, 115, 32, 0, 98, 97, 99, 107, 32, 0, 103, 114, 101, 101, 100, 121, 0, 98, 101, 115, 116, 0]) (v := 112) at_X6_stands_15 w82 (by omega) (by omega) rfl ?_
        refine E_if (t := 23) (b := true) at_X6_stands_16 rfl (by decide) ?_
        refine E_iconst (x := nI 0) at_X6_stands_23 (by decide) ?_
        refine E_iadd (z := nI 0) at_X6_stands_24 (by decide) ?_
        refine E_istore_n (L2 := [some (.ref 65), some (.int (nI 1)), some (.int (nI 0)), some (.int (nI 0))]) at_X6_stands_25 rfl ?_
        refine E_iinc (y := nI 1) (L2 := [some (.ref 65), some (.int (nI 1)), some (.int (nI 1)), some (.int (nI 0))]) at_X6_stands_26 rfl (by decide) rfl ?_
        refine E_goto (t := 4) at_X6_stands_29 rfl ?_
        refine E_iload_n at_X6_stands_4 rfl ?_
        refine E_iload_n at_X6_stands_5 rfl ?_
        refine E_ic (t := 32) (b := false) at_X6_stands_6 rfl (by decide) ?_
        refine E_iload_n at_X6_stands_9 rfl ?_
        refine E_aload_n at_X6_stands_10 rfl ?_
        refine E_getfield (v := .ref 82) at_X6_stands_11 w65 rfl (by decide) rfl ?_
        refine E_iload_n at_X6_stands_14 rfl ?_
        refine E_ialN (l := [112, 105, 101, 99, 101, 32, 0, 112, 101, 114, 115, 111, 110, 32, 0, 99, 111, 115, 116, 32, 0, 104, 97, 115, 32, 0, 98, 97, 99, 107, 32, 0, 103, 114, 101, 101, 100, 121, 0, 98, 101, 115, 116, 0]) (v := 105) at_X6_stands_15 w82 (by omega) (by omega) rfl ?_
        refine E_if (t := 23) (b := true) at_X6_stands_16 rfl (by decide) ?_
        refine E_iconst (x := nI 0) at_X6_stands_23 (by decide) ?_
        refine E_iadd (z := nI 0) at_X6_stands_24 (by decide) ?_
        refine E_istore_n (L2 := [some (.ref 65), some (.int (nI 1)), some (.int (nI 1)), some (.int (nI 0))]) at_X6_stands_25 rfl ?_
        refine E_iinc (y := nI 2) (L2 := [some (.ref 65), some (.int (nI 1)), some (.int (nI 2)), some (.int (nI 0))]) at_X6_stands_26 rfl (by decide) rfl ?_
        refine E_goto (t := 4) at_X6_stands_29 rfl ?_
        refine E_iload_n at_X6_stands_4 rfl ?_
        refine E_iload_n at_X6_stands_5 rfl ?_
        refine E_ic (t := 32) (b := false) at_X6_stands_6 rfl (by decide) ?_
        refine E_iload_n at_X6_stands_9 rfl ?_
        refine E_aload_n at_X6_stands_10 rfl ?_
        refine E_getfield (v := .ref 82) at_X6_stands_11 w65 rfl (by decide) rfl ?_
        refine E_iload_n at_X6_stands_14 rfl ?_
        refine E_ialN (l := [112, 105, 101, 99, 101, 32, 0, 112, 101, 114, 115, 111, 110, 32, 0, 99, 111, 115, 116, 32, 0, 104, 97, 115, 32, 0, 98, 97, 99, 107, 32, 0, 103, 114, 101, 101, 100, 121, 0, 98, 101, 115, 116, 0]) (v := 101) at_X6_stands_15 w82 (by omega) (by omega) rfl ?_
        refine E_if (t := 23) (b := true) at_X6_stands_16 rfl (by decide) ?_
        refine E_iconst (x := nI 0) at_X6_stands_23 (by decide) ?_
        refine E_iadd (z := nI 0) at_X6_stands_24 (by decide) ?_
        refine E_istore_n (L2 := [some (.ref 65), some (.int (nI 1)), some (.int (nI 2)), some (.int (nI 0))]) at_X6_stands_25 rfl ?_
        refine E_iinc (y := nI 3) (L2 := [some (.ref 65), some (.int (nI 1)), some (.int (nI 3)), some (.int (nI 0))]) at_X6_stands_26 rfl (by decide) rfl ?_
        refine E_goto (t := 4) at_X6_stands_29 rfl ?_
        refine E_iload_n at_X6_stands_4 rfl ?_
        refine E_iload_n at_X6_stands_5 rfl ?_
        refine E_ic (t := 32) (b := false) at_X6_stands_6 rfl (by decide) ?_
        refine E_iload_n at_X6_stands_9 rfl ?_
        refine E_aload_n at_X6_stands_10 rfl ?_
        refine E_getfield (v := .ref 82) at_X6_stands_11 w65 rfl (by decide) rfl ?_
        refine E_iload_n at_X6_stands_14 rfl ?_
        refine E_ialN (l := [112, 105, 101, 99, 101, 32, 0, 112, 101, 114, 115, 111, 110, 32, 0, 99, 111, 115, 116, 32, 0, 104, 97, 115, 32, 0, 98, 97, 99, 107, 32, 0, 103, 114, 101, 101, 100, 121, 0, 98, 101, 115, 116, 0]) (v := 99) at_X6_stands_15 w82 (by omega) (by omega) rfl ?_
        refine E_if (t := 23) (b := true) at_X6_stands_16 rfl (by decide) ?_
        refine E_iconst (x := nI 0) at_X6_stands_23 (by decide) ?_
        refine E_iadd (z := nI 0) at_X6_stands_24 (by decide) ?_
        refine E_istore_n (L2 := [some (.ref 65), some (.int (nI 1)), some (.int (nI 3)), some (.int (nI 0))]) at_X6_stands_25 rfl ?_
        refine E_iinc (y := nI 4) (L2 := [some (.ref 65), some (.int (nI 1)), some (.int (nI 4)), some (.int (nI 0))]) at_X6_stands_26 rfl (by decide) rfl ?_
        refine E_goto (t := 4) at_X6_stands_29 rfl ?_
        refine E_iload_n at_X6_stands_4 rfl ?_
        refine E_iload_n at_X6_stands_5 rfl ?_
        refine E_ic (t := 32) (b := false) at_X6_stands_6 rfl (by decide) ?_
        refine E_iload_n at_X6_stands_9 rfl ?_
        refine E_aload_n at_X6_stands_10 rfl ?_
        refine E_getfield (v := .ref 82) at_X6_stands_11 w65 rfl (by decide) rfl ?_
        refine E_iload_n at_X6_stands_14 rfl ?_
        refine E_ialN (l := [112, 105, 101, 99, 101, 32, 0, 112, 101, 114, 115, 111, 110, 32, 0, 99, 111, 115, 116, 32, 0, 104, 97, 115, 32, 0, 98, 97, 99, 107, 32, 0, 103, 114, 101, 101, 100, 121, 0, 98, 101, 115, 116, 0]) (v := 101) at_X6_stands_15 w82 (by omega) (by omega) rfl ?_
        refine E_if (t := 23) (b := true) at_X6_stands_16 rfl (by decide) ?_
        refine E_iconst (x := nI 0) at_X6_stands_23 (by decide) ?_
        refine E_iadd (z := nI 0) at_X6_stands_24 (by decide) ?_
        refine E_istore_n (L2 := [some (.ref 65), some (.int (nI 1)), some (.int (nI 4)), some (.int (nI 0))]) at_X6_stands_25 rfl ?_
        refine E_iinc (y := nI 5) (L2 := [some (.ref 65), some (.int (nI 1)), some (.int (nI 5)), some (.int (nI 0))]) at_X6_stands_26 rfl (by decide) rfl ?_
        refine E_goto (t := 4) at_X6_stands_29 rfl ?_
        refine E_iload_n at_X6_stands_4 rfl ?_
        refine E_iload_n at_X6_stands_5 rfl ?_
        refine E_ic (t := 32) (b := false) at_X6_stands_6 rfl (by decide) ?_
        refine E_iload_n at_X6_stands_9 rfl ?_
        refine E_aload_n at_X6_stands_10 rfl ?_
        refine E_getfield (v := .ref 82) at_X6_stands_11 w65 rfl (by decide) rfl ?_
        refine E_iload_n at_X6_stands_14 rfl ?_
        refine E_ialN (l := [112, 105, 101, 99, 101, 32, 0, 112, 101, 114, 115, 111, 110, 32, 0, 99, 111, 115, 116, 32, 0, 104, 97, 115, 32, 0, 98, 97, 99, 107, 32, 0, 103, 114, 101, 101, 100, 121, 0, 98, 101, 115, 116, 0]) (v := 32) at_X6_stands_15 w82 (by omega) (by omega) rfl ?_
        refine E_if (t := 23) (b := true) at_X6_stands_16 rfl (by decide) ?_
        refine E_iconst (x := nI 0) at_X6_stands_23 (by decide) ?_
        refine E_iadd (z := nI 0) at_X6_stands_24 (by decide) ?_
        refine E_istore_n (L2 := [some (.ref 65), some (.int (nI 1)), some (.int (nI 5)), some (.int (nI 0))]) at_X6_stands_25 rfl ?_
        refine E_iinc (y := nI 6) (L2 := [some (.ref 65), some (.int (nI 1)), some (.int (nI 6)), some (.int (nI 0))]) at_X6_stands_26 rfl (by decide) rfl ?_
        refine E_goto (t := 4) at_X6_stands_29 rfl ?_
        refine E_iload_n at_X6_stands_4 rfl ?_
        refine E_iload_n at_X6_stands_5 rfl ?_
        refine E_ic (t := 32) (b := false) at_X6_stands_6 rfl (by decide) ?_
        refine E_iload_n at_X6_stands_9 rfl ?_
        refine E_aload_n at_X6_stands_10 rfl ?_
        refine E_getfield (v := .ref 82) at_X6_stands_11 w65 rfl (by decide) rfl ?_
        refine E_iload_n at_X6_stands_14 rfl ?_
        refine E_ialN (l := [112, 105, 101, 99, 101, 32, 0, 112, 101, 114, 115, 111, 110, 32, 0, 99, 111, 115, 116, 32, 0, 104, 97, 115, 32, 0, 98, 97, 99, 107, 32, 0, 103, 114, 101, 101, 100, 121, 0, 98, 101, 115, 116, 0]) (v := 0) at_X6_stands_15 w82 (by omega) (by omega) rfl ?_
        refine E_if (t := 23) (b := false) at_X6_stands_16 rfl (by decide) ?_
        refine E_iconst (x := nI 1) at_X6_stands_19 (by decide) ?_
        refine E_goto (t := 24) at_X6_stands_20 rfl ?_
        refine E_iadd (z := nI 1) at_X6_stands_24 (by decide) ?_
        refine E_istore_n (L2 := [some (.ref 65), some (.int (nI 1)), some (.int (nI 6)), some (.int (nI 1))]) at_X6_stands_25 rfl ?_
        refine E_iinc (y := nI 7) (L2 := [some (.ref 65), some (.int (nI 1)), some (.int (nI 7)), some (.int (nI 1))]) at_X6_stands_26 rfl (by decide) rfl ?_
        refine E_goto (t := 4) at_X6_stands_29 rfl ?_
        refine E_iload_n at_X6_stands_4 rfl ?_
        refine E_iload_n at_X6_stands_5 rfl ?_
        refine E_ic (t := 32) (b := true) at_X6_stands_6 rfl (by decide) ?_
        refine E_aload_n at_X6_stands_32 rfl ?_
        refine E_getfield (v := .int (nI a)) at_X6_stands_33 w65 rfl (by decide) rfl ?_
        refine E_istore_n (L2 := [some (.ref 65), some (.int (nI 1)), some (.int (nI 7)), some (.int (nI a))]) at_X6_stands_36 rfl ?_
        refine ms_s1 (x := a + 0) (pos := 7) (ch := 112) hj hn (by omega) l_ce hce (by decide) rfl (by decide) (by decide) hb0 ?_
        refine ms_s1 (x := a + 1) (pos := 8) (ch := 101) hj hn (by omega) l_ce hce (by decide) rfl (by decide) (by decide) hb1 ?_
        refine ms_s0 (x := a + 2) (pos := 9) (ch := 114) hj hn (by omega) l_ce hce (by decide) rfl (by decide) (by decide) hb2 ?_
        refine E_aload_n rfl rfl ?_
        refine E_getfield (v := .ref 82) rfl w65 rfl (by decide) rfl ?_
        refine E_iload_n rfl rfl ?_
        refine E_ialN (l := [112, 105, 101, 99, 101, 32, 0, 112, 101, 114, 115, 111, 110, 32, 0, 99, 111, 115, 116, 32, 0, 104, 97, 115, 32, 0, 98, 97, 99, 107, 32, 0, 103, 114, 101, 101, 100, 121, 0, 98, 101, 115, 116, 0]) (v := 114) rfl w82 (by omega) (by omega) rfl ?_
        refine E_bipush (x := nI 32) rfl (by decide) ?_
        refine E_ic (t := 101) (b := true) rfl rfl (by decide) ?_
        refine E_iconst (x := nI 0) rfl (by decide) ?_
        exact E_iret rfl rfl
      · rcases bo2 (chB e n (a + 1 + 1 + 1) 115) with hb3 | hb3
        · have : ([112, 105, 101, 99, 101, 32, 0, 112, 101, 114, 115, 111, 110, 32, 0, 99, 111, 115, 116, 32, 0, 104, 97, 115, 32, 0, 98, 97, 99, 107, 32, 0, 103, 114, 101, 101, 100, 121, 0, 98, 101, 115, 116, 0] : List Nat).length = 44 := rfl
          have q0 : mtc e n [112, 101, 114, 115, 111, 110] (a) = mtc e n [101, 114, 115, 111, 110] (a + 1) + 1 := mtc_t hb0
          have q1 : mtc e n [101, 114, 115, 111, 110] (a + 1) = mtc e n [114, 115, 111, 110] (a + 1 + 1) + 1 := mtc_t hb1
          have q2 : mtc e n [114, 115, 111, 110] (a + 1 + 1) = mtc e n [115, 111, 110] (a + 1 + 1 + 1) + 1 := mtc_t hb2
          have q3 : mtc e n [115, 111, 110] (a + 1 + 1 + 1) = 0 := mtc_f hb3
          have hm0 : mj1 e n a = 3 := by unfold mj1; omega
          rw [hm0]
          refine Ef.in (md := mX6_stands) (L := [some (.ref 65), some (.int (nI 1)), none, none]) rfl (Nat.le_of_ble_eq_true rfl) rfl ?_
          refine E_iconst (x := nI 0) at_X6_stands_0 (by decide) ?_
          refine E_istore_n (L2 := [some (.ref 65), some (.int (nI 1)), some (.int (nI 0)), none]) at_X6_stands_1 rfl ?_
          refine E_iconst (x := nI 0) at_X6_stands_2 (by decide) ?_
          refine E_istore_n (L2 := [some (.ref 65), some (.int (nI 1)), some (.int (nI 0)), some (.int (nI 0))]) at_X6_stands_3 rfl ?_
          refine E_iload_n at_X6_stands_4 rfl ?_
          refine E_iload_n at_X6_stands_5 rfl ?_
          refine E_ic (t := 32) (b := false) at_X6_stands_6 rfl (by decide) ?_
          refine E_iload_n at_X6_stands_9 rfl ?_
          refine E_aload_n at_X6_stands_10 rfl ?_
          refine E_getfield (v := .ref 82) at_X6_stands_11 w65 rfl (by decide) rfl ?_
          refine E_iload_n at_X6_stands_14 rfl ?_
          refine E_ialN (l := [112, 105, 101, 99, 101, 32, 0, 112, 101, 114, 115, 111, 110, 32, 0, 99, 111, 115, 116, 32, 0, 104, 97, 115, 32, 0, 98, 97, 99, 107, 32, 0, 103, 114, 101, 101, 100, 121, 0, 98, 101, 115, 116, 0]) (v := 112) at_X6_stands_15 w82 (by omega) (by omega) rfl ?_
          refine E_if (t := 23) (b := true) at_X6_stands_16 rfl (by decide) ?_
          refine E_iconst (x := nI 0) at_X6_stands_23 (by decide) ?_
          refine E_iadd (z := nI 0) at_X6_stands_24 (by decide) ?_
          refine E_istore_n (L2 := [some (.ref 65), some (.int (nI 1)), some (.int (nI 0)), some (.int (nI 0))]) at_X6_stands_25 rfl ?_
          refine E_iinc (y := nI 1) (L2 := [some (.ref 65), some (.int (nI 1)), some (.int (nI 1)), some (.int (nI 0))]) at_X6_stands_26 rfl (by decide) rfl ?_
          refine E_goto (t := 4) at_X6_stands_29 rfl ?_
          refine E_iload_n at_X6_stands_4 rfl ?_
          refine E_iload_n at_X6_stands_5 rfl ?_
          refine E_ic (t := 32) (b := false) at_X6_stands_6 rfl (by decide) ?_
          refine E_iload_n at_X6_stands_9 rfl ?_
          refine E_aload_n at_X6_stands_10 rfl ?_
          refine E_getfield (v := .ref 82) at_X6_stands_11 w65 rfl (by decide) rfl ?_
          refine E_iload_n at_X6_stands_14 rfl ?_
          refine E_ialN (l := [112, 105, 101, 99, 101, 32, 0, 112, 101, 114, 115, 111, 110, 32, 0, 99, 111, 115, 116, 32, 0, 104, 97, 115, 32, 0, 98, 97, 99, 107, 32, 0, 103, 114, 101, 101, 100, 121, 0, 98, 101, 115, 116, 0]) (v := 105) at_X6_stands_15 w82 (by omega) (by omega) rfl ?_
          refine E_if (t := 23) (b := true) at_X6_stands_16 rfl (by decide) ?_
          refine E_iconst (x := nI 0) at_X6_stands_23 (by decide) ?_
          refine E_iadd (z := nI 0) at_X6_stands_24 (by decide) ?_
          refine E_istore_n (L2 := [some (.ref 65), some (.int (nI 1)), some (.int (nI 1)), some (.int (nI 0))]) at_X6_stands_25 rfl ?_
          refine E_iinc (y := nI 2) (L2 := [some (.ref 65), some (.int (nI 1)), some (.int (nI 2)), some (.int (nI 0))]) at_X6_stands_26 rfl (by decide) rfl ?_
          refine E_goto (t := 4) at_X6_stands_29 rfl ?_
          refine E_iload_n at_X6_stands_4 rfl ?_
          refine E_iload_n at_X6_stands_5 rfl ?_
          refine E_ic (t := 32) (b := false) at_X6_stands_6 rfl (by decide) ?_
          refine E_iload_n at_X6_stands_9 rfl ?_
          refine E_aload_n at_X6_stands_10 rfl ?_
          refine E_getfield (v := .ref 82) at_X6_stands_11 w65 rfl (by decide) rfl ?_
          refine E_iload_n at_X6_stands_14 rfl ?_
          refine E_ialN (l := [112, 105, 101, 99, 101, 32, 0, 112, 101, 114, 115, 111, 110, 32, 0, 99, 111, 115, 116, 32, 0, 104, 97, 115, 32, 0, 98, 97, 99, 107, 32, 0, 103, 114, 101, 101, 100, 121, 0, 98, 101, 115, 116, 0]) (v := 101) at_X6_stands_15 w82 (by omega) (by omega) rfl ?_
          refine E_if (t := 23) (b := true) at_X6_stands_16 rfl (by decide) ?_
          refine E_iconst (x := nI 0) at_X6_stands_23 (by decide) ?_
          refine E_iadd (z := nI 0) at_X6_stands_24 (by decide) ?_
          refine E_istore_n (L2 := [some (.ref 65), some (.int (nI 1)), some (.int (nI 2)), some (.int (nI 0))]) at_X6_stands_25 rfl ?_
          refine E_iinc (y := nI 3) (L2 := [some (.ref 65), some (.int (nI 1)), some (.int (nI 3)), some (.int (nI 0))]) at_X6_stands_26 rfl (by decide) rfl ?_
          refine E_goto (t := 4) at_X6_stands_29 rfl ?_
          refine E_iload_n at_X6_stands_4 rfl ?_
          refine E_iload_n at_X6_stands_5 rfl ?_
          refine E_ic (t := 32) (b := false) at_X6_stands_6 rfl (by decide) ?_
          refine E_iload_n at_X6_stands_9 rfl ?_
          refine E_aload_n at_X6_stands_10 rfl ?_
          refine E_getfield (v := .ref 82) at_X6_stands_11 w65 rfl (by decide) rfl ?_
          refine E_iload_n at_X6_stands_14 rfl ?_
          refine E_ialN (l := [112, 105, 101, 99, 101, 32, 0, 112, 101, 114, 115, 111, 110, 32, 0, 99, 111, 115, 116, 32, 0, 104, 97, 115, 32, 0, 98, 97, 99, 107, 32, 0, 103, 114, 101, 101, 100, 121, 0, 98, 101, 115, 116, 0]) (v := 99) at_X6_stands_15 w82 (by omega) (by omega) rfl ?_
          refine E_if (t := 23) (b := true) at_X6_stands_16 rfl (by decide) ?_
          refine E_iconst (x := nI 0) at_X6_stands_23 (by decide) ?_
          refine E_iadd (z := nI 0) at_X6_stands_24 (by decide) ?_
          refine E_istore_n (L2 := [some (.ref 65), some (.int (nI 1)), some (.int (nI 3)), some (.int (nI 0))]) at_X6_stands_25 rfl ?_
          refine E_iinc (y := nI 4) (L2 := [some (.ref 65), some (.int (nI 1)), some (.int (nI 4)), some (.int (nI 0))]) at_X6_stands_26 rfl (by decide) rfl ?_
          refine E_goto (t := 4) at_X6_stands_29 rfl ?_
          refine E_iload_n at_X6_stands_4 rfl ?_
          refine E_iload_n at_X6_stands_5 rfl ?_
          refine E_ic (t := 32) (b := false) at_X6_stands_6 rfl (by decide) ?_
          refine E_iload_n at_X6_stands_9 rfl ?_
          refine E_aload_n at_X6_stands_10 rfl ?_
          refine E_getfield (v := .ref 82) at_X6_stands_11 w65 rfl (by decide) rfl ?_
          refine E_iload_n at_X6_stands_14 rfl ?_
          refine E_ialN (l := [112, 105, 101, 99, 101, 32, 0, 112, 101, 114, 115, 111, 110, 32, 0, 99, 111, 115, 116, 32, 0, 104, 97, 115, 32, 0, 98, 97, 99, 107, 32, 0, 103, 114, 101, 101, 100, 121, 0, 98, 101, 115, 116, 0]) (v := 101) at_X6_stands_15 w82 (by omega) (by omega) rfl ?_
          refine E_if (t := 23) (b := true) at_X6_stands_16 rfl (by decide) ?_
          refine E_iconst (x := nI 0) at_X6_stands_23 (by decide) ?_
          refine E_iadd (z := nI 0) at_X6_stands_24 (by decide) ?_
          refine E_istore_n (L2 := [some (.ref 65), some (.int (nI 1)), some (.int (nI 4)), some (.int (nI 0))]) at_X6_stands_25 rfl ?_
          refine E_iinc (y := nI 5) (L2 := [some (.ref 65), some (.int (nI 1)), some (.int (nI 5)), some (.int (nI 0))]) at_X6_stands_26 rfl (by decide) rfl ?_
          refine E_goto (t := 4) at_X6_stands_29 rfl ?_
          refine E_iload_n at_X6_stands_4 rfl ?_
          refine E_iload_n at_X6_stands_5 rfl ?_
          refine E_ic (t := 32) (b := false) at_X6_stands_6 rfl (by decide) ?_
          refine E_iload_n at_X6_stands_9 rfl ?_
          refine E_aload_n at_X6_stands_10 rfl ?_
          refine E_getfield (v := .ref 82) at_X6_stands_11 w65 rfl (by decide) rfl ?_
          refine E_iload_n at_X6_stands_14 rfl ?_
          refine E_ialN (l := [112, 105, 101, 99, 101, 32, 0, 112, 101, 114, 115, 111, 110, 32, 0, 99, 111, 115, 116, 32, 0, 104, 97, 115, 32, 0, 98, 97, 99, 107, 32, 0, 103, 114, 101, 101, 100, 121, 0, 98, 101, 115, 116, 0]) (v := 32) at_X6_stands_15 w82 (by omega) (by omega) rfl ?_
          refine E_if (t := 23) (b := true) at_X6_stands_16 rfl (by decide) ?_
          refine E_iconst (x := nI 0) at_X6_stands_23 (by decide) ?_
          refine E_iadd (z := nI 0) at_X6_stands_24 (by decide) ?_
          refine E_istore_n (L2 := [some (.ref 65), some (.int (nI 1)), some (.int (nI 5)), some (.int (nI 0))]) at_X6_stands_25 rfl ?_
          refine E_iinc (y := nI 6) (L2 := [some (.ref 65), some (.int (nI 1)), some (.int (nI 6)), some (.int (nI 0))]) at_X6_stands_26 rfl (by decide) rfl ?_
          refine E_goto (t := 4) at_X6_stands_29 rfl ?_
          refine E_iload_n at_X6_stands_4 rfl ?_
          refine E_iload_n at_X6_stands_5 rfl ?_
          refine E_ic (t := 32) (b := false) at_X6_stands_6 rfl (by decide) ?_
          refine E_iload_n at_X6_stands_9 rfl ?_
          refine E_aload_n at_X6_stands_10 rfl ?_
          refine E_getfield (v := .ref 82) at_X6_stands_11 w65 rfl (by decide) rfl ?_
          refine E_iload_n at_X6_stands_14 rfl ?_
          refine E_ialN (l := [112, 105, 101, 99, 101, 32, 0, 112, 101, 114, 115, 111, 110, 32, 0, 99, 111, 115, 116, 32, 0, 104, 97, 115, 32, 0, 98, 97, 99, 107, 32, 0, 103, 114, 101, 101, 100, 121, 0, 98, 101, 115, 116, 0]) (v := 0) at_X6_stands_15 w82 (by omega) (by omega) rfl ?_
          refine E_if (t := 23) (b := false) at_X6_stands_16 rfl (by decide) ?_
          refine E_iconst (x := nI 1) at_X6_stands_19 (by decide) ?_
          refine E_goto (t := 24) at_X6_stands_20 rfl ?_
          refine E_iadd (z := nI 1) at_X6_stands_24 (by decide) ?_
          refine E_istore_n (L2 := [some (.ref 65), some (.int (nI 1)), some (.int (nI 6)), some (.int (nI 1))]) at_X6_stands_25 rfl ?_
          refine E_iinc (y := nI 7) (L2 := [some (.ref 65), some (.int (nI 1)), some (.int (nI 7)), some (.int (nI 1))]) at_X6_stands_26 rfl (by decide) rfl ?_
          refine E_goto (t := 4) at_X6_stands_29 rfl ?_
          refine E_iload_n at_X6_stands_4 rfl ?_
          refine E_iload_n at_X6_stands_5 rfl ?_
          refine E_ic (t := 32) (b := true) at_X6_stands_6 rfl (by decide) ?_
          refine E_aload_n at_X6_stands_32 rfl ?_
          refine E_getfield (v := .int (nI a)) at_X6_stands_33 w65 rfl (by decide) rfl ?_
          refine E_istore_n (L2 := [some (.ref 65), some (.int (nI 1)), some (.int (nI 7)), some (.int (nI a))]) at_X6_stands_36 rfl ?_
          refine ms_s1 (x := a + 0) (pos := 7) (ch := 112) hj hn (by omega) l_ce hce (by decide) rfl (by decide) (by decide) hb0 ?_
          refine ms_s1 (x := a + 1) (pos := 8) (ch := 101) hj hn (by omega) l_ce hce (by decide) rfl (by decide) (by decide) hb1 ?_
          refine ms_s1 (x := a + 2) (pos := 9) (ch := 114) hj hn (by omega) l_ce hce (by decide) rfl (by decide) (by decide) hb2 ?_
          refine ms_s0 (x := a + 3) (pos := 10) (ch := 115) hj hn (by omega) l_ce hce (by decide) rfl (by decide) (by decide) hb3 ?_
          refine E_aload_n rfl rfl ?_
          refine E_getfield (v := .ref 82) rfl w65 rfl (by decide) rfl ?_
          refine E_iload_n rfl rfl ?_
          refine E_ialN (l := [112, 105, 101, 99, 101, 32, 0, 112, 101, 114, 115, 111, 110, 32, 0, 99, 111, 115, 116, 32, 0, 104, 97, 115, 32, 0, 98, 97, 99, 107, 32, 0, 103, 114, 101, 101, 100, 121, 0, 98, 101, 115, 116, 0]) (v := 115) rfl w82 (by omega) (by omega) rfl ?_
          refine E_bipush (x := nI 32) rfl (by decide) ?_
          refine E_ic (t := 101) (b := true) rfl rfl (by decide) ?_
          refine E_iconst (x := nI 0) rfl (by decide) ?_
          exact E_iret rfl rfl
        · rcases bo2 (chB e n (a + 1 + 1 + 1 + 1) 111) with hb4 | hb4
          · have : ([112, 105, 101, 99, 101, 32, 0, 112, 101, 114, 115, 111, 110, 32, 0, 99, 111, 115, 116, 32, 0, 104, 97, 115, 32, 0, 98, 97, 99, 107, 32, 0, 103, 114, 101, 101, 100, 121, 0, 98, 101, 115, 116, 0] : List Nat).length = 44 := rfl
            have q0 : mtc e n [112, 101, 114, 115, 111, 110] (a) = mtc e n [101, 114, 115, 111, 110] (a + 1) + 1 := mtc_t hb0
            have q1 : mtc e n [101, 114, 115, 111, 110] (a + 1) = mtc e n [114, 115, 111, 110] (a + 1 + 1) + 1 := mtc_t hb1
            have q2 : mtc e n [114, 115, 111, 110] (a + 1 + 1) = mtc e n [115, 111, 110] (a + 1 + 1 + 1) + 1 := mtc_t hb2
            have q3 : mtc e n [115, 111, 110] (a + 1 + 1 + 1) = mtc e n [111, 110] (a + 1 + 1 + 1 + 1) + 1 := mtc_t hb3
            have q4 : mtc e n [111, 110] (a + 1 + 1 + 1 + 1) = 0 := mtc_f hb4
            have hm0 : mj1 e n a = 4 := by unfold mj1; omega
            rw [hm0]
            refine Ef.in (md := mX6_stands) (L := [some (.ref 65), some (.int (nI 1)), none, none]) rfl (Nat.le_of_ble_eq_true rfl) rfl ?_
            refine E_iconst (x := nI 0) at_X6_stands_0 (by decide) ?_
            refine E_istore_n (L2 := [some (.ref 65), some (.int (nI 1)), some (.int (nI 0)), none]) at_X6_stands_1 rfl ?_
            refine E_iconst (x := nI 0) at_X6_stands_2 (by decide) ?_
            refine E_istore_n (L2 := [some (.ref 65), some (.int (nI 1)), some (.int (nI 0)), some (.int (nI 0))]) at_X6_stands_3 rfl ?_
            refine E_iload_n at_X6_stands_4 rfl ?_
            refine E_iload_n at_X6_stands_5 rfl ?_
            refine E_ic (t := 32) (b := false) at_X6_stands_6 rfl (by decide) ?_
            refine E_iload_n at_X6_stands_9 rfl ?_
            refine E_aload_n at_X6_stands_10 rfl ?_
            refine E_getfield (v := .ref 82) at_X6_stands_11 w65 rfl (by decide) rfl ?_
            refine E_iload_n at_X6_stands_14 rfl ?_
            refine E_ialN (l := [112, 105, 101, 99, 101, 32, 0, 112, 101, 114, 115, 111, 110, 32, 0, 99, 111, 115, 116, 32, 0, 104, 97, 115, 32, 0, 98, 97, 99, 107, 32, 0, 103, 114, 101, 101, 100, 121, 0, 98, 101, 115, 116, 0]) (v := 112) at_X6_stands_15 w82 (by omega) (by omega) rfl ?_
            refine E_if (t := 23) (b := true) at_X6_stands_16 rfl (by decide) ?_
            refine E_iconst (x := nI 0) at_X6_stands_23 (by decide) ?_
            refine E_iadd (z := nI 0) at_X6_stands_24 (by decide) ?_
            refine E_istore_n (L2 := [some (.ref 65), some (.int (nI 1)), some (.int (nI 0)), some (.int (nI 0))]) at_X6_stands_25 rfl ?_
            refine E_iinc (y := nI 1) (L2 := [some (.ref 65), some (.int (nI 1)), some (.int (nI 1)), some (.int (nI 0))]) at_X6_stands_26 rfl (by decide) rfl ?_
            refine E_goto (t := 4) at_X6_stands_29 rfl ?_
            refine E_iload_n at_X6_stands_4 rfl ?_
            refine E_iload_n at_X6_stands_5 rfl ?_
            refine E_ic (t := 32) (b := false) at_X6_stands_6 rfl (by decide) ?_
            refine E_iload_n at_X6_stands_9 rfl ?_
            refine E_aload_n at_X6_stands_10 rfl ?_
            refine E_getfield (v := .ref 82) at_X6_stands_11 w65 rfl (by decide) rfl ?_
            refine E_iload_n at_X6_stands_14 rfl ?_
            refine E_ialN (l := [112, 105, 101, 99, 101, 32, 0, 112, 101, 114, 115, 111, 110, 32, 0, 99, 111, 115, 116, 32, 0, 104, 97, 115, 32, 0, 98, 97, 99, 107, 32, 0, 103, 114, 101, 101, 100, 121, 0, 98, 101, 115, 116, 0]) (v := 105) at_X6_stands_15 w82 (by omega) (by omega) rfl ?_
            refine E_if (t := 23) (b := true) at_X6_stands_16 rfl (by decide) ?_
            refine E_iconst (x := nI 0) at_X6_stands_23 (by decide) ?_
            refine E_iadd (z := nI 0) at_X6_stands_24 (by decide) ?_
            refine E_istore_n (L2 := [some (.ref 65), some (.int (nI 1)), some (.int (nI 1)), some (.int (nI 0))]) at_X6_stands_25 rfl ?_
            refine E_iinc (y := nI 2) (L2 := [some (.ref 65), some (.int (nI 1)), some (.int (nI 2)), some (.int (nI 0))]) at_X6_stands_26 rfl (by decide) rfl ?_
            refine E_goto (t := 4) at_X6_stands_29 rfl ?_
            refine E_iload_n at_X6_stands_4 rfl ?_
            refine E_iload_n at_X6_stands_5 rfl ?_
            refine E_ic (t := 32) (b := false) at_X6_stands_6 rfl (by decide) ?_
            refine E_iload_n at_X6_stands_9 rfl ?_
            refine E_aload_n at_X6_stands_10 rfl ?_
            refine E_getfield (v := .ref 82) at_X6_stands_11 w65 rfl (by decide) rfl ?_
            refine E_iload_n at_X6_stands_14 rfl ?_
            refine E_ialN (l := [112, 105, 101, 99, 101, 32, 0, 112, 101, 114, 115, 111, 110, 32, 0, 99, 111, 115, 116, 32, 0, 104, 97, 115, 32, 0, 98, 97, 99, 107, 32, 0, 103, 114, 101, 101, 100, 121, 0, 98, 101, 115, 116, 0]) (v := 101) at_X6_stands_15 w82 (by omega) (by omega) rfl ?_
            refine E_if (t := 23) (b := true) at_X6_stands_16 rfl (by decide) ?_
            refine E_iconst (x := nI 0) at_X6_stands_23 (by decide) ?_
            refine E_iadd (z := nI 0) at_X6_stands_24 (by decide) ?_
            refine E_istore_n (L2 := [some (.ref 65), some (.int (nI 1)), some (.int (nI 2)), some (.int (nI 0))]) at_X6_stands_25 rfl ?_
            refine E_iinc (y := nI 3) (L2 := [some (.ref 65), some (.int (nI 1)), some (.int (nI 3)), some (.int (nI 0))]) at_X6_stands_26 rfl (by decide) rfl ?_
            refine E_goto (t := 4) at_X6_stands_29 rfl ?_
            refine E_iload_n at_X6_stands_4 rfl ?_
            refine E_iload_n at_X6_stands_5 rfl ?_
            refine E_ic (t := 32) (b := false) at_X6_stands_6 rfl (by decide) ?_
            refine E_iload_n at_X6_stands_9 rfl ?_
            refine E_aload_n at_X6_stands_10 rfl ?_
            refine E_getfield (v := .ref 82) at_X6_stands_11 w65 rfl (by decide) rfl ?_
            refine E_iload_n at_X6_stands_14 rfl ?_
            refine E_ialN (l := [112, 105, 101, 99, 101, 32, 0, 112, 101, 114, 115, 111, 110, 32, 0, 99, 111, 115, 116, 32, 0, 104, 97, 115, 32, 0, 98, 97, 99, 107, 32, 0, 103, 114, 101, 101, 100, 121, 0, 98, 101, 115, 116, 0]) (v := 99) at_X6_stands_15 w82 (by omega) (by omega) rfl ?_
            refine E_if (t := 23) (b := true) at_X6_stands_16 rfl (by decide) ?_
            refine E_iconst (x := nI 0) at_X6_stands_23 (by decide) ?_
            refine E_iadd (z := nI 0) at_X6_stands_24 (by decide) ?_
            refine E_istore_n (L2 := [some (.ref 65), some (.int (nI 1)), some (.int (nI 3)), some (.int (nI 0))]) at_X6_stands_25 rfl ?_
            refine E_iinc (y := nI 4) (L2 := [some (.ref 65), some (.int (nI 1)), some (.int (nI 4)), some (.int (nI 0))]) at_X6_stands_26 rfl (by decide) rfl ?_
            refine E_goto (t := 4) at_X6_stands_29 rfl ?_
            refine E_iload_n at_X6_stands_4 rfl ?_
            refine E_iload_n at_X6_stands_5 rfl ?_
            refine E_ic (t := 32) (b := false) at_X6_stands_6 rfl (by decide) ?_
            refine E_iload_n at_X6_stands_9 rfl ?_
            refine E_aload_n at_X6_stands_10 rfl ?_
            refine E_getfield (v := .ref 82) at_X6_stands_11 w65 rfl (by decide) rfl ?_
            refine E_iload_n at_X6_stands_14 rfl ?_
            refine E_ialN (l := [112, 105, 101, 99, 101, 32, 0, 112, 101, 114, 115, 111, 110, 32, 0, 99, 111, 115, 116, 32, 0, 104, 97, 115, 32, 0, 98, 97, 99, 107, 32, 0, 103, 114, 101, 101, 100, 121, 0, 98, 101, 115, 116, 0]) (v := 101) at_X6_stands_15 w82 (by omega) (by omega) rfl ?_
            refine E_if (t := 23) (b := true) at_X6_stands_16 rfl (by decide) ?_
            refine E_iconst (x := nI 0) at_X6_stands_23 (by decide) ?_
            refine E_iadd (z := nI 0) at_X6_stands_24 (by decide) ?_
            refine E_istore_n (L2 := [some (.ref 65), some (.int (nI 1)), some (.int (nI 4)), some (.int (nI 0))]) at_X6_stands_25 rfl ?_
            refine E_iinc (y := nI 5) (L2 := [some (.ref 65), some (.int (nI 1)), some (.int (nI 5)), some (.int (nI 0))]) at_X6_stands_26 rfl (by decide) rfl ?_
            refine E_goto (t := 4) at_X6_stands_29 rfl ?_
            refine E_iload_n at_X6_stands_4 rfl ?_
            refine E_iload_n at_X6_stands_5 rfl ?_
            refine E_ic (t := 32) (b := false) at_X6_stands_6 rfl (by decide) ?_
            refine E_iload_n at_X6_stands_9 rfl ?_
            refine E_aload_n at_X6_stands_10 rfl ?_
            refine E_getfield (v := .ref 82) at_X6_stands_11 w65 rfl (by decide) rfl ?_
            refine E_iload_n at_X6_stands_14 rfl ?_
            refine E_ialN (l := [112, 105, 101, 99, 101, 32, 0, 112, 101, 114, 115, 111, 110, 32, 0, 99, 111, 115, 116, 32, 0, 104, 97, 115, 32, 0, 98, 97, 99, 107, 32, 0, 103, 114, 101, 101, 100, 121, 0, 98, 101, 115, 116, 0]) (v := 32) at_X6_stands_15 w82 (by omega) (by omega) rfl ?_
            refine E_if (t := 23) (b := true) at_X6_stands_16 rfl (by decide) ?_
            refine E_iconst (x := nI 0) at_X6_stands_23 (by decide) ?_
            refine E_iadd (z := nI 0) at_X6_stands_24 (by decide) ?_
            refine E_istore_n (L2 := [some (.ref 65), some (.int (nI 1)), some (.int (nI 5)), some (.int (nI 0))]) at_X6_stands_25 rfl ?_
            refine E_iinc (y := nI 6) (L2 := [some (.ref 65), some (.int (nI 1)), some (.int (nI 6)), some (.int (nI 0))]) at_X6_stands_26 rfl (by decide) rfl ?_
            refine E_goto (t := 4) at_X6_stands_29 rfl ?_
            refine E_iload_n at_X6_stands_4 rfl ?_
            refine E_iload_n at_X6_stands_5 rfl ?_
            refine E_ic (t := 32) (b := false) at_X6_stands_6 rfl (by decide) ?_
            refine E_iload_n at_X6_stands_9 rfl ?_
            refine E_aload_n at_X6_stands_10 rfl ?_
            refine E_getfield (v := .ref 82) at_X6_stands_11 w65 rfl (by decide) rfl ?_
            refine E_iload_n at_X6_stands_14 rfl ?_
            refine E_ialN (l := [112, 105, 101, 99, 101, 32, 0, 112, 101, 114, 115, 111, 110, 32, 0, 99, 111, 115, 116, 32, 0, 104, 97, 115, 32, 0, 98, 97, 99, 107, 32, 0, 103, 114, 101, 101, 100, 121, 0, 98, 101, 115, 116, 0]) (v := 0) at_X6_stands_15 w82 (by omega) (by omega) rfl ?_
            refine E_if (t := 23) (b := false) at_X6_stands_16 rfl (by decide) ?_
            refine E_iconst (x := nI 1) at_X6_stands_19 (by decide) ?_
            refine E_goto (t := 24) at_X6_stands_20 rfl ?_
            refine E_iadd (z := nI 1) at_X6_stands_24 (by decide) ?_
            refine E_istore_n (L2 := [some (.ref 65), some (.int (nI 1)), some (.int (nI 6)), some (.int (nI 1))]) at_X6_stands_25 rfl ?_
            refine E_iinc (y := nI 7) (L2 := [some (.ref 65), some (.int (nI 1)), some (.int (nI 7)), some (.int (nI 1))]) at_X6_stands_26 rfl (by decide) rfl ?_
            refine E_goto (t := 4) at_X6_stands_29 rfl ?_
            refine E_iload_n at_X6_stands_4 rfl ?_
            refine E_iload_n at_X6_stands_5 rfl ?_
            refine E_ic (t := 32) (b := true) at_X6_stands_6 rfl (by decide) ?_
            refine E_aload_n at_X6_stands_32 rfl ?_
            refine E_getfield (v := .int (nI a)) at_X6_stands_33 w65 rfl (by decide) rfl ?_
            refine E_istore_n (L2 := [some (.ref 65), some (.int (nI 1)), some (.int (nI 7)), some (.int (nI a))]) at_X6_stands_36 rfl ?_
            refine ms_s1 (x := a + 0) (pos := 7) (ch := 112) hj hn (by omega) l_ce hce (by decide) rfl (by decide) (by decide) hb0 ?_
            refine ms_s1 (x := a + 1) (pos := 8) (ch := 101) hj hn (by omega) l_ce hce (by decide) rfl (by decide) (by decide) hb1 ?_
            refine ms_s1 (x := a + 2) (pos := 9) (ch := 114) hj hn (by omega) l_ce hce (by decide) rfl (by decide) (by decide) hb2 ?_
            refine ms_s1 (x := a + 3) (pos := 10) (ch := 115) hj hn (by omega) l_ce hce (by decide) rfl (by decide) (by decide) hb3 ?_
            refine ms_s0 (x := a + 4) (pos := 11) (ch := 111) hj hn (by omega) l_ce hce (by decide) rfl (by decide) (by decide) hb4 ?_
            refine E_aload_n rfl rfl ?_
            refine E_getfield (v := .ref 82) rfl w65 rfl (by decide) rfl ?_
            refine E_iload_n rfl rfl ?_
            refine E_ialN (l := [112, 105, 101, 99, 101, 32, 0, 112, 101, 114, 115, 111, 110, 32, 0, 99, 111, 115, 116, 32, 0, 104, 97, 115, 32, 0, 98, 97, 99, 107, 32, 0, 103, 114, 101, 101, 100, 121, 0, 98, 101, 115, 116, 0]) (v := 111) rfl w82 (by omega) (by omega) rfl ?_
            refine E_bipush (x := nI 32) rfl (by decide) ?_
            refine E_ic (t := 101) (b := true) rfl rfl (by decide) ?_
            refine E_iconst (x := nI 0) rfl (by decide) ?_
            exact E_iret rfl rfl
          · rcases bo2 (chB e n (a + 1 + 1 + 1 + 1 + 1) 110) with hb5 | hb5
            · have : ([112, 105, 101, 99, 101, 32, 0, 112, 101, 114, 115, 111, 110, 32, 0, 99, 111, 115, 116, 32, 0, 104, 97, 115, 32, 0, 98, 97, 99, 107, 32, 0, 103, 114, 101, 101, 100, 121, 0, 98, 101, 115, 116, 0] : List Nat).length = 44 := rfl
              have q0 : mtc e n [112, 101, 114, 115, 111, 110] (a) = mtc e n [101, 114, 115, 111, 110] (a + 1) + 1 := mtc_t hb0
              have q1 : mtc e n [101, 114, 115, 111, 110] (a + 1) = mtc e n [114, 115, 111, 110] (a + 1 + 1) + 1 := mtc_t hb1
              have q2 : mtc e n [114, 115, 111, 110] (a + 1 + 1) = mtc e n [115, 111, 110] (a + 1 + 1 + 1) + 1 := mtc_t hb2
              have q3 : mtc e n [115, 111, 110] (a + 1 + 1 + 1) = mtc e n [111, 110] (a + 1 + 1 + 1 + 1) + 1 := mtc_t hb3
              have q4 : mtc e n [111, 110] (a + 1 + 1 + 1 + 1) = mtc e n [110] (a + 1 + 1 + 1 + 1 + 1) + 1 := mtc_t hb4
              have q5 : mtc e n [110] (a + 1 + 1 + 1 + 1 + 1) = 0 := mtc_f hb5
              have hm0 : mj1 e n a = 5 := by unfold mj1; omega
              rw [hm0]
              refine Ef.in (md := mX6_stands) (L := [some (.ref 65), some (.int (nI 1)), none, none]) rfl (Nat.le_of_ble_eq_true rfl) rfl ?_
              refine E_iconst (x := nI 0) at_X6_stands_0 (by decide) ?_
              refine E_istore_n (L2 := [some (.ref 65), some (.int (nI 1)), some (.int (nI 0)), none]) at_X6_stands_1 rfl ?_
              refine E_iconst (x := nI 0) at_X6_stands_2 (by decide) ?_
              refine E_istore_n (L2 := [some (.ref 65), some (.int (nI 1)), some (.int (nI 0)), some (.int (nI 0))]) at_X6_stands_3 rfl ?_
              refine E_iload_n at_X6_stands_4 rfl ?_
              refine E_iload_n at_X6_stands_5 rfl ?_
              refine E_ic (t := 32) (b := false) at_X6_stands_6 rfl (by decide) ?_
              refine E_iload_n at_X6_stands_9 rfl ?_
              refine E_aload_n at_X6_stands_10 rfl ?_
              refine E_getfield (v := .ref 82) at_X6_stands_11 w65 rfl (by decide) rfl ?_
              refine E_iload_n at_X6_stands_14 rfl ?_
              refine E_ialN (l := [112, 105, 101, 99, 101, 32, 0, 112, 101, 114, 115, 111, 110, 32, 0, 99, 111, 115, 116, 32, 0, 104, 97, 115, 32, 0, 98, 97, 99, 107, 32, 0, 103, 114, 101, 101, 100, 121, 0, 98, 101, 115, 116, 0]) (v := 112) at_X6_stands_15 w82 (by omega) (by omega) rfl ?_
              refine E_if (t := 23) (b := true) at_X6_stands_16 rfl (by decide) ?_
              refine E_iconst (x := nI 0) at_X6_stands_23 (by decide) ?_
              refine E_iadd (z := nI 0) at_X6_stands_24 (by decide) ?_
              refine E_istore_n (L2 := [some (.ref 65), some (.int (nI 1)), some (.int (nI 0)), some (.int (nI 0))]) at_X6_stands_25 rfl ?_
              refine E_iinc (y := nI 1) (L2 := [some (.ref 65), some (.int (nI 1)), some (.int (nI 1)), some (.int (nI 0))]) at_X6_stands_26 rfl (by decide) rfl ?_
              refine E_goto (t := 4) at_X6_stands_29 rfl ?_
              refine E_iload_n at_X6_stands_4 rfl ?_
              refine E_iload_n at_X6_stands_5 rfl ?_
              refine E_ic (t := 32) (b := false) at_X6_stands_6 rfl (by decide) ?_
              refine E_iload_n at_X6_stands_9 rfl ?_
              refine E_aload_n at_X6_stands_10 rfl ?_
              refine E_getfield (v := .ref 82) at_X6_stands_11 w65 rfl (by decide) rfl ?_
              refine E_iload_n at_X6_stands_14 rfl ?_
              refine E_ialN (l := [112, 105, 101, 99, 101, 32, 0, 112, 101, 114, 115, 111, 110, 32, 0, 99, 111, 115, 116, 32, 0, 104, 97, 115, 32, 0, 98, 97, 99, 107, 32, 0, 103, 114, 101, 101, 100, 121, 0, 98, 101, 115, 116, 0]) (v := 105) at_X6_stands_15 w82 (by omega) (by omega) rfl ?_
              refine E_if (t := 23) (b := true) at_X6_stands_16 rfl (by decide) ?_
              refine E_iconst (x := nI 0) at_X6_stands_23 (by decide) ?_
              refine E_iadd (z := nI 0) at_X6_stands_24 (by decide) ?_
              refine E_istore_n (L2 := [some (.ref 65), some (.int (nI 1)), some (.int (nI 1)), some (.int (nI 0))]) at_X6_stands_25 rfl ?_
              refine E_iinc (y := nI 2) (L2 := [some (.ref 65), some (.int (nI 1)), some (.int (nI 2)), some (.int (nI 0))]) at_X6_stands_26 rfl (by decide) rfl ?_
              refine E_goto (t := 4) at_X6_stands_29 rfl ?_
              refine E_iload_n at_X6_stands_4 rfl ?_
              refine E_iload_n at_X6_stands_5 rfl ?_
              refine E_ic (t := 32) (b := false) at_X6_stands_6 rfl (by decide) ?_
              refine E_iload_n at_X6_stands_9 rfl ?_
              refine E_aload_n at_X6_stands_10 rfl ?_
              refine E_getfield (v := .ref 82) at_X6_stands_11 w65 rfl (by decide) rfl ?_
              refine E_iload_n at_X6_stands_14 rfl ?_
              refine E_ialN (l := [112, 105, 101, 99, 101, 32, 0, 112, 101, 114, 115, 111, 110, 32, 0, 99, 111, 115, 116, 32, 0, 104, 97, 115, 32, 0, 98, 97, 99, 107, 32, 0, 103, 114, 101, 101, 100, 121, 0, 98, 101, 115, 116, 0]) (v := 101) at_X6_stands_15 w82 (by omega) (by omega) rfl ?_
              refine E_if (t := 23) (b := true) at_X6_stands_16 rfl (by decide) ?_
              refine E_iconst (x := nI 0) at_X6_stands_23 (by decide) ?_
              refine E_iadd (z := nI 0) at_X6_stands_24 (by decide) ?_
              refine E_istore_n (L2 := [some (.ref 65), some (.int (nI 1)), some (.int (nI 2)), some (.int (nI 0))]) at_X6_stands_25 rfl ?_
              refine E_iinc (y := nI 3) (L2 := [some (.ref 65), some (.int (nI 1)), some (.int (nI 3)), some (.int (nI 0))]) at_X6_stands_26 rfl (by decide) rfl ?_
              refine E_goto (t := 4) at_X6_stands_29 rfl ?_
              refine E_iload_n at_X6_stands_4 rfl ?_
              refine E_iload_n at_X6_stands_5 rfl ?_
              refine E_ic (t := 32) (b := false) at_X6_stands_6 rfl (by decide) ?_
              refine E_iload_n at_X6_stands_9 rfl ?_
              refine E_aload_n at_X6_stands_10 rfl ?_
              refine E_getfield (v := .ref 82) at_X6_stands_11 w65 rfl (by decide) rfl ?_
              refine E_iload_n at_X6_stands_14 rfl ?_
              refine E_ialN (l := [112, 105, 101, 99, 101, 32, 0, 112, 101, 114, 115, 111, 110, 32, 0, 99, 111, 115, 116, 32, 0, 104, 97, 115, 32, 0, 98, 97, 99, 107, 32, 0, 103, 114, 101, 101, 100, 121, 0, 98, 101, 115, 116, 0]) (v := 99) at_X6_stands_15 w82 (by omega) (by omega) rfl ?_
              refine E_if (t := 23) (b := true) at_X6_stands_16 rfl (by decide) ?_
              refine E_iconst (x := nI 0) at_X6_stands_23 (by decide) ?_
              refine E_iadd (z := nI 0) at_X6_stands_24 (by decide) ?_
              refine E_istore_n (L2 := [some (.ref 65), some (.int (nI 1)), some (.int (nI 3)), some (.int (nI 0))]) at_X6_stands_25 rfl ?_
              refine E_iinc (y := nI 4) (L2 := [some (.ref 65), some (.int (nI 1)), some (.int (nI 4)), some (.int (nI 0))]) at_X6_stands_26 rfl (by decide) rfl ?_
              refine E_goto (t := 4) at_X6_stands_29 rfl ?_
              refine E_iload_n at_X6_stands_4 rfl ?_
              refine E_iload_n at_X6_stands_5 rfl ?_
              refine E_ic (t := 32) (b := false) at_X6_stands_6 rfl (by decide) ?_
              refine E_iload_n at_X6_stands_9 rfl ?_
              refine E_aload_n at_X6_stands_10 rfl ?_
              refine E_getfield (v := .ref 82) at_X6_stands_11 w65 rfl (by decide) rfl ?_
              refine E_iload_n at_X6_stands_14 rfl ?_
              refine E_ialN (l := [112, 105, 101, 99, 101, 32, 0, 112, 101, 114, 115, 111, 110, 32, 0, 99, 111, 115, 116, 32, 0, 104, 97, 115, 32, 0, 98, 97, 99, 107, 32, 0, 103, 114, 101, 101, 100, 121, 0, 98, 101, 115, 116, 0]) (v := 101) at_X6_stands_15 w82 (by omega) (by omega) rfl ?_
              refine E_if (t := 23) (b := true) at_X6_stands_16 rfl (by decide) ?_
              refine E_iconst (x := nI 0) at_X6_stands_23 (by decide) ?_
              refine E_iadd (z := nI 0) at_X6_stands_24 (by decide) ?_
              refine E_istore_n (L2 := [some (.ref 65), some (.int (nI 1)), some (.int (nI 4)), some (.int (nI 0))]) at_X6_stands_25 rfl ?_
              refine E_iinc (y := nI 5) (L2 := [some (.ref 65), some (.int (nI 1)), some (.int (nI 5)), some (.int (nI 0))]) at_X6_stands_26 rfl (by decide) rfl ?_
              refine E_goto (t := 4) at_X6_stands_29 rfl ?_
              refine E_iload_n at_X6_stands_4 rfl ?_
              refine E_iload_n at_X6_stands_5 rfl ?_
              refine E_ic (t := 32) (b := false) at_X6_stands_6 rfl (by decide) ?_
              refine E_iload_n at_X6_stands_9 rfl ?_
              refine E_aload_n at_X6_stands_10 rfl ?_
              refine E_getfield (v := .ref 82) at_X6_stands_11 w65 rfl (by decide) rfl ?_
              refine E_iload_n at_X6_stands_14 rfl ?_
              refine E_ialN (l := [112, 105, 101, 99, 101, 32, 0, 112, 101, 114, 115, 111, 110, 32, 0, 99, 111, 115, 116, 32, 0, 104, 97, 115, 32, 0, 98, 97, 99, 107, 32, 0, 103, 114, 101, 101, 100, 121, 0, 98, 101, 115, 116, 0]) (v := 32) at_X6_stands_15 w82 (by omega) (by omega) rfl ?_
              refine E_if (t := 23) (b := true) at_X6_stands_16 rfl (by decide) ?_
              refine E_iconst (x := nI 0) at_X6_stands_23 (by decide) ?_
              refine E_iadd (z := nI 0) at_X6_stands_24 (by decide) ?_
              refine E_istore_n (L2 := [some (.ref 65), some (.int (nI 1)), some (.int (nI 5)), some (.int (nI 0))]) at_X6_stands_25 rfl ?_
              refine E_iinc (y := nI 6) (L2 := [some (.ref 65), some (.int (nI 1)), some (.int (nI 6)), some (.int (nI 0))]) at_X6_stands_26 rfl (by decide) rfl ?_
              refine E_goto (t := 4) at_X6_stands_29 rfl ?_
              refine E_iload_n at_X6_stands_4 rfl ?_
              refine E_iload_n at_X6_stands_5 rfl ?_
              refine E_ic (t := 32) (b := false) at_X6_stands_6 rfl (by decide) ?_
              refine E_iload_n at_X6_stands_9 rfl ?_
              refine E_aload_n at_X6_stands_10 rfl ?_
              refine E_getfield (v := .ref 82) at_X6_stands_11 w65 rfl (by decide) rfl ?_
              refine E_iload_n at_X6_stands_14 rfl ?_
              refine E_ialN (l := [112, 105, 101, 99, 101, 32, 0, 112, 101, 114, 115, 111, 110, 32, 0, 99, 111, 115, 116, 32, 0, 104, 97, 115, 32, 0, 98, 97, 99, 107, 32, 0, 103, 114, 101, 101, 100, 121, 0, 98, 101, 115, 116, 0]) (v := 0) at_X6_stands_15 w82 (by omega) (by omega) rfl ?_
              refine E_if (t := 23) (b := false) at_X6_stands_16 rfl (by decide) ?_
              refine E_iconst (x := nI 1) at_X6_stands_19 (by decide) ?_
              refine E_goto (t := 24) at_X6_stands_20 rfl ?_
              refine E_iadd (z := nI 1) at_X6_stands_24 (by decide) ?_
              refine E_istore_n (L2 := [some (.ref 65), some (.int (nI 1)), some (.int (nI 6)), some (.int (nI 1))]) at_X6_stands_25 rfl ?_
              refine E_iinc (y := nI 7) (L2 := [some (.ref 65), some (.int (nI 1)), some (.int (nI 7)), some (.int (nI 1))]) at_X6_stands_26 rfl (by decide) rfl ?_
              refine E_goto (t := 4) at_X6_stands_29 rfl ?_
              refine E_iload_n at_X6_stands_4 rfl ?_
              refine E_iload_n at_X6_stands_5 rfl ?_
              refine E_ic (t := 32) (b := true) at_X6_stands_6 rfl (by decide) ?_
              refine E_aload_n at_X6_stands_32 rfl ?_
              refine E_getfield (v := .int (nI a)) at_X6_stands_33 w65 rfl (by decide) rfl ?_
              refine E_istore_n (L2 := [some (.ref 65), some (.int (nI 1)), some (.int (nI 7)), some (.int (nI a))]) at_X6_stands_36 rfl ?_
              refine ms_s1 (x := a + 0) (pos := 7) (ch := 112) hj hn (by omega) l_ce hce (by decide) rfl (by decide) (by decide) hb0 ?_
              refine ms_s1 (x := a + 1) (pos := 8) (ch := 101) hj hn (by omega) l_ce hce (by decide) rfl (by decide) (by decide) hb1 ?_
              refine ms_s1 (x := a + 2) (pos := 9) (ch := 114) hj hn (by omega) l_ce hce (by decide) rfl (by decide) (by decide) hb2 ?_
              refine ms_s1 (x := a + 3) (pos := 10) (ch := 115) hj hn (by omega) l_ce hce (by decide) rfl (by decide) (by decide) hb3 ?_
              refine ms_s1 (x := a + 4) (pos := 11) (ch := 111) hj hn (by omega) l_ce hce (by decide) rfl (by decide) (by decide) hb4 ?_
              refine ms_s0 (x := a + 5) (pos := 12) (ch := 110) hj hn (by omega) l_ce hce (by decide) rfl (by decide) (by decide) hb5 ?_
              refine E_aload_n rfl rfl ?_
              refine E_getfield (v := .ref 82) rfl w65 rfl (by decide) rfl ?_
              refine E_iload_n rfl rfl ?_
              refine E_ialN (l := [112, 105, 101, 99, 101, 32, 0, 112, 101, 114, 115, 111, 110, 32, 0, 99, 111, 115, 116, 32, 0, 104, 97, 115, 32, 0, 98, 97, 99, 107, 32, 0, 103, 114, 101, 101, 100, 121, 0, 98, 101, 115, 116, 0]) (v := 110) rfl w82 (by omega) (by omega) rfl ?_
              refine E_bipush (x := nI 32) rfl (by decide) ?_
              refine E_ic (t := 101) (b := true) rfl rfl (by decide) ?_
              refine E_iconst (x := nI 0) rfl (by decide) ?_
              exact E_iret rfl rfl
            · have : ([112, 105, 101, 99, 101, 32, 0, 112, 101, 114, 115, 111, 110, 32, 0, 99, 111, 115, 116, 32, 0, 104, 97, 115, 32, 0, 98, 97, 99, 107, 32, 0, 103, 114, 101, 101, 100, 121, 0, 98, 101, 115, 116, 0] : List Nat).length = 44 := rfl
              have q0 : mtc e n [112, 101, 114, 115, 111, 110] (a) = mtc e n [101, 114, 115, 111, 110] (a + 1) + 1 := mtc_t hb0
              have q1 : mtc e n [101, 114, 115, 111, 110] (a + 1) = mtc e n [114, 115, 111, 110] (a + 1 + 1) + 1 := mtc_t hb1
              have q2 : mtc e n [114, 115, 111, 110] (a + 1 + 1) = mtc e n [115, 111, 110] (a + 1 + 1 + 1) + 1 := mtc_t hb2
              have q3 : mtc e n [115, 111, 110] (a + 1 + 1 + 1) = mtc e n [111, 110] (a + 1 + 1 + 1 + 1) + 1 := mtc_t hb3
              have q4 : mtc e n [111, 110] (a + 1 + 1 + 1 + 1) = mtc e n [110] (a + 1 + 1 + 1 + 1 + 1) + 1 := mtc_t hb4
              have q5 : mtc e n [110] (a + 1 + 1 + 1 + 1 + 1) = mtc e n [] (a + 1 + 1 + 1 + 1 + 1 + 1) + 1 := mtc_t hb5
              have q6 : mtc e n [] (a + 1 + 1 + 1 + 1 + 1 + 1) = 0 := rfl
              have hm0 : mj1 e n a = 6 := by unfold mj1; omega
              rw [hm0]
              refine Ef.in (md := mX6_stands) (L := [some (.ref 65), some (.int (nI 1)), none, none]) rfl (Nat.le_of_ble_eq_true rfl) rfl ?_
              refine E_iconst (x := nI 0) at_X6_stands_0 (by decide) ?_
              refine E_istore_n (L2 := [some (.ref 65), some (.int (nI 1)), some (.int (nI 0)), none]) at_X6_stands_1 rfl ?_
              refine E_iconst (x := nI 0) at_X6_stands_2 (by decide) ?_
              refine E_istore_n (L2 := [some (.ref 65), some (.int (nI 1)), some (.int (nI 0)), some (.int (nI 0))]) at_X6_stands_3 rfl ?_
              refine E_iload_n at_X6_stands_4 rfl ?_
              refine E_iload_n at_X6_stands_5 rfl ?_
              refine E_ic (t := 32) (b := false) at_X6_stands_6 rfl (by decide) ?_
              refine E_iload_n at_X6_stands_9 rfl ?_
              refine E_aload_n at_X6_stands_10 rfl ?_
              refine E_getfield (v := .ref 82) at_X6_stands_11 w65 rfl (by decide) rfl ?_
              refine E_iload_n at_X6_stands_14 rfl ?_
              refine E_ialN (l := [112, 105, 101, 99, 101, 32, 0, 112, 101, 114, 115, 111, 110, 32, 0, 99, 111, 115, 116, 32, 0, 104, 97, 115, 32, 0, 98, 97, 99, 107, 32, 0, 103, 114, 101, 101, 100, 121, 0, 98, 101, 115, 116, 0]) (v := 112) at_X6_stands_15 w82 (by omega) (by omega) rfl ?_
              refine E_if (t := 23) (b := true) at_X6_stands_16 rfl (by decide) ?_
              refine E_iconst (x := nI 0) at_X6_stands_23 (by decide) ?_
              refine E_iadd (z := nI 0) at_X6_stands_24 (by decide) ?_
              refine E_istore_n (L2 := [some (.ref 65), some (.int (nI 1)), some (.int (nI 0)), some (.int (nI 0))]) at_X6_stands_25 rfl ?_
              refine E_iinc (y := nI 1) (L2 := [some (.ref 65), some (.int (nI 1)), some (.int (nI 1)), some (.int (nI 0))]) at_X6_stands_26 rfl (by decide) rfl ?_
              refine E_goto (t := 4) at_X6_stands_29 rfl ?_
              refine E_iload_n at_X6_stands_4 rfl ?_
              refine E_iload_n at_X6_stands_5 rfl ?_
              refine E_ic (t := 32) (b := false) at_X6_stands_6 rfl (by decide) ?_
              refine E_iload_n at_X6_stands_9 rfl ?_
              refine E_aload_n at_X6_stands_10 rfl ?_
              refine E_getfield (v := .ref 82) at_X6_stands_11 w65 rfl (by decide) rfl ?_
              refine E_iload_n at_X6_stands_14 rfl ?_
              refine E_ialN (l := [112, 105, 101, 99, 101, 32, 0, 112, 101, 114, 115, 111, 110, 32, 0, 99, 111, 115, 116, 32, 0, 104, 97, 115, 32, 0, 98, 97, 99, 107, 32, 0, 103, 114, 101, 101, 100, 121, 0, 98, 101, 115, 116, 0]) (v := 105) at_X6_stands_15 w82 (by omega) (by omega) rfl ?_
              refine E_if (t := 23) (b := true) at_X6_stands_16 rfl (by decide) ?_
              refine E_iconst (x := nI 0) at_X6_stands_23 (by decide) ?_
              refine E_iadd (z := nI 0) at_X6_stands_24 (by decide) ?_
              refine E_istore_n (L2 := [some (.ref 65), some (.int (nI 1)), some (.int (nI 1)), some (.int (nI 0))]) at_X6_stands_25 rfl ?_
              refine E_iinc (y := nI 2) (L2 := [some (.ref 65), some (.int (nI 1)), some (.int (nI 2)), some (.int (nI 0))]) at_X6_stands_26 rfl (by decide) rfl ?_
              refine E_goto (t := 4) at_X6_stands_29 rfl ?_
              refine E_iload_n at_X6_stands_4 rfl ?_
              refine E_iload_n at_X6_stands_5 rfl ?_
              refine E_ic (t := 32) (b := false) at_X6_stands_6 rfl (by decide) ?_
              refine E_iload_n at_X6_stands_9 rfl ?_
              refine E_aload_n at_X6_stands_10 rfl ?_
              refine E_getfield (v := .ref 82) at_X6_stands_11 w65 rfl (by decide) rfl ?_
              refine E_iload_n at_X6_stands_14 rfl ?_
              refine E_ialN (l := [112, 105, 101, 99, 101, 32, 0, 112, 101, 114, 115, 111, 110, 32, 0, 99, 111, 115, 116, 32, 0, 104, 97, 115, 32, 0, 98, 97, 99, 107, 32, 0, 103, 114, 101, 101, 100, 121, 0, 98, 101, 115, 116, 0]) (v := 101) at_X6_stands_15 w82 (by omega) (by omega) rfl ?_
              refine E_if (t := 23) (b := true) at_X6_stands_16 rfl (by decide) ?_
              refine E_iconst (x := nI 0) at_X6_stands_23 (by decide) ?_
              refine E_iadd (z := nI 0) at_X6_stands_24 (by decide) ?_
              refine E_istore_n (L2 := [some (.ref 65), some (.int (nI 1)), some (.int (nI 2)), some (.int (nI 0))]) at_X6_stands_25 rfl ?_
              refine E_iinc (y := nI 3) (L2 := [some (.ref 65), some (.int (nI 1)), some (.int (nI 3)), some (.int (nI 0))]) at_X6_stands_26 rfl (by decide) rfl ?_
              refine E_goto (t := 4) at_X6_stands_29 rfl ?_
              refine E_iload_n at_X6_stands_4 rfl ?_
              refine E_iload_n at_X6_stands_5 rfl ?_
              refine E_ic (t := 32) (b := false) at_X6_stands_6 rfl (by decide) ?_
              refine E_iload_n at_X6_stands_9 rfl ?_
              refine E_aload_n at_X6_stands_10 rfl ?_
              refine E_getfield (v := .ref 82) at_X6_stands_11 w65 rfl (by decide) rfl ?_
              refine E_iload_n at_X6_stands_14 rfl ?_
              refine E_ialN (l := [112, 105, 101, 99, 101, 32, 0, 112, 101, 114, 115, 111, 110, 32, 0, 99, 111, 115, 116, 32, 0, 104, 97, 115, 32, 0, 98, 97, 99, 107, 32, 0, 103, 114, 101, 101, 100, 121, 0, 98, 101, 115, 116, 0]) (v := 99) at_X6_stands_15 w82 (by omega) (by omega) rfl ?_
              refine E_if (t := 23) (b := true) at_X6_stands_16 rfl (by decide) ?_
              refine E_iconst (x := nI 0) at_X6_stands_23 (by decide) ?_
              refine E_iadd (z := nI 0) at_X6_stands_24 (by decide) ?_
              refine E_istore_n (L2 := [some (.ref 65), some (.int (nI 1)), some (.int (nI 3)), some (.int (nI 0))]) at_X6_stands_25 rfl ?_
              refine E_iinc (y := nI 4) (L2 := [some (.ref 65), some (.int (nI 1)), some (.int (nI 4)), some (.int (nI 0))]) at_X6_stands_26 rfl (by decide) rfl ?_
              refine E_goto (t := 4) at_X6_stands_29 rfl ?_
              refine E_iload_n at_X6_stands_4 rfl ?_
              refine E_iload_n at_X6_stands_5 rfl ?_
              refine E_ic (t := 32) (b := false) at_X6_stands_6 rfl (by decide) ?_
              refine E_iload_n at_X6_stands_9 rfl ?_
              refine E_aload_n at_X6_stands_10 rfl ?_
              refine E_getfield (v := .ref 82) at_X6_stands_11 w65 rfl (by decide) rfl ?_
              refine E_iload_n at_X6_stands_14 rfl ?_
              refine E_ialN (l := [112, 105, 101, 99, 101, 32, 0, 112, 101, 114, 115, 111, 110, 32, 0, 99, 111, 115, 116, 32, 0, 104, 97, 115, 32, 0, 98, 97, 99, 107, 32, 0, 103, 114, 101, 101, 100, 121, 0, 98, 101, 115, 116, 0]) (v := 101) at_X6_stands_15 w82 (by omega) (by omega) rfl ?_
              refine E_if (t := 23) (b := true) at_X6_stands_16 rfl (by decide) ?_
              refine E_iconst (x := nI 0) at_X6_stands_23 (by decide) ?_
              refine E_iadd (z := nI 0) at_X6_stands_24 (by decide) ?_
              refine E_istore_n (L2 := [some (.ref 65), some (.int (nI 1)), some (.int (nI 4)), some (.int (nI 0))]) at_X6_stands_25 rfl ?_
              refine E_iinc (y := nI 5) (L2 := [some (.ref 65), some (.int (nI 1)), some (.int (nI 5)), some (.int (nI 0))]) at_X6_stands_26 rfl (by decide) rfl ?_
              refine E_goto (t := 4) at_X6_stands_29 rfl ?_
              refine E_iload_n at_X6_stands_4 rfl ?_
              refine E_iload_n at_X6_stands_5 rfl ?_
              refine E_ic (t := 32) (b := false) at_X6_stands_6 rfl (by decide) ?_
              refine E_iload_n at_X6_stands_9 rfl ?_
              refine E_aload_n at_X6_stands_10 rfl ?_
              refine E_getfield (v := .ref 82) at_X6_stands_11 w65 rfl (by decide) rfl ?_
              refine E_iload_n at_X6_stands_14 rfl ?_
              refine E_ialN (l := [112, 105, 101, 99, 101, 32, 0, 112, 101, 114, 115, 111, 110, 32, 0, 99, 111, 115, 116, 32, 0, 104, 97, 115, 32, 0, 98, 97, 99, 107, 32, 0, 103, 114, 101, 101, 100, 121, 0, 98, 101, 115, 116, 0]) (v := 32) at_X6_stands_15 w82 (by omega) (by omega) rfl ?_
              refine E_if (t := 23) (b := true) at_X6_stands_16 rfl (by decide) ?_
              refine E_iconst (x := nI 0) at_X6_stands_23 (by decide) ?_
              refine E_iadd (z := nI 0) at_X6_stands_24 (by decide) ?_
              refine E_istore_n (L2 := [some (.ref 65), some (.int (nI 1)), some (.int (nI 5)), some (.int (nI 0))]) at_X6_stands_25 rfl ?_
              refine E_iinc (y := nI 6) (L2 := [some (.ref 65), some (.int (nI 1)), some (.int (nI 6)), some (.int (nI 0))]) at_X6_stands_26 rfl (by decide) rfl ?_
              refine E_goto (t := 4) at_X6_stands_29 rfl ?_
              refine E_iload_n at_X6_stands_4 rfl ?_
              refine E_iload_n at_X6_stands_5 rfl ?_
              refine E_ic (t := 32) (b := false) at_X6_stands_6 rfl (by decide) ?_
              refine E_iload_n at_X6_stands_9 rfl ?_
              refine E_aload_n at_X6_stands_10 rfl ?_
              refine E_getfield (v := .ref 82) at_X6_stands_11 w65 rfl (by decide) rfl ?_
              refine E_iload_n at_X6_stands_14 rfl ?_
              refine E_ialN (l := [112, 105, 101, 99, 101, 32, 0, 112, 101, 114, 115, 111, 110, 32, 0, 99, 111, 115, 116, 32, 0, 104, 97, 115, 32, 0, 98, 97, 99, 107, 32, 0, 103, 114, 101, 101, 100, 121, 0, 98, 101, 115, 116, 0]) (v := 0) at_X6_stands_15 w82 (by omega) (by omega) rfl ?_
              refine E_if (t := 23) (b := false) at_X6_stands_16 rfl (by decide) ?_
              refine E_iconst (x := nI 1) at_X6_stands_19 (by decide) ?_
              refine E_goto (t := 24) at_X6_stands_20 rfl ?_
              refine E_iadd (z := nI 1) at_X6_stands_24 (by decide) ?_
              refine E_istore_n (L2 := [some (.ref 65), some (.int (nI 1)), some (.int (nI 6)), some (.int (nI 1))]) at_X6_stands_25 rfl ?_
              refine E_iinc (y := nI 7) (L2 := [some (.ref 65), some (.int (nI 1)), some (.int (nI 7)), some (.int (nI 1))]) at_X6_stands_26 rfl (by decide) rfl ?_
              refine E_goto (t := 4) at_X6_stands_29 rfl ?_
              refine E_iload_n at_X6_stands_4 rfl ?_
              refine E_iload_n at_X6_stands_5 rfl ?_
              refine E_ic (t := 32) (b := true) at_X6_stands_6 rfl (by decide) ?_
              refine E_aload_n at_X6_stands_32 rfl ?_
              refine E_getfield (v := .int (nI a)) at_X6_stands_33 w65 rfl (by decide) rfl ?_
              refine E_istore_n (L2 := [some (.ref 65), some (.int (nI 1)), some (.int (nI 7)), some (.int (nI a))]) at_X6_stands_36 rfl ?_
              refine ms_s1 (x := a + 0) (pos := 7) (ch := 112) hj hn (by omega) l_ce hce (by decide) rfl (by decide) (by decide) hb0 ?_
              refine ms_s1 (x := a + 1) (pos := 8) (ch := 101) hj hn (by omega) l_ce hce (by decide) rfl (by decide) (by decide) hb1 ?_
              refine ms_s1 (x := a + 2) (pos := 9) (ch := 114) hj hn (by omega) l_ce hce (by decide) rfl (by decide) (by decide) hb2 ?_
              refine ms_s1 (x := a + 3) (pos := 10) (ch := 115) hj hn (by omega) l_ce hce (by decide) rfl (by decide) (by decide) hb3 ?_
              refine ms_s1 (x := a + 4) (pos := 11) (ch := 111) hj hn (by omega) l_ce hce (by decide) rfl (by decide) (by decide) hb4 ?_
              refine ms_s1 (x := a + 5) (pos := 12) (ch := 110) hj hn (by omega) l_ce hce (by decide) rfl (by decide) (by decide) hb5 ?_
              refine E_aload_n rfl rfl ?_
              refine E_getfield (v := .ref 82) rfl w65 rfl (by decide) rfl ?_
              refine E_iload_n rfl rfl ?_
              refine E_ialN (l := [112, 105, 101, 99, 101, 32, 0, 112, 101, 114, 115, 111, 110, 32, 0, 99, 111, 115, 116, 32, 0, 104, 97, 115, 32, 0, 98, 97, 99, 107, 32, 0, 103, 114, 101, 101, 100, 121, 0, 98, 101, 115, 116, 0]) (v := 32) rfl w82 (by omega) (by omega) rfl ?_
              refine E_bipush (x := nI 32) rfl (by decide) ?_
              refine E_ic (t := 86) (b := true) rfl rfl (by decide) ?_
              refine E_aload_n rfl rfl ?_
              refine E_getfield (v := .ref 82) rfl w65 rfl (by decide) rfl ?_
              refine E_iload_n rfl rfl ?_
              refine E_ialN (l := [112, 105, 101, 99, 101, 32, 0, 112, 101, 114, 115, 111, 110, 32, 0, 99, 111, 115, 116, 32, 0, 104, 97, 115, 32, 0, 98, 97, 99, 107, 32, 0, 103, 114, 101, 101, 100, 121, 0, 98, 101, 115, 116, 0]) (v := 32) rfl w82 (by omega) (by omega) rfl ?_
              refine E_bipush (x := nI 32) rfl (by decide) ?_
              refine E_ic (t := 101) (b := false) rfl rfl (by decide) ?_
              refine E_iconst (x := nI 1) rfl (by decide) ?_
              refine E_goto (t := 102) rfl rfl ?_
              exact E_iret rfl rfl
set_option maxHeartbeats 1000000 in
theorem mw_f0 {e : List Int64} {n a j : Nat} {x30 x31 : Int32} {q : ab_q} (hj : j < 8) (hn : n ≤ 160) (ha : a ≤ n) (l_ce : ce.length = 1280) (hce : ∀ p, p < 160 → e.getD p 0 = ce.getD (160 * j + p) 0) {f0 : Nat} {r : Option Value × List ab_C} (hk : mr0 e n a = 6) (K : Ef ab_Z0 0 mX6_word (85, [some (.ref 65), some (.int (nI 0)), some (.int (nI f0)), some (.int (nI 0)), some (.int (nI (a + 6))), some (.int (nI 6))], [], (ww im lf s d k ls rf rz ra rn rq lt m1 m2 m3 m4 bd fc hd sz el q (fUp (fUp (fUp (fUp (fUp (fUp g 27 (nI (160 * j))) 29 (nI n)) 6 (-1)) 28 (nI a)) 30 x30) 31 x31) fm hm so si sh ce ca td wa kp la bf oo bo pw ow tr)) r) : Ef ab_Z0 0 mX6_word (24, [some (.ref 65), some (.int (nI 0)), some (.int (nI f0)), some (.int (nI 0)), some (.int (nI a)), some (.int (nI 0))], [], (ww im lf s d k ls rf rz ra rn rq lt m1 m2 m3 m4 bd fc hd sz el q (fUp (fUp (fUp (fUp (fUp (fUp g 27 (nI (160 * j))) 29 (nI n)) 6 (-1)) 28 (nI a)) 30 x30) 31 x31) fm hm so si sh ce ca td wa kp la bf oo bo pw ow tr)) r := by
  have hx := er_0 hk
  have hb0 := hx.1
  have hb1 := hx.2.1
  have hb2 := hx.2.2.1
  have hb3 := hx.2.2.2.1
  have hb4 := hx.2.2.2.2.1
  have hb5 := hx.2.2.2.2.2
  refine mw_s1 (x := a + 0) (pos := 0) (ch := 112) hj hn (by omega) l_ce hce (by decide) rfl (by decide) (by decide) hb0 ?_
  refine mw_s1 (x := a + 1) (pos := 1) (ch := 105) hj hn (by omega) l_ce hce (by decide) rfl (by decide) (by decide) hb1 ?_
  refine mw_s1 (x := a + 2) (pos := 2) (ch := 101) hj hn (by omega) l_ce hce (by decide) rfl (by decide) (by decide) hb2 ?_
  refine mw_s1 (x := a + 3) (pos := 3) (ch := 99) hj hn (by omega) l_ce hce (by decide) rfl (by decide) (by decide) hb3 ?_
  refine mw_s1 (x := a + 4) (pos := 4) (ch := 101) hj hn (by omega) l_ce hce (by decide) rfl (by decide) (by decide) hb4 ?_
  refine mw_s1 (x := a + 5) (pos := 5) (ch := 32) hj hn (by omega) l_ce hce (by decide) rfl (by decide) (by decide) hb5 ?_
  have : ([112, 105, 101, 99, 101, 32, 0, 112, 101, 114, 115, 111, 110, 32, 0, 99, 111, 115, 116, 32, 0, 104, 97, 115, 32, 0, 98, 97, 99, 107, 32, 0, 103, 114, 101, 101, 100, 121, 0, 98, 101, 115, 116, 0] : List Nat).length = 44 := rfl
  refine E_aload_n rfl rfl ?_
  refine E_getfield (v := .ref 82) rfl w65 rfl (by decide) rfl ?_
  refine E_iload rfl rfl ?_
  refine E_ialN (l := [112, 105, 101, 99, 101, 32, 0, 112, 101, 114, 115, 111, 110, 32, 0, 99, 111, 115, 116, 32, 0, 104, 97, 115, 32, 0, 98, 97, 99, 107, 32, 0, 103, 114, 101, 101, 100, 121, 0, 98, 101, 115, 116, 0]) (v := 0) rfl w82 (by omega) (by omega) rfl ?_
  refine E_if (t := 75) (b := true) rfl rfl (by decide) ?_
  refine E_aload_n rfl rfl ?_
  refine E_getfield (v := .ref 82) rfl w65 rfl (by decide) rfl ?_
  refine E_iload rfl rfl ?_
  refine E_ialN (l := [112, 105, 101, 99, 101, 32, 0, 112, 101, 114, 115, 111, 110, 32, 0, 99, 111, 115, 116, 32, 0, 104, 97, 115, 32, 0, 98, 97, 99, 107, 32, 0, 103, 114, 101, 101, 100, 121, 0, 98, 101, 115, 116, 0]) (v := 0) rfl w82 (by omega) (by omega) rfl ?_
  refine E_if (t := 93) (b := false) rfl rfl (by decide) ?_
  exact K
set_option maxHeartbeats 1000000 in
theorem mw_p0 {e : List Int64} {n a j : Nat} {x30 x31 : Int32} {q : ab_q} (hj : j < 8) (hn : n ≤ 160) (ha : a ≤ n) (l_ce : ce.length = 1280) (hce : ∀ p, p < 160 → e.getD p 0 = ce.getD (160 * j + p) 0) {f0 : Nat} (hf0 : f0 < 1000) {r : Option Value × List ab_C} (hk : ¬ mr0 e n a = 6) (K : ∀ c : Int32, Ef ab_Z0 0 mX6_word (106, [some (.ref 65), some (.int (nI 0)), some (.int (nI (max f0 (a + mr0 e n a)))), some (.int (nI 0)), some (.int (nI (a + mr0 e n a))), some (.int c)], [], (ww im lf s d k ls rf rz ra rn rq lt m1 m2 m3 m4 bd fc hd sz el q (fUp (fUp (fUp (fUp (fUp (fUp g 27 (nI (160 * j))) 29 (nI n)) 6 (-1)) 28 (nI a)) 30 x30) 31 x31) fm hm so si sh ce ca td wa kp la bf oo bo pw ow tr)) r) : Ef ab_Z0 0 mX6_word (24, [some (.ref 65), some (.int (nI 0)), some (.int (nI f0)), some (.int (nI 0)), some (.int (nI a)), some (.int (nI 0))], [], (ww im lf s d k ls rf rz ra rn rq lt m1 m2 m3 m4 bd fc hd sz el q (fUp (fUp (fUp (fUp (fUp (fUp g 27 (nI (160 * j))) 29 (nI n)) 6 (-1)) 28 (nI a)) 30 x30) 31 x31) fm hm so si sh ce ca td wa kp la bf oo bo pw ow tr)) r := by
  rcases bo2 (chB e n (a) 112) with hb0 | hb0
  · by_cases f1 : f0 < a
    · have : ([112, 105, 101, 99, 101, 32, 0, 112, 101, 114, 115, 111, 110, 32, 0, 99, 111, 115, 116, 32, 0, 104, 97, 115, 32, 0, 98, 97, 99, 107, 32, 0, 103, 114, 101, 101, 100, 121, 0, 98, 101, 115, 116, 0] : List Nat).length = 44 := rfl
      have q0 : mtc e n [112, 105, 101, 99, 101, 32] (a) = 0 := mtc_f hb0
      have hm0 : mr0 e n a = 0 := by unfold mr0; omega
      have K2 := K (nI 0)
      rw [hm0] at K2
      rw [show max f0 (a + 0) = a + 0 from by omega] at K2
      refine mw_s0 (x := a + 0) (pos := 0) (ch := 112) hj hn (by omega) l_ce hce (by decide) rfl (by decide) (by decide) hb0 ?_
      refine E_aload_n rfl rfl ?_
      refine E_getfield (v := .ref 82) rfl w65 rfl (by decide) rfl ?_
      refine E_iload rfl rfl ?_
      refine E_ialN (l := [112, 105, 101, 99, 101, 32, 0, 112, 101, 114, 115, 111, 110, 32, 0, 99, 111, 115, 116, 32, 0, 104, 97, 115, 32, 0, 98, 97, 99, 107, 32, 0, 103, 114, 101, 101, 100, 121, 0, 98, 101, 115, 116, 0]) (v := 112) rfl w82 (by omega) (by omega) rfl ?_
      refine E_if (t := 93) (b := true) rfl rfl (by decide) ?_
      refine E_iload rfl rfl ?_
      refine E_iload_n rfl rfl ?_
      refine E_ic (t := 104) (b := false) rfl rfl ((cn_le (nI_toInt (by omega)) (nI_toInt (by omega))).trans (decide_eq_false (by omega))) ?_
      refine E_iload rfl rfl ?_
      refine E_goto (t := 105) rfl rfl ?_
      refine E_istore_n (L2 := [some (.ref 65), some (.int (nI 0)), some (.int (nI (a + 0))), some (.int (nI 0)), some (.int (nI (a + 0))), some (.int (nI 0))]) rfl rfl ?_
      exact K2
    · have : ([112, 105, 101, 99, 101, 32, 0, 112, 101, 114, 115, 111, 110, 32, 0, 99, 111, 115, 116, 32, 0, 104, 97, 115, 32, 0, 98, 97, 99, 107, 32, 0, 103, 114, 101, 101, 100, 121, 0, 98, 101, 115, 116, 0] : List Nat).length = 44 := rfl
      have q0 : mtc e n [112, 105, 101, 99, 101, 32] (a) = 0 := mtc_f hb0
      have hm0 : mr0 e n a = 0 := by unfold mr0; omega
      have K2 := K (nI 0)
      rw [hm0] at K2
      rw [show max f0 (a + 0) = f0 from by omega] at K2
      refine mw_s0 (x := a + 0) (pos := 0) (ch := 112) hj hn (by omega) l_ce hce (by decide) rfl (by decide) (by decide) hb0 ?_
      refine E_aload_n rfl rfl ?_
      refine E_getfield (v := .ref 82) rfl w65 rfl (by decide) rfl ?_
      refine E_iload rfl rfl ?_
      refine E_ialN (l := [112, 105, 101, 99, 101, 32, 0, 112, 101, 114, 115, 111, 110, 32, 0, 99, 111, 115, 116, 32, 0, 104, 97, 115, 32, 0, 98, 97, 99, 107, 32, 0, 103, 114, 101, 101, 100, 121, 0, 98, 101, 115, 116, 0]) (v := 112) rfl w82 (by omega) (by omega) rfl ?_
      refine E_if (t := 93) (b := true) rfl rfl (by decide) ?_
      refine E_iload rfl rfl ?_
      refine E_iload_n rfl rfl ?_
      refine E_ic (t := 104) (b := true) rfl rfl ((cn_le (nI_toInt (by omega)) (nI_toInt (by omega))).trans (decide_eq_true (by omega))) ?_
      refine E_iload_n rfl rfl ?_
      refine E_istore_n (L2 := [some (.ref 65), some (.int (nI 0)), some (.int (nI f0)), some (.int (nI 0)), some (.int (nI (a + 0))), some (.int (nI 0))]) rfl rfl ?_
      exact K2
  · rcases bo2 (chB e n (a + 1) 105) with hb1 | hb1
    · by_cases f2 : f0 < a + 1
      · have : ([112, 105, 101, 99, 101, 32, 0, 112, 101, 114, 115, 111, 110, 32, 0, 99, 111, 115, 116, 32, 0, 104, 97, 115, 32, 0, 98, 97, 99, 107, 32, 0, 103, 114, 101, 101, 100, 121, 0, 98, 101, 115, 116, 0] : List Nat).length = 44 := rfl
        have q0 : mtc e n [112, 105, 101, 99, 101, 32] (a) = mtc e n [105, 101, 99, 101, 32] (a + 1) + 1 := mtc_t hb0
        have q1 : mtc e n [105, 101, 99, 101, 32] (a + 1) = 0 := mtc_f hb1
        have hm0 : mr0 e n a = 1 := by unfold mr0; omega
        have K2 := K (nI 1)
        rw [hm0] at K2
        rw [show max f0 (a + 1) = a + 1 from by omega] at K2
        refine mw_s1 (x := a + 0) (pos := 0) (ch := 112) hj hn (by omega) l_ce hce (by decide) rfl (by decide) (by decide) hb0 ?_
        refine mw_s0 (x := a + 1) (pos := 1) (ch := 105) hj hn (by omega) l_ce hce (by decide) rfl (by decide) (by decide) hb1 ?_
        refine E_aload_n rfl rfl ?_
        refine E_getfield (v := .ref 82) rfl w65 rfl (by decide) rfl ?_
        refine E_iload rfl rfl ?_
        refine E_ialN (l := [112, 105, 101, 99, 101, 32, 0, 112, 101, 114, 115, 111, 110, 32, 0, 99, 111, 115, 116, 32, 0, 104, 97, 115, 32, 0, 98, 97, 99, 107, 32, 0, 103, 114, 101, 101, 100, 121, 0, 98, 101, 115, 116, 0]) (v := 105) rfl w82 (by omega) (by omega) rfl ?_
        refine E_if (t := 93) (b := true) rfl rfl (by decide) ?_
        refine E_iload rfl rfl ?_
        refine E_iload_n rfl rfl ?_
        refine E_ic (t := 104) (b := false) rfl rfl ((cn_le (nI_toInt (by omega)) (nI_toInt (by omega))).trans (decide_eq_false (by omega))) ?_
        refine E_iload rfl rfl ?_
        refine E_goto (t := 105) rfl rfl ?_
        refine E_istore_n (L2 := [some (.ref 65), some (.int (nI 0)), some (.int (nI (a + 1))), some (.int (nI 0)), some (.int (nI (a + 1))), some (.int (nI 1))]) rfl rfl ?_
        exact K2
      · have : ([112, 105, 101, 99, 101, 32, 0, 112, 101, 114, 115, 111, 110, 32, 0, 99, 111, 115, 116, 32, 0, 104, 97, 115, 32, 0, 98, 97, 99, 107, 32, 0, 103, 114, 101, 101, 100, 121, 0, 98, 101, 115, 116, 0] : List Nat).length = 44 := rfl
        have q0 : mtc e n [112, 105, 101, 99, 101, 32] (a) = mtc e n [105, 101, 99, 101, 32] (a + 1) + 1 := mtc_t hb0
        have q1 : mtc e n [105, 101, 99, 101, 32] (a + 1) = 0 := mtc_f hb1
        have hm0 : mr0 e n a = 1 := by unfold mr0; omega
        have K2 := K (nI 1)
        rw [hm0] at K2
        rw [show max f0 (a + 1) = f0 from by omega] at K2
        refine mw_s1 (x := a + 0) (pos := 0) (ch := 112) hj hn (by omega) l_ce hce (by decide) rfl (by decide) (by decide) hb0 ?_
        refine mw_s0 (x := a + 1) (pos := 1) (ch := 105) hj hn (by omega) l_ce hce (by decide) rfl (by decide) (by decide) hb1 ?_
        refine E_aload_n rfl rfl ?_
        refine E_getfield (v := .ref 82) rfl w65 rfl (by decide) rfl ?_
        refine E_iload rfl rfl ?_
        refine E_ialN (l := [112, 105, 101, 99, 101, 32, 0, 112, 101, 114, 115, 111, 110, 32, 0, 99, 111, 115, 116, 32, 0, 104, 97, 115, 32, 0, 98, 97, 99, 107, 32, 0, 103, 114, 101, 101, 100, 121, 0, 98, 101, 115, 116, 0]) (v := 105) rfl w82 (by omega) (by omega) rfl ?_
        refine E_if (t := 93) (b := true) rfl rfl (by decide) ?_
        refine E_iload rfl rfl ?_
        refine E_iload_n rfl rfl ?_
        refine E_ic (t := 104) (b := true) rfl rfl ((cn_le (nI_toInt (by omega)) (nI_toInt (by omega))).trans (decide_eq_true (by omega))) ?_
        refine E_iload_n rfl rfl ?_
        refine E_istore_n (L2 := [some (.ref 65), some (.int (nI 0)), some (.int (nI f0)), some (.int (nI 0)), some (.int (nI (a + 1))), some (.int (nI 1))]) rfl rfl ?_
        exact K2
    · rcases bo2 (chB e n (a + 1 + 1) 101) with hb2 | hb2
      · by_cases f3 : f0 < a + 2
        · have : ([112, 105, 101, 99, 101, 32, 0, 112, 101, 114, 115, 111, 110, 32, 0, 99, 111, 115, 116, 32, 0, 104, 97, 115, 32, 0, 98, 97, 99, 107, 32, 0, 103, 114, 101, 101, 100, 121, 0, 98, 101, 115, 116, 0] : List Nat).length = 44 := rfl
          have q0 : mtc e n [112, 105, 101, 99, 101, 32] (a) = mtc e n [105, 101, 99, 101, 32] (a + 1) + 1 := mtc_t hb0
          have q1 : mtc e n [105, 101, 99, 101, 32] (a + 1) = mtc e n [101, 99, 101, 32] (a + 1 + 1) + 1 := mtc_t hb1
          have q2 : mtc e n [101, 99, 101, 32] (a + 1 + 1) = 0 := mtc_f hb2
          have hm0 : mr0 e n a = 2 := by unfold mr0; omega
          have K2 := K (nI 2)
          rw [hm0] at K2
          rw [show max f0 (a + 2) = a + 2 from by omega] at K2
          refine mw_s1 (x := a + 0) (pos := 0) (ch := 112) hj hn (by omega) l_ce hce (by decide) rfl (by decide) (by decide) hb0 ?_
          refine mw_s1 (x := a + 1) (pos := 1) (ch := 105) hj hn (by omega) l_ce hce (by decide) rfl (by decide) (by decide) hb1 ?_
          refine mw_s0 (x := a + 2) (pos := 2) (ch := 101) hj hn (by omega) l_ce hce (by decide) rfl (by decide) (by decide) hb2 ?_
          refine E_aload_n rfl rfl ?_
          refine E_getfield (v := .ref 82) rfl w65 rfl (by decide) rfl ?_
          refine E_iload rfl rfl ?_
          refine E_ialN (l := [112, 105, 101, 99, 101, 32, 0, 112, 101, 114, 115, 111, 110, 32, 0, 99, 111, 115, 116, 32, 0, 104, 97, 115, 32, 0, 98, 97, 99, 107, 32, 0, 103, 114, 101, 101, 100, 121, 0, 98, 101, 115, 116, 0]) (v := 101) rfl w82 (by omega) (by omega) rfl ?_
          refine E_if (t := 93) (b := true) rfl rfl (by decide) ?_
          refine E_iload rfl rfl ?_
          refine E_iload_n rfl rfl ?_
          refine E_ic (t := 104) (b := false) rfl rfl ((cn_le (nI_toInt (by omega)) (nI_toInt (by omega))).trans (decide_eq_false (by omega))) ?_
          refine E_iload rfl rfl ?_
          refine E_goto (t := 105) rfl rfl ?_
          refine E_istore_n (L2 := [some (.ref 65), some (.int (nI 0)), some (.int (nI (a + 2))), some (.int (nI 0)), some (.int (nI (a + 2))), some (.int (nI 2))]) rfl rfl ?_
          exact K2
        · have : ([112, 105, 101, 99, 101, 32, 0, 112, 101, 114, 115, 111, 110, 32, 0, 99, 111, 115, 116, 32, 0, 104, 97, 115, 32, 0, 98, 97, 99, 107, 32, 0, 103, 114, 101, 101, 100, 121, 0, 98, 101, 115, 116, 0] : List Nat).length = 44 := rfl
          have q0 : mtc e n [112, 105, 101, 99, 101, 32] (a) = mtc e n [105, 101, 99, 101, 32] (a + 1) + 1 := mtc_t hb0
          have q1 : mtc e n [105, 101, 99, 101, 32] (a + 1) = mtc e n [101, 99, 101, 32] (a + 1 + 1) + 1 := mtc_t hb1
          have q2 : mtc e n [101, 99, 101, 32] (a + 1 + 1) = 0 := mtc_f hb2
          have hm0 : mr0 e n a = 2 := by unfold mr0; omega
          have K2 := K (nI 2)
          rw [hm0] at K2
          rw [show max f0 (a + 2) = f0 from by omega] at K2
          refine mw_s1 (x := a + 0) (pos := 0) (ch := 112) hj hn (by omega) l_ce hce (by decide) rfl (by decide) (by decide) hb0 ?_
          refine mw_s1 (x := a + 1) (pos := 1) (ch := 105) hj hn (by omega) l_ce hce (by decide) rfl (by decide) (by decide) hb1 ?_
          refine mw_s0 (x := a + 2) (pos := 2) (ch := 101) hj hn (by omega) l_ce hce (by decide) rfl (by decide) (by decide) hb2 ?_
          refine E_aload_n rfl rfl ?_
          refine E_getfield (v := .ref 82) rfl w65 rfl (by decide) rfl ?_
          refine E_iload rfl rfl ?_
          refine E_ialN (l := [112, 105, 101, 99, 101, 32, 0, 112, 101, 114, 115, 111, 110, 32, 0, 99, 111, 115, 116, 32, 0, 104, 97, 115, 32, 0, 98, 97, 99, 107, 32, 0, 103, 114, 101, 101, 100, 121, 0, 98, 101, 115, 116, 0]) (v := 101) rfl w82 (by omega) (by omega) rfl ?_
          refine E_if (t := 93) (b := true) rfl rfl (by decide) ?_
          refine E_iload rfl rfl ?_
          refine E_iload_n rfl rfl ?_
          refine E_ic (t := 104) (b := true) rfl rfl ((cn_le (nI_toInt (by omega)) (nI_toInt (by omega))).trans (decide_eq_true (by omega))) ?_
          refine E_iload_n rfl rfl ?_
          refine E_istore_n (L2 := [some (.ref 65), some (.int (nI 0)), some (.int (nI f0)), some (.int (nI 0)), some (.int (nI (a + 2))), some (.int (nI 2))]) rfl rfl ?_
          exact K2
      · rcases bo2 (chB e n (a + 1 + 1 + 1) 99) with hb3 | hb3
        · by_cases f4 : f0 < a + 3
          · have : ([112, 105, 101, 99, 101, 32, 0, 112, 101, 114, 115, 111, 110, 32, 0, 99, 111, 115, 116, 32, 0, 104, 97, 115, 32, 0, 98, 97, 99, 107, 32, 0, 103, 114, 101, 101, 100, 121, 0, 98, 101, 115, 116, 0] : List Nat).length = 44 := rfl
            have q0 : mtc e n [112, 105, 101, 99, 101, 32] (a) = mtc e n [105, 101, 99, 101, 32] (a + 1) + 1 := mtc_t hb0
            have q1 : mtc e n [105, 101, 99, 101, 32] (a + 1) = mtc e n [101, 99, 101, 32] (a + 1 + 1) + 1 := mtc_t hb1
            have q2 : mtc e n [101, 99, 101, 32] (a + 1 + 1) = mtc e n [99, 101, 32] (a + 1 + 1 + 1) + 1 := mtc_t hb2
            have q3 : mtc e n [99, 101, 32] (a + 1 + 1 + 1) = 0 := mtc_f hb3
            have hm0 : mr0 e n a = 3 := by unfold mr0; omega
            have K2 := K (nI 3)
            rw [hm0] at K2
            rw [show max f0 (a + 3) = a + 3 from by omega] at K2
            refine mw_s1 (x := a + 0) (pos := 0) (ch := 112) hj hn (by omega) l_ce hce (by decide) rfl (by decide) (by decide) hb0 ?_
            refine mw_s1 (x := a + 1) (pos := 1) (ch := 105) hj hn (by omega) l_ce hce (by decide) rfl (by decide) (by decide) hb1 ?_
            refine mw_s1 (x := a + 2) (pos := 2) (ch := 101) hj hn (by omega) l_ce hce (by decide) rfl (by decide) (by decide) hb2 ?_
            refine mw_s0 (x := a + 3) (pos := 3) (ch := 99) hj hn (by omega) l_ce hce (by decide) rfl (by decide) (by decide) hb3 ?_
            refine E_aload_n rfl rfl ?_
            refine E_getfield (v := .ref 82) rfl w65 rfl (by decide) rfl ?_
            refine E_iload rfl rfl ?_
            refine E_ialN (l := [112, 105, 101, 99, 101, 32, 0, 112, 101, 114, 115, 111, 110, 32, 0, 99, 111, 115, 116, 32, 0, 104, 97, 115, 32, 0, 98, 97, 99, 107, 32, 0, 103, 114, 101, 101, 100, 121, 0, 98, 101, 115, 116, 0]) (v := 99) rfl w82 (by omega) (by omega) rfl ?_
            refine E_if (t := 93) (b := true) rfl rfl (by decide) ?_
            refine E_iload rfl rfl ?_
            refine E_iload_n rfl rfl ?_
            refine E_ic (t := 104) (b := false) rfl rfl ((cn_le (nI_toInt (by omega)) (nI_toInt (by omega))).trans (decide_eq_false (by omega))) ?_
            refine E_iload rfl rfl ?_
            refine E_goto (t := 105) rfl rfl ?_
            refine E_istore_n (L2 := [some (.ref 65), some (.int (nI 0)), some (.int (nI (a + 3))), some (.int (nI 0)), some (.int (nI (a + 3))), some (.int (nI 3))]) rfl rfl ?_
            exact K2
          · have : ([112, 105, 101, 99, 101, 32, 0, 112, 101, 114, 115, 111, 110, 32, 0, 99, 111, 115, 116, 32, 0, 104, 97, 115, 32, 0, 98, 97, 99, 107, 32, 0, 103, 114, 101, 101, 100, 121, 0, 98, 101, 115, 116, 0] : List Nat).length = 44 := rfl
            have q0 : mtc e n [112, 105, 101, 99, 101, 32] (a) = mtc e n [105, 101, 99, 101, 32] (a + 1) + 1 := mtc_t hb0
            have q1 : mtc e n [105, 101, 99, 101, 32] (a + 1) = mtc e n [101, 99, 101, 32] (a + 1 + 1) + 1 := mtc_t hb1
            have q2 : mtc e n [101, 99, 101, 32] (a + 1 + 1) = mtc e n [99, 101, 32] (a + 1 + 1 + 1) + 1 := mtc_t hb2
            have q3 : mtc e n [99, 101, 32] (a + 1 + 1 + 1) = 0 := mtc_f hb3
            have hm0 : mr0 e n a = 3 := by unfold mr0; omega
            have K2 := K (nI 3)
            rw [hm0] at K2
            rw [show max f0 (a + 3) = f0 from by omega] at K2
            refine mw_s1 (x := a + 0) (pos := 0) (ch := 112) hj hn (by omega) l_ce hce (by decide) rfl (by decide) (by decide) hb0 ?_
            refine mw_s1 (x := a + 1) (pos := 1) (ch := 105) hj hn (by omega) l_ce hce (by decide) rfl (by decide) (by decide) hb1 ?_
            refine mw_s1 (x := a + 2) (pos := 2) (ch := 101) hj hn (by omega) l_ce hce (by decide) rfl (by decide) (by decide) hb2 ?_
            refine mw_s0 (x := a + 3) (pos := 3) (ch := 99) hj hn (by omega) l_ce hce (by decide) rfl (by decide) (by decide) hb3 ?_
            refine E_aload_n rfl rfl ?_
            refine E_getfield (v := .ref 82) rfl w65 rfl (by decide) rfl ?_
            refine E_iload rfl rfl ?_
            refine E_ialN (l := [112, 105, 101, 99, 101, 32, 0, 112, 101, 114, 115, 111, 110, 32, 0, 99, 111, 115, 116, 32, 0, 104, 97, 115, 32, 0, 98, 97, 99, 107, 32, 0, 103, 114, 101, 101, 100, 121, 0, 98, 101, 115, 116, 0]) (v := 99) rfl w82 (by omega) (by omega) rfl ?_
            refine E_if (t := 93) (b := true) rfl rfl (by decide) ?_
            refine E_iload rfl rfl ?_
            refine E_iload_n rfl rfl ?_
            refine E_ic (t := 104) (b := true) rfl rfl ((cn_le (nI_toInt (by omega)) (nI_toInt (by omega))).trans (decide_eq_true (by omega))) ?_
            refine E_iload_n rfl rfl ?_
            refine E_istore_n (L2 := [some (.ref 65), some (.int (nI 0)), some (.int (nI f0)), some (.int (nI 0)), some (.int (nI (a + 3))), some (.int (nI 3))]) rfl rfl ?_
            exact K2
        · rcases bo2 (chB e n (a + 1 + 1 + 1 + 1) 101) with hb4 | hb4
          · by_cases f5 : f0 < a + 4
            · have : ([112, 105, 101, 99, 101, 32, 0, 112, 101, 114, 115, 111, 110, 32, 0, 99, 111, 115, 116, 32, 0, 104, 97, 115, 32, 0, 98, 97, 99, 107, 32, 0, 103, 114, 101, 101, 100, 121, 0, 98, 101, 115, 116, 0] : List Nat).length = 44 := rfl
              have q0 : mtc e n [112, 105, 101, 99, 101, 32] (a) = mtc e n [105, 101, 99, 101, 32] (a + 1) + 1 := mtc_t hb0
              have q1 : mtc e n [105, 101, 99, 101, 32] (a + 1) = mtc e n [101, 99, 101, 32] (a + 1 + 1) + 1 := mtc_t hb1
              have q2 : mtc e n [101, 99, 101, 32] (a + 1 + 1) = mtc e n [99, 101, 32] (a + 1 + 1 + 1) + 1 := mtc_t hb2
              have q3 : mtc e n [99, 101, 32] (a + 1 + 1 + 1) = mtc e n [101, 32] (a + 1 + 1 + 1 + 1) + 1 := mtc_t hb3
              have q4 : mtc e n [101, 32] (a + 1 + 1 + 1 + 1) = 0 := mtc_f hb4
              have hm0 : mr0 e n a = 4 := by unfold mr0; omega
              have K2 := K (nI 4)
              rw [hm0] at K2
              rw [show max f0 (a + 4) = a + 4 from by omega] at K2
              refine mw_s1 (x := a + 0) (pos := 0) (ch := 112) hj hn (by omega) l_ce hce (by decide) rfl (by decide) (by decide) hb0 ?_
              refine mw_s1 (x := a + 1) (pos := 1) (ch := 105) hj hn (by omega) l_ce hce (by decide) rfl (by decide) (by decide) hb1 ?_
              refine mw_s1 (x := a + 2) (pos := 2) (ch := 101) hj hn (by omega) l_ce hce (by decide) rfl (by decide) (by decide) hb2 ?_
              refine mw_s1 (x := a + 3) (pos := 3) (ch := 99) hj hn (by omega) l_ce hce (by decide) rfl (by decide) (by decide) hb3 ?_
              refine mw_s0 (x := a + 4) (pos := 4) (ch := 101) hj hn (by omega) l_ce hce (by decide) rfl (by decide) (by decide) hb4 ?_
              refine E_aload_n rfl rfl ?_
              refine E_getfield (v := .ref 82) rfl w65 rfl (by decide) rfl ?_
              refine E_iload rfl rfl ?_
              refine E_ialN (l := [112, 105, 101, 99, 101, 32, 0, 112, 101, 114, 115, 111, 110, 32, 0, 99, 111, 115, 116, 32, 0, 104, 97, 115, 32, 0, 98, 97, 99, 107, 32, 0, 103, 114, 101, 101, 100, 121, 0, 98, 101, 115, 116, 0]) (v := 101) rfl w82 (by omega) (by omega) rfl ?_
              refine E_if (t := 93) (b := true) rfl rfl (by decide) ?_
              refine E_iload rfl rfl ?_
              refine E_iload_n rfl rfl ?_
              refine E_ic (t := 104) (b := false) rfl rfl ((cn_le (nI_toInt (by omega)) (nI_toInt (by omega))).trans (decide_eq_false (by omega))) ?_
              refine E_iload rfl rfl ?_
              refine E_goto (t := 105) rfl rfl ?_
              refine E_istore_n (L2 := [some (.ref 65), some (.int (nI 0)), some (.int (nI (a + 4))), some (.int (nI 0)), some (.int (nI (a + 4))), some (.int (nI 4))]) rfl rfl ?_
              exact K2
            · have : ([112, 105, 101, 99, 101, 32, 0, 112, 101, 114, 115, 111, 110, 32, 0, 99, 111, 115, 116, 32, 0, 104, 97, 115, 32, 0, 98, 97, 99, 107, 32, 0, 103, 114, 101, 101, 100, 121, 0, 98, 101, 115, 116, 0] : List Nat).length = 44 := rfl
              have q0 : mtc e n [112, 105, 101, 99, 101, 32] (a) = mtc e n [105, 101, 99, 101, 32] (a + 1) + 1 := mtc_t hb0
              have q1 : mtc e n [105, 101, 99, 101, 32] (a + 1) = mtc e n [101, 99, 101, 32] (a + 1 + 1) + 1 := mtc_t hb1
              have q2 : mtc e n [101, 99, 101, 32] (a + 1 + 1) = mtc e n [99, 101, 32] (a + 1 + 1 + 1) + 1 := mtc_t hb2
              have q3 : mtc e n [99, 101, 32] (a + 1 + 1 + 1) = mtc e n [101, 32] (a + 1 + 1 + 1 + 1) + 1 := mtc_t hb3
              have q4 : mtc e n [101, 32] (a + 1 + 1 + 1 + 1) = 0 := mtc_f hb4
              have hm0 : mr0 e n a = 4 := by unfold mr0; omega
              have K2 := K (nI 4)
              rw [hm0] at K2
              rw [show max f0 (a + 4) = f0 from by omega] at K2
              refine mw_s1 (x := a + 0) (pos := 0) (ch := 112) hj hn (by omega) l_ce hce (by decide) rfl (by decide) (by decide) hb0 ?_
              refine mw_s1 (x := a + 1) (pos := 1) (ch := 105) hj hn (by omega) l_ce hce (by decide) rfl (by decide) (by decide) hb1 ?_
              refine mw_s1 (x := a + 2) (pos := 2) (ch := 101) hj hn (by omega) l_ce hce (by decide) rfl (by decide) (by decide) hb2 ?_
              refine mw_s1 (x := a + 3) (pos := 3) (ch := 99) hj hn (by omega) l_ce hce (by decide) rfl (by decide) (by decide) hb3 ?_
              refine mw_s0 (x := a + 4) (pos := 4) (ch := 101) hj hn (by omega) l_ce hce (by decide) rfl (by decide) (by decide) hb4 ?_
              refine E_aload_n rfl rfl ?_
              refine E_getfield (v := .ref 82) rfl w65 rfl (by decide) rfl ?_
              refine E_iload rfl rfl ?_
              refine E_ialN (l := [112, 105, 101, 99, 101, 32, 0, 112, 101, 114, 115, 111, 110, 32, 0, 99, 111, 115, 116, 32, 0, 104, 97, 115, 32, 0, 98, 97, 99, 107, 32, 0, 103, 114, 101, 101, 100, 121, 0, 98, 101, 115, 116, 0]) (v := 101) rfl w82 (by omega) (by omega) rfl ?_
              refine E_if (t := 93) (b := true) rfl rfl (by decide) ?_
              refine E_iload rfl rfl ?_
              refine E_iload_n rfl rfl ?_
              refine E_ic (t := 104) (b := true) rfl rfl ((cn_le (nI_toInt (by omega)) (nI_toInt (by omega))).trans (decide_eq_true (by omega))) ?_
              refine E_iload_n rfl rfl ?_
              refine E_istore_n (L2 := [some (.ref 65), some (.int (nI 0)), some (.int (nI f0)), some (.int (nI 0)), some (.int (nI (a + 4))), some (.int (nI 4))]) rfl rfl ?_
              exact K2
          · rcases bo2 (chB e n (a + 1 + 1 + 1 + 1 + 1) 32) with hb5 | hb5
            · by_cases f6 : f0 < a + 5
              · have : ([112, 105, 101, 99, 101, 32, 0, 112, 101, 114, 115, 111, 110, 32, 0, 99, 111, 115, 116, 32, 0, 104, 97, 115, 32, 0, 98, 97, 99, 107, 32, 0, 103, 114, 101, 101, 100, 121, 0, 98, 101, 115, 116, 0] : List Nat).length = 44 := rfl
                have q0 : mtc e n [112, 105, 101, 99, 101, 32] (a) = mtc e n [105, 101, 99, 101, 32] (a + 1) + 1 := mtc_t hb0
                have q1 : mtc e n [105, 101, 99, 101, 32] (a + 1) = mtc e n [101, 99, 101, 32] (a + 1 + 1) + 1 := mtc_t hb1
                have q2 : mtc e n [101, 99, 101, 32] (a + 1 + 1) = mtc e n [99, 101, 32] (a + 1 + 1 + 1) + 1 := mtc_t hb2
                have q3 : mtc e n [99, 101, 32] (a + 1 + 1 + 1) = mtc e n [101, 32] (a + 1 + 1 + 1 + 1) + 1 := mtc_t hb3
                have q4 : mtc e n [101, 32] (a + 1 + 1 + 1 + 1) = mtc e n [32] (a + 1 + 1 + 1 + 1 + 1) + 1 := mtc_t hb4
                have q5 : mtc e n [32] (a + 1 + 1 + 1 + 1 + 1) = 0 := mtc_f hb5
                have hm0 : mr0 e n a = 5 := by unfold mr0; omega
                have K2 := K (nI 5)
                rw [hm0] at K2
                rw [show max f0 (a + 5) = a + 5 from by omega] at K2
                refine mw_s1 (x := a + 0) (pos := 0) (ch := 112) hj hn (by omega) l_ce hce (by decide) rfl (by decide) (by decide) hb0 ?_
                refine mw_s1 (x := a + 1) (pos := 1) (ch := 105) hj hn (by omega) l_ce hce (by decide) rfl (by decide) (by decide) hb1 ?_
                refine mw_s1 (x := a + 2) (pos := 2) (ch := 101) hj hn (by omega) l_ce hce (by decide) rfl (by decide) (by decide) hb2 ?_
                refine mw_s1 (x := a + 3) (pos := 3) (ch := 99) hj hn (by omega) l_ce hce (by decide) rfl (by decide) (by decide) hb3 ?_
                refine mw_s1 (x := a + 4) (pos := 4) (ch := 101) hj hn (by omega) l_ce hce (by decide) rfl (by decide) (by decide) hb4 ?_
                refine mw_s0 (x := a + 5) (pos := 5) (ch := 32) hj hn (by omega) l_ce hce (by decide) rfl (by decide) (by decide) hb5 ?_
                refine E_aload_n rfl rfl ?_
                refine E_getfield (v := .ref 82) rfl w65 rfl (by decide) rfl ?_
                refine E_iload rfl rfl ?_
                refine E_ialN (l := [112, 105, 101, 99, 101, 32, 0, 112, 101, 114, 115, 111, 110, 32, 0, 99, 111, 115, 116, 32, 0, 104, 97, 115, 32, 0, 98, 97, 99, 107, 32, 0, 103, 114, 101, 101, 100, 121, 0, 98, 101, 115, 116, 0]) (v := 32) rfl w82 (by omega) (by omega) rfl ?_
                refine E_if (t := 93) (b := true) rfl rfl (by decide) ?_
                refine E_iload rfl rfl ?_
                refine E_iload_n rfl rfl ?_
                refine E_ic (t := 104) (b := false) rfl rfl ((cn_le (nI_toInt (by omega)) (nI_toInt (by omega))).trans (decide_eq_false (by omega))) ?_
                refine E_iload rfl rfl ?_
                refine E_goto (t := 105) rfl rfl ?_
                refine E_istore_n (L2 := [some (.ref 65), some (.int (nI 0)), some (.int (nI (a + 5))), some (.int (nI 0)), some (.int (nI (a + 5))), some (.int (nI 5))]) rfl rfl ?_
                exact K2
              · have : ([112, 105, 101, 99, 101, 32, 0, 112, 101, 114, 115, 111, 110, 32, 0, 99, 111, 115, 116, 32, 0, 104, 97, 115, 32, 0, 98, 97, 99, 107, 32, 0, 103, 114, 101, 101, 100, 121, 0, 98, 101, 115, 116, 0] : List Nat).length = 44 := rfl
                have q0 : mtc e n [112, 105, 101, 99, 101, 32] (a) = mtc e n [105, 101, 99, 101, 32] (a + 1) + 1 := mtc_t hb0
                have q1 : mtc e n [105, 101, 99, 101, 32] (a + 1) = mtc e n [101, 99, 101, 32] (a + 1 + 1) + 1 := mtc_t hb1
                have q2 : mtc e n [101, 99, 101, 32] (a + 1 + 1) = mtc e n [99, 101, 32] (a + 1 + 1 + 1) + 1 := mtc_t hb2
                have q3 : mtc e n [99, 101, 32] (a + 1 + 1 + 1) = mtc e n [101, 32] (a + 1 + 1 + 1 + 1) + 1 := mtc_t hb3
                have q4 : mtc e n [101, 32] (a + 1 + 1 + 1 + 1) = mtc e n [32] (a + 1 + 1 + 1 + 1 + 1) + 1 := mtc_t hb4
                have q5 : mtc e n [32] (a + 1 + 1 + 1 + 1 + 1) = 0 := mtc_f hb5
                have hm0 : mr0 e n a = 5 := by unfold mr0; omega
                have K2 := K (nI 5)
                rw [hm0] at K2
                rw [show max f0 (a + 5) = f0 from by omega] at K2
                refine mw_s1 (x := a + 0) (pos := 0) (ch := 112) hj hn (by omega) l_ce hce (by decide) rfl (by decide) (by decide) hb0 ?_
                refine mw_s1 (x := a + 1) (pos := 1) (ch := 105) hj hn (by omega) l_ce hce (by decide) rfl (by decide) (by decide) hb1 ?_
                refine mw_s1 (x := a + 2) (pos := 2) (ch := 101) hj hn (by omega) l_ce hce (by decide) rfl (by decide) (by decide) hb2 ?_
                refine mw_s1 (x := a + 3) (pos := 3) (ch := 99) hj hn (by omega) l_ce hce (by decide) rfl (by decide) (by decide) hb3 ?_
                refine mw_s1 (x := a + 4) (pos := 4) (ch := 101) hj hn (by omega) l_ce hce (by decide) rfl (by decide) (by decide) hb4 ?_
                refine mw_s0 (x := a + 5) (pos := 5) (ch := 32) hj hn (by omega) l_ce hce (by decide) rfl (by decide) (by decide) hb5 ?_
                refine E_aload_n rfl rfl ?_
                refine E_getfield (v := .ref 82) rfl w65 rfl (by decide) rfl ?_
                refine E_iload rfl rfl ?_
                refine E_ialN (l := [112, 105, 101, 99, 101, 32, 0, 112, 101, 114, 115, 111, 110, 32, 0, 99, 111, 115, 116, 32, 0, 104, 97, 115, 32, 0, 98, 97, 99, 107, 32, 0, 103, 114, 101, 101, 100, 121, 0, 98, 101, 115, 116, 0]) (v := 32) rfl w82 (by omega) (by omega) rfl ?_
                refine E_if (t := 93) (b := true) rfl rfl (by decide) ?_
                refine E_iload rfl rfl ?_
                refine E_iload_n rfl rfl ?_
                refine E_ic (t := 104) (b := true) rfl rfl ((cn_le (nI_toInt (by omega)) (nI_toInt (by omega))).trans (decide_eq_true (by omega))) ?_
                refine E_iload_n rfl rfl ?_
                refine E_istore_n (L2 := [some (.ref 65), some (.int (nI 0)), some (.int (nI f0)), some (.int (nI 0)), some (.int (nI (a + 5))), some (.int (nI 5))]) rfl rfl ?_
                exact K2
            · have q0 : mtc e n [112, 105, 101, 99, 101, 32] (a) = mtc e n [105, 101, 99, 101, 32] (a + 1) + 1 := mtc_t hb0
              have q1 : mtc e n [105, 101, 99, 101, 32] (a + 1) = mtc e n [101, 99, 101, 32] (a + 1 + 1) + 1 := mtc_t hb1
              have q2 : mtc e n [101, 99, 101, 32] (a + 1 + 1) = mtc e n [99, 101, 32] (a + 1 + 1 + 1) + 1 := mtc_t hb2
              have q3 : mtc e n [99, 101, 32] (a + 1 + 1 + 1) = mtc e n [101, 32] (a + 1 + 1 + 1 + 1) + 1 := mtc_t hb3
              have q4 : mtc e n [101, 32] (a + 1 + 1 + 1 + 1) = mtc e n [32] (a + 1 + 1 + 1 + 1 + 1) + 1 := mtc_t hb4
              have q5 : mtc e n [32] (a + 1 + 1 + 1 + 1 + 1) = mtc e n [] (a + 1 + 1 + 1 + 1 + 1 + 1) + 1 := mtc_t hb5
              have q6 : mtc e n [] (a + 1 + 1 + 1 + 1 + 1 + 1) = 0 := rfl
              have hm0 : mr0 e n a = 6 := by unfold mr0; omega
              exfalso
              omega
set_option maxHeartbeats 1000000 in
theorem mw_f1 {e : List Int64} {n a j : Nat} {x30 x31 : Int32} {q : ab_q} (hj : j < 8) (hn : n ≤ 160) (ha : a ≤ n) (l_ce : ce.length = 1280) (hce : ∀ p, p < 160 → e.getD p 0 = ce.getD (160 * j + p) 0) {f0 : Nat} {r : Option Value × List ab_C} (hk : mr1 e n a = 7) (K : Ef ab_Z0 0 mX6_word (85, [some (.ref 65), some (.int (nI 7)), some (.int (nI f0)), some (.int (nI 1)), some (.int (nI (a + 7))), some (.int (nI 14))], [], (ww im lf s d k ls rf rz ra rn rq lt m1 m2 m3 m4 bd fc hd sz el q (fUp (fUp (fUp (fUp (fUp (fUp g 27 (nI (160 * j))) 29 (nI n)) 6 (-1)) 28 (nI a)) 30 x30) 31 x31) fm hm so si sh ce ca td wa kp la bf oo bo pw ow tr)) r) : Ef ab_Z0 0 mX6_word (24, [some (.ref 65), some (.int (nI 7)), some (.int (nI f0)), some (.int (nI 1)), some (.int (nI a)), some (.int (nI 7))], [], (ww im lf s d k ls rf rz ra rn rq lt m1 m2 m3 m4 bd fc hd sz el q (fUp (fUp (fUp (fUp (fUp (fUp g 27 (nI (160 * j))) 29 (nI n)) 6 (-1)) 28 (nI a)) 30 x30) 31 x31) fm hm so si sh ce ca td wa kp la bf oo bo pw ow tr)) r := by
  have hx := er_1 hk
  have hb0 := hx.1
  have hb1 := hx.2.1
  have hb2 := hx.2.2.1
  have hb3 := hx.2.2.2.1
  have hb4 := hx.2.2.2.2.1
  have hb5 := hx.2.2.2.2.2.1
  have hb6 := hx.2.2.2.2.2.2
  refine mw_s1 (x := a + 0) (pos := 7) (ch := 112) hj hn (by omega) l_ce hce (by decide) rfl (by decide) (by decide) hb0 ?_
  refine mw_s1 (x := a + 1) (pos := 8) (ch := 101) hj hn (by omega) l_ce hce (by decide) rfl (by decide) (by decide) hb1 ?_
  refine mw_s1 (x := a + 2) (pos := 9) (ch := 114) hj hn (by omega) l_ce hce (by decide) rfl (by decide) (by decide) hb2 ?_
  refine mw_s1 (x := a + 3) (pos := 10) (ch := 115) hj hn (by omega) l_ce hce (by decide) rfl (by decide) (by decide) hb3 ?_
  refine mw_s1 (x := a + 4) (pos := 11) (ch := 111) hj hn (by omega) l_ce hce (by decide) rfl (by decide) (by decide) hb4 ?_
  refine mw_s1 (x := a + 5) (pos := 12) (ch := 110) hj hn (by omega) l_ce hce (by decide) rfl (by decide) (by decide) hb5 ?_
  refine mw_s1 (x := a + 6) (pos := 13) (ch := 32) hj hn (by omega) l_ce hce (by decide) rfl (by decide) (by decide) hb6 ?_
  have : ([112, 105, 101, 99, 101, 32, 0, 112, 101, 114, 115, 111, 110, 32, 0, 99, 111, 115, 116, 32, 0, 104, 97, 115, 32, 0, 98, 97, 99, 107, 32, 0, 103, 114, 101, 101, 100, 121, 0, 98, 101, 115, 116, 0] : List Nat).length = 44 := rfl
  refine E_aload_n rfl rfl ?_
  refine E_getfield (v := .ref 82) rfl w65 rfl (by decide) rfl ?_
  refine E_iload rfl rfl ?_
  refine E_ialN (l := [112, 105, 101, 99, 101, 32, 0, 112, 101, 114, 115, 111, 110, 32, 0, 99, 111, 115, 116, 32, 0, 104, 97, 115, 32, 0, 98, 97, 99, 107, 32, 0, 103, 114, 101, 101, 100, 121, 0, 98, 101, 115, 116, 0]) (v := 0) rfl w82 (by omega) (by omega) rfl ?_
  refine E_if (t := 75) (b := true) rfl rfl (by decide) ?_
  refine E_aload_n rfl rfl ?_
  refine E_getfield (v := .ref 82) rfl w65 rfl (by decide) rfl ?_
  refine E_iload rfl rfl ?_
  refine E_ialN (l := [112, 105, 101, 99, 101, 32, 0, 112, 101, 114, 115, 111, 110, 32, 0, 99, 111, 115, 116, 32, 0, 104, 97, 115, 32, 0, 98, 97, 99, 107, 32, 0, 103, 114, 101, 101, 100, 121, 0, 98, 101, 115, 116, 0]) (v := 0) rfl w82 (by omega) (by omega) rfl ?_
  refine E_if (t := 93) (b := false) rfl rfl (by decide) ?_
  exact K
set_option maxHeartbeats 1000000 in
theorem mw_p1 {e : List Int64} {n a j : Nat} {x30 x31 : Int32} {q : ab_q} (hj : j < 8) (hn : n ≤ 160) (ha : a ≤ n) (l_ce : ce.length = 1280) (hce : ∀ p, p < 160 → e.getD p 0 = ce.getD (160 * j + p) 0) {f0 : Nat} (hf0 : f0 < 1000) {r : Option Value × List ab_C} (hk : ¬ mr1 e n a = 7) (K : ∀ c : Int32, Ef ab_Z0 0 mX6_word (106, [some (.ref 65), some (.int (nI 7)), some (.int (nI (max f0 (a + mr1 e n a)))), some (.int (nI 1)), some (.int (nI (a + mr1 e n a))), some (.int c)], [], (ww im lf s d k ls rf rz ra rn rq lt m1 m2 m3 m4 bd fc hd sz el q (fUp (fUp (fUp (fUp (fUp (fUp g 27 (nI (160 * j))) 29 (nI n)) 6 (-1)) 28 (nI a)) 30 x30) 31 x31) fm hm so si sh ce ca td wa kp la bf oo bo pw ow tr)) r) : Ef ab_Z0 0 mX6_word (24, [some (.ref 65), some (.int (nI 7)), some (.int (nI f0)), some (.int (nI 1)), some (.int (nI a)), some (.int (nI 7))], [], (ww im lf s d k ls rf rz ra rn rq lt m1 m2 m3 m4 bd fc hd sz el q (fUp (fUp (fUp (fUp (fUp (fUp g 27 (nI (160 * j))) 29 (nI n)) 6 (-1)) 28 (nI a)) 30 x30) 31 x31) fm hm so si sh ce ca td wa kp la bf oo bo pw ow tr)) r := by
  rcases bo2 (chB e n (a) 112) with hb0 | hb0
  · by_cases f1 : f0 < a
    · have : ([112, 105, 101, 99, 101, 32, 0, 112, 101, 114, 115, 111, 110, 32, 0, 99, 111, 115, 116, 32, 0, 104, 97, 115, 32, 0, 98, 97, 99, 107, 32, 0, 103, 114, 101, 101, 100, 121, 0, 98, 101, 115, 116, 0] : List Nat).length = 44 := rfl
      have q0 : mtc e n [112, 101, 114, 115, 111, 110, 32] (a) = 0 := mtc_f hb0
      have hm0 : mr1 e n a = 0 := by unfold mr1; omega
      have K2 := K (nI 7)
      rw [hm0] at K2
      rw [show max f0 (a + 0) = a + 0 from by omega] at K2
      refine mw_s0 (x := a + 0) (pos := 7) (ch := 112) hj hn (by omega) l_ce hce (by decide) rfl (by decide) (by decide) hb0 ?_
      refine E_aload_n rfl rfl ?_
      refine E_getfield (v := .ref 82) rfl w65 rfl (by decide) rfl ?_
      refine E_iload rfl rfl ?_
      refine E_ialN (l := [112, 105, 101, 99, 101, 32, 0, 112, 101, 114, 115, 111, 110, 32, 0, 99, 111, 115, 116, 32, 0, 104, 97, 115, 32, 0, 98, 97, 99, 107, 32, 0, 103, 114, 101, 101, 100, 121, 0, 98, 101, 115, 116, 0]) (v := 112) rfl w82 (by omega) (by omega) rfl ?_
      refine E_if (t := 93) (b := true) rfl rfl (by decide) ?_
      refine E_iload rfl rfl ?_
      refine E_iload_n rfl rfl ?_
      refine E_ic (t := 104) (b := false) rfl rfl ((cn_le (nI_toInt (by omega)) (nI_toInt (by omega))).trans (decide_eq_false (by omega))) ?_
      refine E_iload rfl rfl ?_
      refine E_goto (t := 105) rfl rfl ?_
      refine E_istore_n (L2 := [some (.ref 65), some (.int (nI 7)), some (.int (nI (a + 0))), some (.int (nI 1)), some (.int (nI (a + 0))), some (.int (nI 7))]) rfl rfl ?_
      exact K2
    · have : ([112, 105, 101, 99, 101, 32, 0, 112, 101, 114, 115, 111, 110, 32, 0, 99, 111, 115, 116, 32, 0, 104, 97, 115, 32, 0, 98, 97, 99, 107, 32, 0, 103, 114, 101, 101, 100, 121, 0, 98, 101, 115, 116, 0] : List Nat).length = 44 := rfl
      have q0 : mtc e n [112, 101, 114, 115, 111, 110, 32] (a) = 0 := mtc_f hb0
      have hm0 : mr1 e n a = 0 := by unfold mr1; omega
      have K2 := K (nI 7)
      rw [hm0] at K2
      rw [show max f0 (a + 0) = f0 from by omega] at K2
      refine mw_s0 (x := a + 0) (pos := 7) (ch := 112) hj hn (by omega) l_ce hce (by decide) rfl (by decide) (by decide) hb0 ?_
      refine E_aload_n rfl rfl ?_
      refine E_getfield (v := .ref 82) rfl w65 rfl (by decide) rfl ?_
      refine E_iload rfl rfl ?_
      refine E_ialN (l := [112, 105, 101, 99, 101, 32, 0, 112, 101, 114, 115, 111, 110, 32, 0, 99, 111, 115, 116, 32, 0, 104, 97, 115, 32, 0, 98, 97, 99, 107, 32, 0, 103, 114, 101, 101, 100, 121, 0, 98, 101, 115, 116, 0]) (v := 112) rfl w82 (by omega) (by omega) rfl ?_
      refine E_if (t := 93) (b := true) rfl rfl (by decide) ?_
      refine E_iload rfl rfl ?_
      refine E_iload_n rfl rfl ?_
      refine E_ic (t := 104) (b := true) rfl rfl ((cn_le (nI_toInt (by omega)) (nI_toInt (by omega))).trans (decide_eq_true (by omega))) ?_
      refine E_iload_n rfl rfl ?_
      refine E_istore_n (L2 := [some (.ref 65), some (.int (nI 7)), some (.int (nI f0)), some (.int (nI 1)), some (.int (nI (a + 0))), some (.int (nI 7))]) rfl rfl ?_
      exact K2
  · rcases bo2 (chB e n (a + 1) 101) with hb1 | hb1
    · by_cases f2 : f0 < a + 1
      · have : ([112, 105, 101, 99, 101, 32, 0, 112, 101, 114, 115, 111, 110, 32, 0, 99, 111, 115, 116, 32, 0, 104, 97, 115, 32, 0, 98, 97, 99, 107, 32, 0, 103, 114, 101, 101, 100, 121, 0, 98, 101, 115, 116, 0] : List Nat).length = 44 := rfl
        have q0 : mtc e n [112, 101, 114, 115, 111, 110, 32] (a) = mtc e n [101, 114, 115, 111, 110, 32] (a + 1) + 1 := mtc_t hb0
        have q1 : mtc e n [101, 114, 115, 111, 110, 32] (a + 1) = 0 := mtc_f hb1
        have hm0 : mr1 e n a = 1 := by unfold mr1; omega
        have K2 := K (nI 8)
        rw [hm0] at K2
        rw [show max f0 (a + 1) = a + 1 from by omega] at K2
        refine mw_s1 (x := a + 0) (pos := 7) (ch := 112) hj hn (by omega) l_ce hce (by decide) rfl (by decide) (by decide) hb0 ?_
        refine mw_s0 (x := a + 1) (pos := 8) (ch := 101) hj hn (by omega) l_ce hce (by decide) rfl (by decide) (by decide) hb1 ?_
        refine E_aload_n rfl rfl ?_
        refine E_getfield (v := .ref 82) rfl w65 rfl (by decide) rfl ?_
        refine E_iload rfl rfl ?_
        refine E_ialN (l := [112, 105, 101, 99, 101, 32, 0, 112, 101, 114, 115, 111, 110, 32, 0, 99, 111, 115, 116, 32, 0, 104, 97, 115, 32, 0, 98, 97, 99, 107, 32, 0, 103, 114, 101, 101, 100, 121, 0, 98, 101, 115, 116, 0]) (v := 101) rfl w82 (by omega) (by omega) rfl ?_
        refine E_if (t := 93) (b := true) rfl rfl (by decide) ?_
        refine E_iload rfl rfl ?_
        refine E_iload_n rfl rfl ?_
        refine E_ic (t := 104) (b := false) rfl rfl ((cn_le (nI_toInt (by omega)) (nI_toInt (by omega))).trans (decide_eq_false (by omega))) ?_
        refine E_iload rfl rfl ?_
        refine E_goto (t := 105) rfl rfl ?_
        refine E_istore_n (L2 := [some (.ref 65), some (.int (nI 7)), some (.int (nI (a + 1))), some (.int (nI 1)), some (.int (nI (a + 1))), some (.int (nI 8))]) rfl rfl ?_
        exact K2
      · have : ([112, 105, 101, 99, 101, 32, 0, 112, 101, 114, 115, 111, 110, 32, 0, 99, 111, 115, 116, 32, 0, 104, 97, 115, 32, 0, 98, 97, 99, 107, 32, 0, 103, 114, 101, 101, 100, 121, 0, 98, 101, 115, 116, 0] : List Nat).length = 44 := rfl
        have q0 : mtc e n [112, 101, 114, 115, 111, 110, 32] (a) = mtc e n [101, 114, 115, 111, 110, 32] (a + 1) + 1 := mtc_t hb0
        have q1 : mtc e n [101, 114, 115, 111, 110, 32] (a + 1) = 0 := mtc_f hb1
        have hm0 : mr1 e n a = 1 := by unfold mr1; omega
        have K2 := K (nI 8)
        rw [hm0] at K2
        rw [show max f0 (a + 1) = f0 from by omega] at K2
        refine mw_s1 (x := a + 0) (pos := 7) (ch := 112) hj hn (by omega) l_ce hce (by decide) rfl (by decide) (by decide) hb0 ?_
        refine mw_s0 (x := a + 1) (pos := 8) (ch := 101) hj hn (by omega) l_ce hce (by decide) rfl (by decide) (by decide) hb1 ?_
        refine E_aload_n rfl rfl ?_
        refine E_getfield (v := .ref 82) rfl w65 rfl (by decide) rfl ?_
        refine E_iload rfl rfl ?_
        refine E_ialN (l := [112, 105, 101, 99, 101, 32, 0, 112, 101, 114, 115, 111, 110, 32, 0, 99, 111, 115, 116, 32, 0, 104, 97, 115, 32, 0, 98, 97, 99, 107, 32, 0, 103, 114, 101, 101, 100, 121, 0, 98, 101, 115, 116, 0]) (v := 101) rfl w82 (by omega) (by omega) rfl ?_
        refine E_if (t := 93) (b := true) rfl rfl (by decide) ?_
        refine E_iload rfl rfl ?_
        refine E_iload_n rfl rfl ?_
        refine E_ic (t := 104) (b := true) rfl rfl ((cn_le (nI_toInt (by omega)) (nI_toInt (by omega))).trans (decide_eq_true (by omega))) ?_
        refine E_iload_n rfl rfl ?_
        refine E_istore_n (L2 := [some (.ref 65), some (.int (nI 7)), some (.int (nI f0)), some (.int (nI 1)), some (.int (nI (a + 1))), some (.int (nI 8))]) rfl rfl ?_
        exact K2
    · rcases bo2 (chB e n (a + 1 + 1) 114) with hb2 | hb2
      · by_cases f3 : f0 < a + 2
        · have : ([112, 105, 101, 99, 101, 32, 0, 112, 101, 114, 115, 111, 110, 32, 0, 99, 111, 115, 116, 32, 0, 104, 97, 115, 32, 0, 98, 97, 99, 107, 32, 0, 103, 114, 101, 101, 100, 121, 0, 98, 101, 115, 116, 0] : List Nat).length = 44 := rfl
          have q0 : mtc e n [112, 101, 114, 115, 111, 110, 32] (a) = mtc e n [101, 114, 115, 111, 110, 32] (a + 1) + 1 := mtc_t hb0
          have q1 : mtc e n [101, 114, 115, 111, 110, 32] (a + 1) = mtc e n [114, 115, 111, 110, 32] (a + 1 + 1) + 1 := mtc_t hb1
          have q2 : mtc e n [114, 115, 111, 110, 32] (a + 1 + 1) = 0 := mtc_f hb2
          have hm0 : mr1 e n a = 2 := by unfold mr1; omega
          have K2 := K (nI 9)
          rw [hm0] at K2
          rw [show max f0 (a + 2) = a + 2 from by omega] at K2
          refine mw_s1 (x := a + 0) (pos := 7) (ch := 112) hj hn (by omega) l_ce hce (by decide) rfl (by decide) (by decide) hb0 ?_
          refine mw_s1 (x := a + 1) (pos := 8) (ch := 101) hj hn (by omega) l_ce hce (by decide) rfl (by decide) (by decide) hb1 ?_
          refine mw_s0 (x := a + 2) (pos := 9) (ch := 114) hj hn (by omega) l_ce hce (by decide) rfl (by decide) (by decide) hb2 ?_
          refine E_aload_n rfl rfl ?_
          refine E_getfield (v := .ref 82) rfl w65 rfl (by decide) rfl ?_
          refine E_iload rfl rfl ?_
          refine E_ialN (l := [112, 105, 101, 99, 101, 32, 0, 112, 101, 114, 115, 111, 110, 32, 0, 99, 111, 115, 116, 32, 0, 104, 97, 115, 32, 0, 98, 97, 99, 107, 32, 0, 103, 114, 101, 101, 100, 121, 0, 98, 101, 115, 116, 0]) (v := 114) rfl w82 (by omega) (by omega) rfl ?_
          refine E_if (t := 93) (b := true) rfl rfl (by decide) ?_
          refine E_iload rfl rfl ?_
          refine E_iload_n rfl rfl ?_
          refine E_ic (t := 104) (b := false) rfl rfl ((cn_le (nI_toInt (by omega)) (nI_toInt (by omega))).trans (decide_eq_false (by omega))) ?_
          refine E_iload rfl rfl ?_
          refine E_goto (t := 105) rfl rfl ?_
          refine E_istore_n (L2 := [some (.ref 65), some (.int (nI 7)), some (.int (nI (a + 2))), some (.int (nI 1)), some (.int (nI (a + 2))), some (.int (nI 9))]) rfl rfl ?_
          exact K2
        · have : ([112, 105, 101, 99, 101, 32, 0, 112, 101, 114, 115, 111, 110, 32, 0, 99, 111, 115, 116, 32, 0, 104, 97, 115, 32, 0, 98, 97, 99, 107, 32, 0, 103, 114, 101, 101, 100, 121, 0, 98, 101, 115, 116, 0] : List Nat).length = 44 := rfl
          have q0 : mtc e n [112, 101, 114, 115, 111, 110, 32] (a) = mtc e n [101, 114, 115, 111, 110, 32] (a + 1) + 1 := mtc_t hb0
          have q1 : mtc e n [101, 114, 115, 111, 110, 32] (a + 1) = mtc e n [114, 115, 111, 110, 32] (a + 1 + 1) + 1 := mtc_t hb1
          have q2 : mtc e n [114, 115, 111, 110, 32] (a + 1 + 1) = 0 := mtc_f hb2
          have hm0 : mr1 e n a = 2 := by unfold mr1; omega
          have K2 := K (nI 9)
          rw [hm0] at K2
          rw [show max f0 (a + 2) = f0 from by omega] at K2
          refine mw_s1 (x := a + 0) (pos := 7) (ch := 112) hj hn (by omega) l_ce hce (by decide) rfl (by decide) (by decide) hb0 ?_
          refine mw_s1 (x := a + 1) (pos := 8) (ch := 101) hj hn (by omega) l_ce hce (by decide) rfl (by decide) (by decide) hb1 ?_
          refine mw_s0 (x := a + 2) (pos := 9) (ch := 114) hj hn (by omega) l_ce hce (by decide) rfl (by decide) (by decide) hb2 ?_
          refine E_aload_n rfl rfl ?_
          refine E_getfield (v := .ref 82) rfl w65 rfl (by decide) rfl ?_
          refine E_iload rfl rfl ?_
          refine E_ialN (l := [112, 105, 101, 99, 101, 32, 0, 112, 101, 114, 115, 111, 110, 32, 0, 99, 111, 115, 116, 32, 0, 104, 97, 115, 32, 0, 98, 97, 99, 107, 32, 0, 103, 114, 101, 101, 100, 121, 0, 98, 101, 115, 116, 0]) (v := 114) rfl w82 (by omega) (by omega) rfl ?_
          refine E_if (t := 93) (b := true) rfl rfl (by decide) ?_
          refine E_iload rfl rfl ?_
          refine E_iload_n rfl rfl ?_
          refine E_ic (t := 104) (b := true) rfl rfl ((cn_le (nI_toInt (by omega)) (nI_toInt (by omega))).trans (decide_eq_true (by omega))) ?_
          refine E_iload_n rfl rfl ?_
          refine E_istore_n (L2 := [some (.ref 65), some (.int (nI 7)), some (.int (nI f0)), some (.int (nI 1)), some (.int (nI (a + 2))), some (.int (nI 9))]) rfl rfl ?_
          exact K2
      · rcases bo2 (chB e n (a + 1 + 1 + 1) 115) with hb3 | hb3
        · by_cases f4 : f0 < a + 3
          · have : ([112, 105, 101, 99, 101, 32, 0, 112, 101, 114, 115, 111, 110, 32, 0, 99, 111, 115, 116, 32, 0, 104, 97, 115, 32, 0, 98, 97, 99, 107, 32, 0, 103, 114, 101, 101, 100, 121, 0, 98, 101, 115, 116, 0] : List Nat).length = 44 := rfl
            have q0 : mtc e n [112, 101, 114, 115, 111, 110, 32] (a) = mtc e n [101, 114, 115, 111, 110, 32] (a + 1) + 1 := mtc_t hb0
            have q1 : mtc e n [101, 114, 115, 111, 110, 32] (a + 1) = mtc e n [114, 115, 111, 110, 32] (a + 1 + 1) + 1 := mtc_t hb1
            have q2 : mtc e n [114, 115, 111, 110, 32] (a + 1 + 1) = mtc e n [115, 111, 110, 32] (a + 1 + 1 + 1) + 1 := mtc_t hb2
            have q3 : mtc e n [115, 111, 110, 32] (a + 1 + 1 + 1) = 0 := mtc_f hb3
            have hm0 : mr1 e n a = 3 := by unfold mr1; omega
            have K2 := K (nI 10)
            rw [hm0] at K2
            rw [show max f0 (a + 3) = a + 3 from by omega] at K2
            refine mw_s1 (x := a + 0) (pos := 7) (ch := 112) hj hn (by omega) l_ce hce (by decide) rfl (by decide) (by decide) hb0 ?_
            refine mw_s1 (x := a + 1) (pos := 8) (ch := 101) hj hn (by omega) l_ce hce (by decide) rfl (by decide) (by decide) hb1 ?_
            refine mw_s1 (x := a + 2) (pos := 9) (ch := 114) hj hn (by omega) l_ce hce (by decide) rfl (by decide) (by decide) hb2 ?_
            refine mw_s0 (x := a + 3) (pos := 10) (ch := 115) hj hn (by omega) l_ce hce (by decide) rfl (by decide) (by decide) hb3 ?_
            refine E_aload_n rfl rfl ?_
            refine E_getfield (v := .ref 82) rfl w65 rfl (by decide) rfl ?_
            refine E_iload rfl rfl ?_
            refine E_ialN (l := [112, 105, 101, 99, 101, 32, 0, 112, 101, 114, 115, 111, 110, 32, 0, 99, 111, 115, 116, 32, 0, 104, 97, 115, 32, 0, 98, 97, 99, 107, 32, 0, 103, 114, 101, 101, 100, 121, 0, 98, 101, 115, 116, 0]) (v := 115) rfl w82 (by omega) (by omega) rfl ?_
            refine E_if (t := 93) (b := true) rfl rfl (by decide) ?_
            refine E_iload rfl rfl ?_
            refine E_iload_n rfl rfl ?_
            refine E_ic (t := 104) (b := false) rfl rfl ((cn_le (nI_toInt (by omega)) (nI_toInt (by omega))).trans (decide_eq_false (by omega))) ?_
            refine E_iload rfl rfl ?_
            refine E_goto (t := 105) rfl rfl ?_
            refine E_istore_n (L2 := [some (.ref 65), some (.int (nI 7)), some (.int (nI (a + 3))), some (.int (nI 1)), some (.int (nI (a + 3))), some (.int (nI 10))]) rfl rfl ?_
            exact K2
          · have : ([112, 105, 101, 99, 101, 32, 0, 112, 101, 114, 115, 111, 110, 32, 0, 99, 111, 115, 116, 32, 0, 104, 97, 115, 32, 0, 98, 97, 99, 107, 32, 0, 103, 114, 101, 101, 100, 121, 0, 98, 101, 115, 116, 0] : List Nat).length = 44 := rfl
            have q0 : mtc e n [112, 101, 114, 115, 111, 110, 32] (a) = mtc e n [101, 114, 115, 111, 110, 32] (a + 1) + 1 := mtc_t hb0
            have q1 : mtc e n [101, 114, 115, 111, 110, 32] (a + 1) = mtc e n [114, 115, 111, 110, 32] (a + 1 + 1) + 1 := mtc_t hb1
            have q2 : mtc e n [114, 115, 111, 110, 32] (a + 1 + 1) = mtc e n [115, 111, 110, 32] (a + 1 + 1 + 1) + 1 := mtc_t hb2
            have q3 : mtc e n [115, 111, 110, 32] (a + 1 + 1 + 1) = 0 := mtc_f hb3
            have hm0 : mr1 e n a = 3 := by unfold mr1; omega
            have K2 := K (nI 10)
            rw [hm0] at K2
            rw [show max f0 (a + 3) = f0 from by omega] at K2
            refine mw_s1 (x := a + 0) (pos := 7) (ch := 112) hj hn (by omega) l_ce hce (by decide) rfl (by decide) (by decide) hb0 ?_
            refine mw_s1 (x := a + 1) (pos := 8) (ch := 101) hj hn (by omega) l_ce hce (by decide) rfl (by decide) (by decide) hb1 ?_
            refine mw_s1 (x := a + 2) (pos := 9) (ch := 114) hj hn (by omega) l_ce hce (by decide) rfl (by decide) (by decide) hb2 ?_
            refine mw_s0 (x := a + 3) (pos := 10) (ch := 115) hj hn (by omega) l_ce hce (by decide) rfl (by decide) (by decide) hb3 ?_
            refine E_aload_n rfl rfl ?_
            refine E_getfield (v := .ref 82) rfl w65 rfl (by decide) rfl ?_
            refine E_iload rfl rfl ?_
            refine E_ialN (l := [112, 105, 101, 99, 101, 32, 0, 112, 101, 114, 115, 111, 110, 32, 0, 99, 111, 115, 116, 32, 0, 104, 97, 115, 32, 0, 98, 97, 99, 107, 32, 0, 103, 114, 101, 101, 100, 121, 0, 98, 101, 115, 116, 0]) (v := 115) rfl w82 (by omega) (by omega) rfl ?_
            refine E_if (t := 93) (b := true) rfl rfl (by decide) ?_
            refine E_iload rfl rfl ?_
            refine E_iload_n rfl rfl ?_
            refine E_ic (t := 104) (b := true) rfl rfl ((cn_le (nI_toInt (by omega)) (nI_toInt (by omega))).trans (decide_eq_true (by omega))) ?_
            refine E_iload_n rfl rfl ?_
            refine E_istore_n (L2 := [some (.ref 65), some (.int (nI 7)), some (.int (nI f0)), some (.int (nI 1)), some (.int (nI (a + 3))), some (.int (nI 10))]) rfl rfl ?_
            exact K2
        · rcases bo2 (chB e n (a + 1 + 1 + 1 + 1) 111) with hb4 | hb4
          · by_cases f5 : f0 < a + 4
            · have : ([112, 105, 101, 99, 101, 32, 0, 112, 101, 114, 115, 111, 110, 32, 0, 99, 111, 115, 116, 32, 0, 104, 97, 115, 32, 0, 98, 97, 99, 107, 32, 0, 103, 114, 101, 101, 100, 121, 0, 98, 101, 115, 116, 0] : List Nat).length = 44 := rfl
              have q0 : mtc e n [112, 101, 114, 115, 111, 110, 32] (a) = mtc e n [101, 114, 115, 111, 110, 32] (a + 1) + 1 := mtc_t hb0
              have q1 : mtc e n [101, 114, 115, 111, 110, 32] (a + 1) = mtc e n [114, 115, 111, 110, 32] (a + 1 + 1) + 1 := mtc_t hb1
              have q2 : mtc e n [114, 115, 111, 110, 32] (a + 1 + 1) = mtc e n [115, 111, 110, 32] (a + 1 + 1 + 1) + 1 := mtc_t hb2
              have q3 : mtc e n [115, 111, 110, 32] (a + 1 + 1 + 1) = mtc e n [111, 110, 32] (a + 1 + 1 + 1 + 1) + 1 := mtc_t hb3
              have q4 : mtc e n [111, 110, 32] (a + 1 + 1 + 1 + 1) = 0 := mtc_f hb4
              have hm0 : mr1 e n a = 4 := by unfold mr1; omega
              have K2 := K (nI 11)
              rw [hm0] at K2
              rw [show max f0 (a + 4) = a + 4 from by omega] at K2
              refine mw_s1 (x := a + 0) (pos := 7) (ch := 112) hj hn (by omega) l_ce hce (by decide) rfl (by decide) (by decide) hb0 ?_
              refine mw_s1 (x := a + 1) (pos := 8) (ch := 101) hj hn (by omega) l_ce hce (by decide) rfl (by decide) (by decide) hb1 ?_
              refine mw_s1 (x := a + 2) (pos := 9) (ch := 114) hj hn (by omega) l_ce hce (by decide) rfl (by decide) (by decide) hb2 ?_
              refine mw_s1 (x := a + 3) (pos := 10) (ch := 115) hj hn (by omega) l_ce hce (by decide) rfl (by decide) (by decide) hb3 ?_
              refine mw_s0 (x := a + 4) (pos := 11) (ch := 111) hj hn (by omega) l_ce hce (by decide) rfl (by decide) (by decide) hb4 ?_
              refine E_aload_n rfl rfl ?_
              refine E_getfield (v := .ref 82) rfl w65 rfl (by decide) rfl ?_
              refine E_iload rfl rfl ?_
              refine E_ialN (l := [112, 105, 101, 99, 101, 32, 0, 112, 101, 114, 115, 111, 110, 32, 0, 99, 111, 115, 116, 32, 0, 104, 97, 115, 32, 0, 98, 97, 99, 107, 32, 0, 103, 114, 101, 101, 100, 121, 0, 98, 101, 115, 116, 0]) (v := 111) rfl w82 (by omega) (by omega) rfl ?_
              refine E_if (t := 93) (b := true) rfl rfl (by decide) ?_
              refine E_iload rfl rfl ?_
              refine E_iload_n rfl rfl ?_
              refine E_ic (t := 104) (b := false) rfl rfl ((cn_le (nI_toInt (by omega)) (nI_toInt (by omega))).trans (decide_eq_false (by omega))) ?_
              refine E_iload rfl rfl ?_
              refine E_goto (t := 105) rfl rfl ?_
              refine E_istore_n (L2 := [some (.ref 65), some (.int (nI 7)), some (.int (nI (a + 4))), some (.int (nI 1)), some (.int (nI (a + 4))), some (.int (nI 11))]) rfl rfl ?_
              exact K2
            · have : ([112, 105, 101, 99, 101, 32, 0, 112, 101, 114, 115, 111, 110, 32, 0, 99, 111, 115, 116, 32, 0, 104, 97, 115, 32, 0, 98, 97, 99, 107, 32, 0, 103, 114, 101, 101, 100, 121, 0, 98, 101, 115, 116, 0] : List Nat).length = 44 := rfl
              have q0 : mtc e n [112, 101, 114, 115, 111, 110, 32] (a) = mtc e n [101, 114, 115, 111, 110, 32] (a + 1) + 1 := mtc_t hb0
              have q1 : mtc e n [101, 114, 115, 111, 110, 32] (a + 1) = mtc e n [114, 115, 111, 110, 32] (a + 1 + 1) + 1 := mtc_t hb1
              have q2 : mtc e n [114, 115, 111, 110, 32] (a + 1 + 1) = mtc e n [115, 111, 110, 32] (a + 1 + 1 + 1) + 1 := mtc_t hb2
              have q3 : mtc e n [115, 111, 110, 32] (a + 1 + 1 + 1) = mtc e n [111, 110, 32] (a + 1 + 1 + 1 + 1) + 1 := mtc_t hb3
              have q4 : mtc e n [111, 110, 32] (a + 1 + 1 + 1 + 1) = 0 := mtc_f hb4
              have hm0 : mr1 e n a = 4 := by unfold mr1; omega
              have K2 := K (nI 11)
              rw [hm0] at K2
              rw [show max f0 (a + 4) = f0 from by omega] at K2
              refine mw_s1 (x := a + 0) (pos := 7) (ch := 112) hj hn (by omega) l_ce hce (by decide) rfl (by decide) (by decide) hb0 ?_
              refine mw_s1 (x := a + 1) (pos := 8) (ch := 101) hj hn (by omega) l_ce hce (by decide) rfl (by decide) (by decide) hb1 ?_
              refine mw_s1 (x := a + 2) (pos := 9) (ch := 114) hj hn (by omega) l_ce hce (by decide) rfl (by decide) (by decide) hb2 ?_
              refine mw_s1 (x := a + 3) (pos := 10) (ch := 115) hj hn (by omega) l_ce hce (by decide) rfl (by decide) (by decide) hb3 ?_
              refine mw_s0 (x := a + 4) (pos := 11) (ch := 111) hj hn (by omega) l_ce hce (by decide) rfl (by decide) (by decide) hb4 ?_
              refine E_aload_n rfl rfl ?_
              refine E_getfield (v := .ref 82) rfl w65 rfl (by decide) rfl ?_
              refine E_iload rfl rfl ?_
              refine E_ialN (l := [112, 105, 101, 99, 101, 32, 0, 112, 101, 114, 115, 111, 110, 32, 0, 99, 111, 115, 116, 32, 0, 104, 97, 115, 32, 0, 98, 97, 99, 107, 32, 0, 103, 114, 101, 101, 100, 121, 0, 98, 101, 115, 116, 0]) (v := 111) rfl w82 (by omega) (by omega) rfl ?_
              refine E_if (t := 93) (b := true) rfl rfl (by decide) ?_
              refine E_iload rfl rfl ?_
              refine E_iload_n rfl rfl ?_
              refine E_ic (t := 104) (b := true) rfl rfl ((cn_le (nI_toInt (by omega)) (nI_toInt (by omega))).trans (decide_eq_true (by omega))) ?_
              refine E_iload_n rfl rfl ?_
              refine E_istore_n (L2 := [some (.ref 65), some (.int (nI 7)), some (.int (nI f0)), some (.int (nI 1)), some (.int (nI (a + 4))), some (.int (nI 11))]) rfl rfl ?_
              exact K2
          · rcases bo2 (chB e n (a + 1 + 1 + 1 + 1 + 1) 110) with hb5 | hb5
            · by_cases f6 : f0 < a + 5
              · have : ([112, 105, 101, 99, 101, 32, 0, 112, 101, 114, 115, 111, 110, 32, 0, 99, 111, 115, 116, 32, 0, 104, 97, 115, 32, 0, 98, 97, 99, 107, 32, 0, 103, 114, 101, 101, 100, 121, 0, 98, 101, 115, 116, 0] : List Nat).length = 44 := rfl
                have q0 : mtc e n [112, 101, 114, 115, 111, 110, 32] (a) = mtc e n [101, 114, 115, 111, 110, 32] (a + 1) + 1 := mtc_t hb0
                have q1 : mtc e n [101, 114, 115, 111, 110, 32] (a + 1) = mtc e n [114, 115, 111, 110, 32] (a + 1 + 1) + 1 := mtc_t hb1
                have q2 : mtc e n [114, 115, 111, 110, 32] (a + 1 + 1) = mtc e n [115, 111, 110, 32] (a + 1 + 1 + 1) + 1 := mtc_t hb2
                have q3 : mtc e n [115, 111, 110, 32] (a + 1 + 1 + 1) = mtc e n [111, 110, 32] (a + 1 + 1 + 1 + 1) + 1 := mtc_t hb3
                have q4 : mtc e n [111, 110, 32] (a + 1 + 1 + 1 + 1) = mtc e n [110, 32] (a + 1 + 1 + 1 + 1 + 1) + 1 := mtc_t hb4
                have q5 : mtc e n [110, 32] (a + 1 + 1 + 1 + 1 + 1) = 0 := mtc_f hb5
                have hm0 : mr1 e n a = 5 := by unfold mr1; omega
                have K2 := K (nI 12)
                rw [hm0] at K2
                rw [show max f0 (a + 5) = a + 5 from by omega] at K2
                refine mw_s1 (x := a + 0) (pos := 7) (ch := 112) hj hn (by omega) l_ce hce (by decide) rfl (by decide) (by decide) hb0 ?_
                refine mw_s1 (x := a + 1) (pos := 8) (ch := 101) hj hn (by omega) l_ce hce (by decide) rfl (by decide) (by decide) hb1 ?_
                refine mw_s1 (x := a + 2) (pos := 9) (ch := 114) hj hn (by omega) l_ce hce (by decide) rfl (by decide) (by decide) hb2 ?_
                refine mw_s1 (x := a + 3) (pos := 10) (ch := 115) hj hn (by omega) l_ce hce (by decide) rfl (by decide) (by decide) hb3 ?_
                refine mw_s1 (x := a + 4) (pos := 11) (ch := 111) hj hn (by omega) l_ce hce (by decide) rfl (by decide) (by decide) hb4 ?_
                refine mw_s0 (x := a + 5) (pos := 12) (ch := 110) hj hn (by omega) l_ce hce (by decide) rfl (by decide) (by decide) hb5 ?_
                refine E_aload_n rfl rfl ?_
                refine E_getfield (v := .ref 82) rfl w65 rfl (by decide) rfl ?_
                refine E_iload rfl rfl ?_
                refine E_ialN (l := [112, 105, 101, 99, 101, 32, 0, 112, 101, 114, 115, 111, 110, 32, 0, 99, 111, 115, 116, 32, 0, 104, 97, 115, 32, 0, 98, 97, 99, 107, 32, 0, 103, 114, 101, 101, 100, 121, 0, 98, 101, 115, 116, 0]) (v := 110) rfl w82 (by omega) (by omega) rfl ?_
                refine E_if (t := 93) (b := true) rfl rfl (by decide) ?_
                refine E_iload rfl rfl ?_
                refine E_iload_n rfl rfl ?_
                refine E_ic (t := 104) (b := false) rfl rfl ((cn_le (nI_toInt (by omega)) (nI_toInt (by omega))).trans (decide_eq_false (by omega))) ?_
                refine E_iload rfl rfl ?_
                refine E_goto (t := 105) rfl rfl ?_
                refine E_istore_n (L2 := [some (.ref 65), some (.int (nI 7)), some (.int (nI (a + 5))), some (.int (nI 1)), some (.int (nI (a + 5))), some (.int (nI 12))]) rfl rfl ?_
                exact K2
              · have : ([112, 105, 101, 99, 101, 32, 0, 112, 101, 114, 115, 111, 110, 32, 0, 99, 111, 115, 116, 32, 0, 104, 97, 115, 32, 0, 98, 97, 99, 107, 32, 0, 103, 114, 101, 101, 100, 121, 0, 98, 101, 115, 116, 0] : List Nat).length = 44 := rfl
                have q0 : mtc e n [112, 101, 114, 115, 111, 110, 32] (a) = mtc e n [101, 114, 115, 111, 110, 32] (a + 1) + 1 := mtc_t hb0
                have q1 : mtc e n [101, 114, 115, 111, 110, 32] (a + 1) = mtc e n [114, 115, 111, 110, 32] (a + 1 + 1) + 1 := mtc_t hb1
                have q2 : mtc e n [114, 115, 111, 110, 32] (a + 1 + 1) = mtc e n [115, 111, 110, 32] (a + 1 + 1 + 1) + 1 := mtc_t hb2
                have q3 : mtc e n [115, 111, 110, 32] (a + 1 + 1 + 1) = mtc e n [111, 110, 32] (a + 1 + 1 + 1 + 1) + 1 := mtc_t hb3
                have q4 : mtc e n [111, 110, 32] (a + 1 + 1 + 1 + 1) = mtc e n [110, 32] (a + 1 + 1 + 1 + 1 + 1) + 1 := mtc_t hb4
                have q5 : mtc e n [110, 32] (a + 1 + 1 + 1 + 1 + 1) = 0 := mtc_f hb5
                have hm0 : mr1 e n a = 5 := by unfold mr1; omega
                have K2 := K (nI 12)
                rw [hm0] at K2
                rw [show max f0 (a + 5) = f0 from by omega] at K2
                refine mw_s1 (x := a + 0) (pos := 7) (ch := 112) hj hn (by omega) l_ce hce (by decide) rfl (by decide) (by decide) hb0 ?_
                refine mw_s1 (x := a + 1) (pos := 8) (ch := 101) hj hn (by omega) l_ce hce (by decide) rfl (by decide) (by decide) hb1 ?_
                refine mw_s1 (x := a + 2) (pos := 9) (ch := 114) hj hn (by omega) l_ce hce (by decide) rfl (by decide) (by decide) hb2 ?_
                refine mw_s1 (x := a + 3) (pos := 10) (ch := 115) hj hn (by omega) l_ce hce (by decide) rfl (by decide) (by decide) hb3 ?_
                refine mw_s1 (x := a + 4) (pos := 11) (ch := 111) hj hn (by omega) l_ce hce (by decide) rfl (by decide) (by decide) hb4 ?_
                refine mw_s0 (x := a + 5) (pos := 12) (ch := 110) hj hn (by omega) l_ce hce (by decide) rfl (by decide) (by decide) hb5 ?_
                refine E_aload_n rfl rfl ?_
                refine E_getfield (v := .ref 82) rfl w65 rfl (by decide) rfl ?_
                refine E_iload rfl rfl ?_
                refine E_ialN (l := [112, 105, 101, 99, 101, 32, 0, 112, 101, 114, 115, 111, 110, 32, 0, 99, 111, 115, 116, 32, 0, 104, 97, 115, 32, 0, 98, 97, 99, 107, 32, 0, 103, 114, 101, 101, 100, 121, 0, 98, 101, 115, 116, 0]) (v := 110) rfl w82 (by omega) (by omega) rfl ?_
                refine E_if (t := 93) (b := true) rfl rfl (by decide) ?_
                refine E_iload rfl rfl ?_
                refine E_iload_n rfl rfl ?_
                refine E_ic (t := 104) (b := true) rfl rfl ((cn_le (nI_toInt (by omega)) (nI_toInt (by omega))).trans (decide_eq_true (by omega))) ?_
                refine E_iload_n rfl rfl ?_
                refine E_istore_n (L2 := [some (.ref 65), some (.int (nI 7)), some (.int (nI f0)), some (.int (nI 1)), some (.int (nI (a + 5))), some (.int (nI 12))]) rfl rfl ?_
                exact K2
            · rcases bo2 (chB e n (a + 1 + 1 + 1 + 1 + 1 + 1) 32) with hb6 | hb6
              · by_cases f7 : f0 < a + 6
                · have : ([112, 105, 101, 99, 101, 32, 0, 112, 101, 114, 115, 111, 110, 32, 0, 99, 111, 115, 116, 32, 0, 104, 97, 115, 32, 0, 98, 97, 99, 107, 32, 0, 103, 114, 101, 101, 100, 121, 0, 98, 101, 115, 116, 0] : List Nat).length = 44 := rfl
                  have q0 : mtc e n [112, 101, 114, 115, 111, 110, 32] (a) = mtc e n [101, 114, 115, 111, 110, 32] (a + 1) + 1 := mtc_t hb0
                  have q1 : mtc e n [101, 114, 115, 111, 110, 32] (a + 1) = mtc e n [114, 115, 111, 110, 32] (a + 1 + 1) + 1 := mtc_t hb1
                  have q2 : mtc e n [114, 115, 111, 110, 32] (a + 1 + 1) = mtc e n [115, 111, 110, 32] (a + 1 + 1 + 1) + 1 := mtc_t hb2
                  have q3 : mtc e n [115, 111, 110, 32] (a + 1 + 1 + 1) = mtc e n [111, 110, 32] (a + 1 + 1 + 1 + 1) + 1 := mtc_t hb3
                  have q4 : mtc e n [111, 110, 32] (a + 1 + 1 + 1 + 1) = mtc e n [110, 32] (a + 1 + 1 + 1 + 1 + 1) + 1 := mtc_t hb4
                  have q5 : mtc e n [110, 32] (a + 1 + 1 + 1 + 1 + 1) = mtc e n [32] (a + 1 + 1 + 1 + 1 + 1 + 1) + 1 := mtc_t hb5
                  have q6 : mtc e n [32] (a + 1 + 1 + 1 + 1 + 1 + 1) = 0 := mtc_f hb6
                  have hm0 : mr1 e n a = 6 := by unfold mr1; omega
                  have K2 := K (nI 13)
                  rw [hm0] at K2
                  rw [show max f0 (a + 6) = a + 6 from by omega] at K2
                  refine mw_s1 (x := a + 0) (pos := 7) (ch := 112) hj hn (by omega) l_ce hce (by decide) rfl (by decide) (by decide) hb0 ?_
                  refine mw_s1 (x := a + 1) (pos := 8) (ch := 101) hj hn (by omega) l_ce hce (by decide) rfl (by decide) (by decide) hb1 ?_
                  refine mw_s1 (x := a + 2) (pos := 9) (ch := 114) hj hn (by omega) l_ce hce (by decide) rfl (by decide) (by decide) hb2 ?_
                  refine mw_s1 (x := a + 3) (pos := 10) (ch := 115) hj hn (by omega) l_ce hce (by decide) rfl (by decide) (by decide) hb3 ?_
                  refine mw_s1 (x := a + 4) (pos := 11) (ch := 111) hj hn (by omega) l_ce hce (by decide) rfl (by decide) (by decide) hb4 ?_
                  refine mw_s1 (x := a + 5) (pos := 12) (ch := 110) hj hn (by omega) l_ce hce (by decide) rfl (by decide) (by decide) hb5 ?_
                  refine mw_s0 (x := a + 6) (pos := 13) (ch := 32) hj hn (by omega) l_ce hce (by decide) rfl (by decide) (by decide) hb6 ?_
                  refine E_aload_n rfl rfl ?_
                  refine E_getfield (v := .ref 82) rfl w65 rfl (by decide) rfl ?_
                  refine E_iload rfl rfl ?_
                  refine E_ialN (l := [112, 105, 101, 99, 101, 32, 0, 112, 101, 114, 115, 111, 110, 32, 0, 99, 111, 115, 116, 32, 0, 104, 97, 115, 32, 0, 98, 97, 99, 107, 32, 0, 103, 114, 101, 101, 100, 121, 0, 98, 101, 115, 116, 0]) (v := 32) rfl w82 (by omega) (by omega) rfl ?_
                  refine E_if (t := 93) (b := true) rfl rfl (by decide) ?_
                  refine E_iload rfl rfl ?_
                  refine E_iload_n rfl rfl ?_
                  refine E_ic (t := 104) (b := false) rfl rfl ((cn_le (nI_toInt (by omega)) (nI_toInt (by omega))).trans (decide_eq_false (by omega))) ?_
                  refine E_iload rfl rfl ?_
                  refine E_goto (t := 105) rfl rfl ?_
                  refine E_istore_n (L2 := [some (.ref 65), some (.int (nI 7)), some (.int (nI (a + 6))), some (.int (nI 1)), some (.int (nI (a + 6))), some (.int (nI 13))]) rfl rfl ?_
                  exact K2
                · have : ([112, 105, 101, 99, 101, 32, 0, 112, 101, 114, 115, 111, 110, 32, 0, 99, 111, 115, 116, 32, 0, 104, 97, 115, 32, 0, 98, 97, 99, 107, 32, 0, 103, 114, 101, 101, 100, 121, 0, 98, 101, 115, 116, 0] : List Nat).length = 44 := rfl
                  have q0 : mtc e n [112, 101, 114, 115, 111, 110, 32] (a) = mtc e n [101, 114, 115, 111, 110, 32] (a + 1) + 1 := mtc_t hb0
                  have q1 : mtc e n [101, 114, 115, 111, 110, 32] (a + 1) = mtc e n [114, 115, 111, 110, 32] (a + 1 + 1) + 1 := mtc_t hb1
                  have q2 : mtc e n [114, 115, 111, 110, 32] (a + 1 + 1) = mtc e n [115, 111, 110, 32] (a + 1 + 1 + 1) + 1 := mtc_t hb2
                  have q3 : mtc e n [115, 111, 110, 32] (a + 1 + 1 + 1) = mtc e n [111, 110, 32] (a + 1 + 1 + 1 + 1) + 1 := mtc_t hb3
                  have q4 : mtc e n [111, 110, 32] (a + 1 + 1 + 1 + 1) = mtc e n [110, 32] (a + 1 + 1 + 1 + 1 + 1) + 1 := mtc_t hb4
                  have q5 : mtc e n [110, 32] (a + 1 + 1 + 1 + 1 + 1) = mtc e n [32] (a + 1 + 1 + 1 + 1 + 1 + 1) + 1 := mtc_t hb5
                  have q6 : mtc e n [32] (a + 1 + 1 + 1 + 1 + 1 + 1) = 0 := mtc_f hb6
                  have hm0 : mr1 e n a = 6 := by unfold mr1; omega
                  have K2 := K (nI 13)
                  rw [hm0] at K2
                  rw [show max f0 (a + 6) = f0 from by omega] at K2
                  refine mw_s1 (x := a + 0) (pos := 7) (ch := 112) hj hn (by omega) l_ce hce (by decide) rfl (by decide) (by decide) hb0 ?_
                  refine mw_s1 (x := a + 1) (pos := 8) (ch := 101) hj hn (by omega) l_ce hce (by decide) rfl (by decide) (by decide) hb1 ?_
                  refine mw_s1 (x := a + 2) (pos := 9) (ch := 114) hj hn (by omega) l_ce hce (by decide) rfl (by decide) (by decide) hb2 ?_
                  refine mw_s1 (x := a + 3) (pos := 10) (ch := 115) hj hn (by omega) l_ce hce (by decide) rfl (by decide) (by decide) hb3 ?_
                  refine mw_s1 (x := a + 4) (pos := 11) (ch := 111) hj hn (by omega) l_ce hce (by decide) rfl (by decide) (by decide) hb4 ?_
                  refine mw_s1 (x := a + 5) (pos := 12) (ch := 110) hj hn (by omega) l_ce hce (by decide) rfl (by decide) (by decide) hb5 ?_
                  refine mw_s0 (x := a + 6) (pos := 13) (ch := 32) hj hn (by omega) l_ce hce (by decide) rfl (by decide) (by decide) hb6 ?_
                  refine E_aload_n rfl rfl ?_
                  refine E_getfield (v := .ref 82) rfl w65 rfl (by decide) rfl ?_
                  refine E_iload rfl rfl ?_
                  refine E_ialN (l := [112, 105, 101, 99, 101, 32, 0, 112, 101, 114, 115, 111, 110, 32, 0, 99, 111, 115, 116, 32, 0, 104, 97, 115, 32, 0, 98, 97, 99, 107, 32, 0, 103, 114, 101, 101, 100, 121, 0, 98, 101, 115, 116, 0]) (v := 32) rfl w82 (by omega) (by omega) rfl ?_
                  refine E_if (t := 93) (b := true) rfl rfl (by decide) ?_
                  refine E_iload rfl rfl ?_
                  refine E_iload_n rfl rfl ?_
                  refine E_ic (t := 104) (b := true) rfl rfl ((cn_le (nI_toInt (by omega)) (nI_toInt (by omega))).trans (decide_eq_true (by omega))) ?_
                  refine E_iload_n rfl rfl ?_
                  refine E_istore_n (L2 := [some (.ref 65), some (.int (nI 7)), some (.int (nI f0)), some (.int (nI 1)), some (.int (nI (a + 6))), some (.int (nI 13))]) rfl rfl ?_
                  exact K2
              · have q0 : mtc e n [112, 101, 114, 115, 111, 110, 32] (a) = mtc e n [101, 114, 115, 111, 110, 32] (a + 1) + 1 := mtc_t hb0
                have q1 : mtc e n [101, 114, 115, 111, 110, 32] (a + 1) = mtc e n [114, 115, 111, 110, 32] (a + 1 + 1) + 1 := mtc_t hb1
                have q2 : mtc e n [114, 115, 111, 110, 32] (a + 1 + 1) = mtc e n [115, 111, 110, 32] (a + 1 + 1 + 1) + 1 := mtc_t hb2
                have q3 : mtc e n [115, 111, 110, 32] (a + 1 + 1 + 1) = mtc e n [111, 110, 32] (a + 1 + 1 + 1 + 1) + 1 := mtc_t hb3
                have q4 : mtc e n [111, 110, 32] (a + 1 + 1 + 1 + 1) = mtc e n [110, 32] (a + 1 + 1 + 1 + 1 + 1) + 1 := mtc_t hb4
                have q5 : mtc e n [110, 32] (a + 1 + 1 + 1 + 1 + 1) = mtc e n [32] (a + 1 + 1 + 1 + 1 + 1 + 1) + 1 := mtc_t hb5
                have q6 : mtc e n [32] (a + 1 + 1 + 1 + 1 + 1 + 1) = mtc e n [] (a + 1 + 1 + 1 + 1 + 1 + 1 + 1) + 1 := mtc_t hb6
                have q7 : mtc e n [] (a + 1 + 1 + 1 + 1 + 1 + 1 + 1) = 0 := rfl
                have hm0 : mr1 e n a = 7 := by unfold mr1; omega
                exfalso
                omega
set_option maxHeartbeats 1000000 in
theorem mw_f2 {e : List Int64} {n a j : Nat} {x30 x31 : Int32} {q : ab_q} (hj : j < 8) (hn : n ≤ 160) (ha : a ≤ n) (l_ce : ce.length = 1280) (hce : ∀ p, p < 160 → e.getD p 0 = ce.getD (160 * j + p) 0) {f0 : Nat} {r : Option Value × List ab_C} (hk : mr2 e n a = 5) (K : Ef ab_Z0 0 mX6_word (85, [some (.ref 65), some (.int (nI 15)), some (.int (nI f0)), some (.int (nI 2)), some (.int (nI (a + 5))), some (.int (nI 20))], [], (ww im lf s d k ls rf rz ra rn rq lt m1 m2 m3 m4 bd fc hd sz el q (fUp (fUp (fUp (fUp (fUp (fUp g 27 (nI (160 * j))) 29 (nI n)) 6 (-1)) 28 (nI a)) 30 x30) 31 x31) fm hm so si sh ce ca td wa kp la bf oo bo pw ow tr)) r) : Ef ab_Z0 0 mX6_word (24, [some (.ref 65), some (.int (nI 15)), some (.int (nI f0)), some (.int (nI 2)), some (.int (nI a)), some (.int (nI 15))], [], (ww im lf s d k ls rf rz ra rn rq lt m1 m2 m3 m4 bd fc hd sz el q (fUp (fUp (fUp (fUp (fUp (fUp g 27 (nI (160 * j))) 29 (nI n)) 6 (-1)) 28 (nI a)) 30 x30) 31 x31) fm hm so si sh ce ca td wa kp la bf oo bo pw ow tr)) r := by
  have hx := er_2 hk
  have hb0 := hx.1
  have hb1 := hx.2.1
  have hb2 := hx.2.2.1
  have hb3 := hx.2.2.2.1
  have hb4 := hx.2.2.2.2
  refine mw_s1 (x := a + 0) (pos := 15) (ch := 99) hj hn (by omega) l_ce hce (by decide) rfl (by decide) (by decide) hb0 ?_
  refine mw_s1 (x := a + 1) (pos := 16) (ch := 111) hj hn (by omega) l_ce hce (by decide) rfl (by decide) (by decide) hb1 ?_
  refine mw_s1 (x := a + 2) (pos := 17) (ch := 115) hj hn (by omega) l_ce hce (by decide) rfl (by decide) (by decide) hb2 ?_
  refine mw_s1 (x := a + 3) (pos := 18) (ch := 116) hj hn (by omega) l_ce hce (by decide) rfl (by decide) (by decide) hb3 ?_
  refine mw_s1 (x := a + 4) (pos := 19) (ch := 32) hj hn (by omega) l_ce hce (by decide) rfl (by decide) (by decide) hb4 ?_
  have : ([112, 105, 101, 99, 101, 32, 0, 112, 101, 114, 115, 111, 110, 32, 0, 99, 111, 115, 116, 32, 0, 104, 97, 115, 32, 0, 98, 97, 99, 107, 32, 0, 103, 114, 101, 101, 100, 121, 0, 98, 101, 115, 116, 0] : List Nat).length = 44 := rfl
  refine E_aload_n rfl rfl ?_
  refine E_getfield (v := .ref 82) rfl w65 rfl (by decide) rfl ?_
  refine E_iload rfl rfl ?_
  refine E_ialN (l := [112, 105, 101, 99, 101, 32, 0, 112, 101, 114, 115, 111, 110, 32, 0, 99, 111, 115, 116, 32, 0, 104, 97, 115, 32, 0, 98, 97, 99, 107, 32, 0, 103, 114, 101, 101, 100, 121, 0, 98, 101, 115, 116, 0]) (v := 0) rfl w82 (by omega) (by omega) rfl ?_
  refine E_if (t := 75) (b := true) rfl rfl (by decide) ?_
  refine E_aload_n rfl rfl ?_
  refine E_getfield (v := .ref 82) rfl w65 rfl (by decide) rfl ?_
  refine E_iload rfl rfl ?_
  refine E_ialN (l := [112, 105, 101, 99, 101, 32, 0, 112, 101, 114, 115, 111, 110, 32, 0, 99, 111, 115, 116, 32, 0, 104, 97, 115, 32, 0, 98, 97, 99, 107, 32, 0, 103, 114, 101, 101, 100, 121, 0, 98, 101, 115, 116, 0]) (v := 0) rfl w82 (by omega) (by omega) rfl ?_
  refine E_if (t := 93) (b := false) rfl rfl (by decide) ?_
  exact K
set_option maxHeartbeats 1000000 in
theorem mw_p2 {e : List Int64} {n a j : Nat} {x30 x31 : Int32} {q : ab_q} (hj : j < 8) (hn : n ≤ 160) (ha : a ≤ n) (l_ce : ce.length = 1280) (hce : ∀ p, p < 160 → e.getD p 0 = ce.getD (160 * j + p) 0) {f0 : Nat} (hf0 : f0 < 1000) {r : Option Value × List ab_C} (hk : ¬ mr2 e n a = 5) (K : ∀ c : Int32, Ef ab_Z0 0 mX6_word (106, [some (.ref 65), some (.int (nI 15)), some (.int (nI (max f0 (a + mr2 e n a)))), some (.int (nI 2)), some (.int (nI (a + mr2 e n a))), some (.int c)], [], (ww im lf s d k ls rf rz ra rn rq lt m1 m2 m3 m4 bd fc hd sz el q (fUp (fUp (fUp (fUp (fUp (fUp g 27 (nI (160 * j))) 29 (nI n)) 6 (-1)) 28 (nI a)) 30 x30) 31 x31) fm hm so si sh ce ca td wa kp la bf oo bo pw ow tr)) r) : Ef ab_Z0 0 mX6_word (24, [some (.ref 65), some (.int (nI 15)), some (.int (nI f0)), some (.int (nI 2)), some (.int (nI a)), some (.int (nI 15))], [], (ww im lf s d k ls rf rz ra rn rq lt m1 m2 m3 m4 bd fc hd sz el q (fUp (fUp (fUp (fUp (fUp (fUp g 27 (nI (160 * j))) 29 (nI n)) 6 (-1)) 28 (nI a)) 30 x30) 31 x31) fm hm so si sh ce ca td wa kp la bf oo bo pw ow tr)) r := by
  rcases bo2 (chB e n (a) 99) with hb0 | hb0
  · by_cases f1 : f0 < a
    · have : ([112, 105, 101, 99, 101, 32, 0, 112, 101, 114, 115, 111, 110, 32, 0, 99, 111, 115, 116, 32, 0, 104, 97, 115, 32, 0, 98, 97, 99, 107, 32, 0, 103, 114, 101, 101, 100, 121, 0, 98, 101, 115, 116, 0] : List Nat).length = 44 := rfl
      have q0 : mtc e n [99, 111, 115, 116, 32] (a) = 0 := mtc_f hb0
      have hm0 : mr2 e n a = 0 := by unfold mr2; omega
      have K2 := K (nI 15)
      rw [hm0] at K2
      rw [show max f0 (a + 0) = a + 0 from by omega] at K2
      refine mw_s0 (x := a + 0) (pos := 15) (ch := 99) hj hn (by omega) l_ce hce (by decide) rfl (by decide) (by decide) hb0 ?_
      refine E_aload_n rfl rfl ?_
      refine E_getfield (v := .ref 82) rfl w65 rfl (by decide) rfl ?_
      refine E_iload rfl rfl ?_
      refine E_ialN (l := [112, 105, 101, 99, 101, 32, 0, 112, 101, 114, 115, 111, 110, 32, 0, 99, 111, 115, 116, 32, 0, 104, 97, 115, 32, 0, 98, 97, 99, 107, 32, 0, 103, 114, 101, 101, 100, 121, 0, 98, 101, 115, 116, 0]) (v := 99) rfl w82 (by omega) (by omega) rfl ?_
      refine E_if (t := 93) (b := true) rfl rfl (by decide) ?_
      refine E_iload rfl rfl ?_
      refine E_iload_n rfl rfl ?_
      refine E_ic (t := 104) (b := false) rfl rfl ((cn_le (nI_toInt (by omega)) (nI_toInt (by omega))).trans (decide_eq_false (by omega))) ?_
      refine E_iload rfl rfl ?_
      refine E_goto (t := 105) rfl rfl ?_
      refine E_istore_n (L2 := [some (.ref 65), some (.int (nI 15)), some (.int (nI (a + 0))), some (.int (nI 2)), some (.int (nI (a + 0))), some (.int (nI 15))]) rfl rfl ?_
      exact K2
    · have : ([112, 105, 101, 99, 101, 32, 0, 112, 101, 114, 115, 111, 110, 32, 0, 99, 111, 115, 116, 32, 0, 104, 97, 115, 32, 0, 98, 97, 99, 107, 32, 0, 103, 114, 101, 101, 100, 121, 0, 98, 101, 115, 116, 0] : List Nat).length = 44 := rfl
      have q0 : mtc e n [99, 111, 115, 116, 32] (a) = 0 := mtc_f hb0
      have hm0 : mr2 e n a = 0 := by unfold mr2; omega
      have K2 := K (nI 15)
      rw [hm0] at K2
      rw [show max f0 (a + 0) = f0 from by omega] at K2
      refine mw_s0 (x := a + 0) (pos := 15) (ch := 99) hj hn (by omega) l_ce hce (by decide) rfl (by decide) (by decide) hb0 ?_
      refine E_aload_n rfl rfl ?_
      refine E_getfield (v := .ref 82) rfl w65 rfl (by decide) rfl ?_
      refine E_iload rfl rfl ?_
      refine E_ialN (l := [112, 105, 101, 99, 101, 32, 0, 112, 101, 114, 115, 111, 110, 32, 0, 99, 111, 115, 116, 32, 0, 104, 97, 115, 32, 0, 98, 97, 99, 107, 32, 0, 103, 114, 101, 101, 100, 121, 0, 98, 101, 115, 116, 0]) (v := 99) rfl w82 (by omega) (by omega) rfl ?_
      refine E_if (t := 93) (b := true) rfl rfl (by decide) ?_
      refine E_iload rfl rfl ?_
      refine E_iload_n rfl rfl ?_
      refine E_ic (t := 104) (b := true) rfl rfl ((cn_le (nI_toInt (by omega)) (nI_toInt (by omega))).trans (decide_eq_true (by omega))) ?_
      refine E_iload_n rfl rfl ?_
      refine E_istore_n (L2 := [some (.ref 65), some (.int (nI 15)), some (.int (nI f0)), some (.int (nI 2)), some (.int (nI (a + 0))), some (.int (nI 15))]) rfl rfl ?_
      exact K2
  · rcases bo2 (chB e n (a + 1) 111) with hb1 | hb1
    · by_cases f2 : f0 < a + 1
      · have : ([112, 105, 101, 99, 101, 32, 0, 112, 101, 114, 115, 111, 110, 32, 0, 99, 111, 115, 116, 32, 0, 104, 97, 115, 32, 0, 98, 97, 99, 107, 32, 0, 103, 114, 101, 101, 100, 121, 0, 98, 101, 115, 116, 0] : List Nat).length = 44 := rfl
        have q0 : mtc e n [99, 111, 115, 116, 32] (a) = mtc e n [111, 115, 116, 32] (a + 1) + 1 := mtc_t hb0
        have q1 : mtc e n [111, 115, 116, 32] (a + 1) = 0 := mtc_f hb1
        have hm0 : mr2 e n a = 1 := by unfold mr2; omega
        have K2 := K (nI 16)
        rw [hm0] at K2
        rw [show max f0 (a + 1) = a + 1 from by omega] at K2
        refine mw_s1 (x := a + 0) (pos := 15) (ch := 99) hj hn (by omega) l_ce hce (by decide) rfl (by decide) (by decide) hb0 ?_
        refine mw_s0 (x := a + 1) (pos := 16) (ch := 111) hj hn (by omega) l_ce hce (by decide) rfl (by decide) (by decide) hb1 ?_
        refine E_aload_n rfl rfl ?_
        refine E_getfield (v := .ref 82) rfl w65 rfl (by decide) rfl ?_
        refine E_iload rfl rfl ?_
        refine E_ialN (l := [112, 105, 101, 99, 101, 32, 0, 112, 101, 114, 115, 111, 110, 32, 0, 99, 111, 115, 116, 32, 0, 104, 97, 115, 32, 0, 98, 97, 99, 107, 32, 0, 103, 114, 101, 101, 100, 121, 0, 98, 101, 115, 116, 0]) (v := 111) rfl w82 (by omega) (by omega) rfl ?_
        refine E_if (t := 93) (b := true) rfl rfl (by decide) ?_
        refine E_iload rfl rfl ?_
        refine E_iload_n rfl rfl ?_
        refine E_ic (t := 104) (b := false) rfl rfl ((cn_le (nI_toInt (by omega)) (nI_toInt (by omega))).trans (decide_eq_false (by omega))) ?_
        refine E_iload rfl rfl ?_
        refine E_goto (t := 105) rfl rfl ?_
        refine E_istore_n (L2 := [some (.ref 65), some (.int (nI 15)), some (.int (nI (a + 1))), some (.int (nI 2)), some (.int (nI (a + 1))), some (.int (nI 16))]) rfl rfl ?_
        exact K2
      · have : ([112, 105, 101, 99, 101, 32, 0, 112, 101, 114, 115, 111, 110, 32, 0, 99, 111, 115, 116, 32, 0, 104, 97, 115, 32, 0, 98, 97, 99, 107, 32, 0, 103, 114, 101, 101, 100, 121, 0, 98, 101, 115, 116, 0] : List Nat).length = 44 := rfl
        have q0 : mtc e n [99, 111, 115, 116, 32] (a) = mtc e n [111, 115, 116, 32] (a + 1) + 1 := mtc_t hb0
        have q1 : mtc e n [111, 115, 116, 32] (a + 1) = 0 := mtc_f hb1
        have hm0 : mr2 e n a = 1 := by unfold mr2; omega
        have K2 := K (nI 16)
        rw [hm0] at K2
        rw [show max f0 (a + 1) = f0 from by omega] at K2
        refine mw_s1 (x := a + 0) (pos := 15) (ch := 99) hj hn (by omega) l_ce hce (by decide) rfl (by decide) (by decide) hb0 ?_
        refine mw_s0 (x := a + 1) (pos := 16) (ch := 111) hj hn (by omega) l_ce hce (by decide) rfl (by decide) (by decide) hb1 ?_
        refine E_aload_n rfl rfl ?_
        refine E_getfield (v := .ref 82) rfl w65 rfl (by decide) rfl ?_
        refine E_iload rfl rfl ?_
        refine E_ialN (l := [112, 105, 101, 99, 101, 32, 0, 112, 101, 114, 115, 111, 110, 32, 0, 99, 111, 115, 116, 32, 0, 104, 97, 115, 32, 0, 98, 97, 99, 107, 32, 0, 103, 114, 101, 101, 100, 121, 0, 98, 101, 115, 116, 0]) (v := 111) rfl w82 (by omega) (by omega) rfl ?_
        refine E_if (t := 93) (b := true) rfl rfl (by decide) ?_
        refine E_iload rfl rfl ?_
        refine E_iload_n rfl rfl ?_
        refine E_ic (t := 104) (b := true) rfl rfl ((cn_le (nI_toInt (by omega)) (nI_toInt (by omega))).trans (decide_eq_true (by omega))) ?_
        refine E_iload_n rfl rfl ?_
        refine E_istore_n (L2 := [some (.ref 65), some (.int (nI 15)), some (.int (nI f0)), some (.int (nI 2)), some (.int (nI (a + 1))), some (.int (nI 16))]) rfl rfl ?_
        exact K2
    · rcases bo2 (chB e n (a + 1 + 1) 115) with hb2 | hb2
      · by_cases f3 : f0 < a + 2
        · have : ([112, 105, 101, 99, 101, 32, 0, 112, 101, 114, 115, 111, 110, 32, 0, 99, 111, 115, 116, 32, 0, 104, 97, 115, 32, 0, 98, 97, 99, 107, 32, 0, 103, 114, 101, 101, 100, 121, 0, 98, 101, 115, 116, 0] : List Nat).length = 44 := rfl
          have q0 : mtc e n [99, 111, 115, 116, 32] (a) = mtc e n [111, 115, 116, 32] (a + 1) + 1 := mtc_t hb0
          have q1 : mtc e n [111, 115, 116, 32] (a + 1) = mtc e n [115, 116, 32] (a + 1 + 1) + 1 := mtc_t hb1
          have q2 : mtc e n [115, 116, 32] (a + 1 + 1) = 0 := mtc_f hb2
          have hm0 : mr2 e n a = 2 := by unfold mr2; omega
          have K2 := K (nI 17)
          rw [hm0] at K2
          rw [show max f0 (a + 2) = a + 2 from by omega] at K2
          refine mw_s1 (x := a + 0) (pos := 15) (ch := 99) hj hn (by omega) l_ce hce (by decide) rfl (by decide) (by decide) hb0 ?_
          refine mw_s1 (x := a + 1) (pos := 16) (ch := 111) hj hn (by omega) l_ce hce (by decide) rfl (by decide) (by decide) hb1 ?_
          refine mw_s0 (x := a + 2) (pos := 17) (ch := 115) hj hn (by omega) l_ce hce (by decide) rfl (by decide) (by decide) hb2 ?_
          refine E_aload_n rfl rfl ?_
          refine E_getfield (v := .ref 82) rfl w65 rfl (by decide) rfl ?_
          refine E_iload rfl rfl ?_
          refine E_ialN (l := [112, 105, 101, 99, 101, 32, 0, 112, 101, 114, 115, 111, 110, 32, 0, 99, 111, 115, 116, 32, 0, 104, 97, 115, 32, 0, 98, 97, 99, 107, 32, 0, 103, 114, 101, 101, 100, 121, 0, 98, 101, 115, 116, 0]) (v := 115) rfl w82 (by omega) (by omega) rfl ?_
          refine E_if (t := 93) (b := true) rfl rfl (by decide) ?_
          refine E_iload rfl rfl ?_
          refine E_iload_n rfl rfl ?_
          refine E_ic (t := 104) (b := false) rfl rfl ((cn_le (nI_toInt (by omega)) (nI_toInt (by omega))).trans (decide_eq_false (by omega))) ?_
          refine E_iload rfl rfl ?_
          refine E_goto (t := 105) rfl rfl ?_
          refine E_istore_n (L2 := [some (.ref 65), some (.int (nI 15)), some (.int (nI (a + 2))), some (.int (nI 2)), some (.int (nI (a + 2))), some (.int (nI 17))]) rfl rfl ?_
          exact K2
        · have : ([112, 105, 101, 99, 101, 32, 0, 112, 101, 114, 115, 111, 110, 32, 0, 99, 111, 115, 116, 32, 0, 104, 97, 115, 32, 0, 98, 97, 99, 107, 32, 0, 103, 114, 101, 101, 100, 121, 0, 98, 101, 115, 116, 0] : List Nat).length = 44 := rfl
          have q0 : mtc e n [99, 111, 115, 116, 32] (a) = mtc e n [111, 115, 116, 32] (a + 1) + 1 := mtc_t hb0
          have q1 : mtc e n [111, 115, 116, 32] (a + 1) = mtc e n [115, 116, 32] (a + 1 + 1) + 1 := mtc_t hb1
          have q2 : mtc e n [115, 116, 32] (a + 1 + 1) = 0 := mtc_f hb2
          have hm0 : mr2 e n a = 2 := by unfold mr2; omega
          have K2 := K (nI 17)
          rw [hm0] at K2
          rw [show max f0 (a + 2) = f0 from by omega] at K2
          refine mw_s1 (x := a + 0) (pos := 15) (ch := 99) hj hn (by omega) l_ce hce (by decide) rfl (by decide) (by decide) hb0 ?_
          refine mw_s1 (x := a + 1) (pos := 16) (ch := 111) hj hn (by omega) l_ce hce (by decide) rfl (by decide) (by decide) hb1 ?_
          refine mw_s0 (x := a + 2) (pos := 17) (ch := 115) hj hn (by omega) l_ce hce (by decide) rfl (by decide) (by decide) hb2 ?_
          refine E_aload_n rfl rfl ?_
          refine E_getfield (v := .ref 82) rfl w65 rfl (by decide) rfl ?_
          refine E_iload rfl rfl ?_
          refine E_ialN (l := [112, 105, 101, 99, 101, 32, 0, 112, 101, 114, 115, 111, 110, 32, 0, 99, 111, 115, 116, 32, 0, 104, 97, 115, 32, 0, 98, 97, 99, 107, 32, 0, 103, 114, 101, 101, 100, 121, 0, 98, 101, 115, 116, 0]) (v := 115) rfl w82 (by omega) (by omega) rfl ?_
          refine E_if (t := 93) (b := true) rfl rfl (by decide) ?_
          refine E_iload rfl rfl ?_
          refine E_iload_n rfl rfl ?_
          refine E_ic (t := 104) (b := true) rfl rfl ((cn_le (nI_toInt (by omega)) (nI_toInt (by omega))).trans (decide_eq_true (by omega))) ?_
          refine E_iload_n rfl rfl ?_
          refine E_istore_n (L2 := [some (.ref 65), some (.int (nI 15)), some (.int (nI f0)), some (.int (nI 2)), some (.int (nI (a + 2))), some (.int (nI 17))]) rfl rfl ?_
          exact K2
      · rcases bo2 (chB e n (a + 1 + 1 + 1) 116) with hb3 | hb3
        · by_cases f4 : f0 < a + 3
          · have : ([112, 105, 101, 99, 101, 32, 0, 112, 101, 114, 115, 111, 110, 32, 0, 99, 111, 115, 116, 32, 0, 104, 97, 115, 32, 0, 98, 97, 99, 107, 32, 0, 103, 114, 101, 101, 100, 121, 0, 98, 101, 115, 116, 0] : List Nat).length = 44 := rfl
            have q0 : mtc e n [99, 111, 115, 116, 32] (a) = mtc e n [111, 115, 116, 32] (a + 1) + 1 := mtc_t hb0
            have q1 : mtc e n [111, 115, 116, 32] (a + 1) = mtc e n [115, 116, 32] (a + 1 + 1) + 1 := mtc_t hb1
            have q2 : mtc e n [115, 116, 32] (a + 1 + 1) = mtc e n [116, 32] (a + 1 + 1 + 1) + 1 := mtc_t hb2
            have q3 : mtc e n [116, 32] (a + 1 + 1 + 1) = 0 := mtc_f hb3
            have hm0 : mr2 e n a = 3 := by unfold mr2; omega
            have K2 := K (nI 18)
            rw [hm0] at K2
            rw [show max f0 (a + 3) = a + 3 from by omega] at K2
            refine mw_s1 (x := a + 0) (pos := 15) (ch := 99) hj hn (by omega) l_ce hce (by decide) rfl (by decide) (by decide) hb0 ?_
            refine mw_s1 (x := a + 1) (pos := 16) (ch := 111) hj hn (by omega) l_ce hce (by decide) rfl (by decide) (by decide) hb1 ?_
            refine mw_s1 (x := a + 2) (pos := 17) (ch := 115) hj hn (by omega) l_ce hce (by decide) rfl (by decide) (by decide) hb2 ?_
            refine mw_s0 (x := a + 3) (pos := 18) (ch := 116) hj hn (by omega) l_ce hce (by decide) rfl (by decide) (by decide) hb3 ?_
            refine E_aload_n rfl rfl ?_
            refine E_getfield (v := .ref 82) rfl w65 rfl (by decide) rfl ?_
            refine E_iload rfl rfl ?_
            refine E_ialN (l := [112, 105, 101, 99, 101, 32, 0, 112, 101, 114, 115, 111, 110, 32, 0, 99, 111, 115, 116, 32, 0, 104, 97, 115, 32, 0, 98, 97, 99, 107, 32, 0, 103, 114, 101, 101, 100, 121, 0, 98, 101, 115, 116, 0]) (v := 116) rfl w82 (by omega) (by omega) rfl ?_
            refine E_if (t := 93) (b := true) rfl rfl (by decide) ?_
            refine E_iload rfl rfl ?_
            refine E_iload_n rfl rfl ?_
            refine E_ic (t := 104) (b := false) rfl rfl ((cn_le (nI_toInt (by omega)) (nI_toInt (by omega))).trans (decide_eq_false (by omega))) ?_
            refine E_iload rfl rfl ?_
            refine E_goto (t := 105) rfl rfl ?_
            refine E_istore_n (L2 := [some (.ref 65), some (.int (nI 15)), some (.int (nI (a + 3))), some (.int (nI 2)), some (.int (nI (a + 3))), some (.int (nI 18))]) rfl rfl ?_
            exact K2
          · have : ([112, 105, 101, 99, 101, 32, 0, 112, 101, 114, 115, 111, 110, 32, 0, 99, 111, 115, 116, 32, 0, 104, 97, 115, 32, 0, 98, 97, 99, 107, 32, 0, 103, 114, 101, 101, 100, 121, 0, 98, 101, 115, 116, 0] : List Nat).length = 44 := rfl
            have q0 : mtc e n [99, 111, 115, 116, 32] (a) = mtc e n [111, 115, 116, 32] (a + 1) + 1 := mtc_t hb0
            have q1 : mtc e n [111, 115, 116, 32] (a + 1) = mtc e n [115, 116, 32] (a + 1 + 1) + 1 := mtc_t hb1
            have q2 : mtc e n [115, 116, 32] (a + 1 + 1) = mtc e n [116, 32] (a + 1 + 1 + 1) + 1 := mtc_t hb2
            have q3 : mtc e n [116, 32] (a + 1 + 1 + 1) = 0 := mtc_f hb3
            have hm0 : mr2 e n a = 3 := by unfold mr2; omega
            have K2 := K (nI 18)
            rw [hm0] at K2
            rw [show max f0 (a + 3) = f0 from by omega] at K2
            refine mw_s1 (x := a + 0) (pos := 15) (ch := 99) hj hn (by omega) l_ce hce (by decide) rfl (by decide) (by decide) hb0 ?_
            refine mw_s1 (x := a + 1) (pos := 16) (ch := 111) hj hn (by omega) l_ce hce (by decide) rfl (by decide) (by decide) hb1 ?_
            refine mw_s1 (x := a + 2) (pos := 17) (ch := 115) hj hn (by omega) l_ce hce (by decide) rfl (by decide) (by decide) hb2 ?_
            refine mw_s0 (x := a + 3) (pos := 18) (ch := 116) hj hn (by omega) l_ce hce (by decide) rfl (by decide) (by decide) hb3 ?_
            refine E_aload_n rfl rfl ?_
            refine E_getfield (v := .ref 82) rfl w65 rfl (by decide) rfl ?_
            refine E_iload rfl rfl ?_
            refine E_ialN (l := [112, 105, 101, 99, 101, 32, 0, 112, 101, 114, 115, 111, 110, 32, 0, 99, 111, 115, 116, 32, 0, 104, 97, 115, 32, 0, 98, 97, 99, 107, 32, 0, 103, 114, 101, 101, 100, 121, 0, 98, 101, 115, 116, 0]) (v := 116) rfl w82 (by omega) (by omega) rfl ?_
            refine E_if (t := 93) (b := true) rfl rfl (by decide) ?_
            refine E_iload rfl rfl ?_
            refine E_iload_n rfl rfl ?_
            refine E_ic (t := 104) (b := true) rfl rfl ((cn_le (nI_toInt (by omega)) (nI_toInt (by omega))).trans (decide_eq_true (by omega))) ?_
            refine E_iload_n rfl rfl ?_
            refine E_istore_n (L2 := [some (.ref 65), some (.int (nI 15)), some (.int (nI f0)), some (.int (nI 2)), some (.int (nI (a + 3))), some (.int (nI 18))]) rfl rfl ?_
            exact K2
        · rcases bo2 (chB e n (a + 1 + 1 + 1 + 1) 32) with hb4 | hb4
          · by_cases f5 : f0 < a + 4
            · have : ([112, 105, 101, 99, 101, 32, 0, 112, 101, 114, 115, 111, 110, 32, 0, 99, 111, 115, 116, 32, 0, 104, 97, 115, 32, 0, 98, 97, 99, 107, 32, 0, 103, 114, 101, 101, 100, 121, 0, 98, 101, 115, 116, 0] : List Nat).length = 44 := rfl
              have q0 : mtc e n [99, 111, 115, 116, 32] (a) = mtc e n [111, 115, 116, 32] (a + 1) + 1 := mtc_t hb0
              have q1 : mtc e n [111, 115, 116, 32] (a + 1) = mtc e n [115, 116, 32] (a + 1 + 1) + 1 := mtc_t hb1
              have q2 : mtc e n [115, 116, 32] (a + 1 + 1) = mtc e n [116, 32] (a + 1 + 1 + 1) + 1 := mtc_t hb2
              have q3 : mtc e n [116, 32] (a + 1 + 1 + 1) = mtc e n [32] (a + 1 + 1 + 1 + 1) + 1 := mtc_t hb3
              have q4 : mtc e n [32] (a + 1 + 1 + 1 + 1) = 0 := mtc_f hb4
              have hm0 : mr2 e n a = 4 := by unfold mr2; omega
              have K2 := K (nI 19)
              rw [hm0] at K2
              rw [show max f0 (a + 4) = a + 4 from by omega] at K2
              refine mw_s1 (x := a + 0) (pos := 15) (ch := 99) hj hn (by omega) l_ce hce (by decide) rfl (by decide) (by decide) hb0 ?_
              refine mw_s1 (x := a + 1) (pos := 16) (ch := 111) hj hn (by omega) l_ce hce (by decide) rfl (by decide) (by decide) hb1 ?_
              refine mw_s1 (x := a + 2) (pos := 17) (ch := 115) hj hn (by omega) l_ce hce (by decide) rfl (by decide) (by decide) hb2 ?_
              refine mw_s1 (x := a + 3) (pos := 18) (ch := 116) hj hn (by omega) l_ce hce (by decide) rfl (by decide) (by decide) hb3 ?_
              refine mw_s0 (x := a + 4) (pos := 19) (ch := 32) hj hn (by omega) l_ce hce (by decide) rfl (by decide) (by decide) hb4 ?_
              refine E_aload_n rfl rfl ?_
              refine E_getfield (v := .ref 82) rfl w65 rfl (by decide) rfl ?_
              refine E_iload rfl rfl ?_
              refine E_ialN (l := [112, 105, 101, 99, 101, 32, 0, 112, 101, 114, 115, 111, 110, 32, 0, 99, 111, 115, 116, 32, 0, 104, 97, 115, 32, 0, 98, 97, 99, 107, 32, 0, 103, 114, 101, 101, 100, 121, 0, 98, 101, 115, 116, 0]) (v := 32) rfl w82 (by omega) (by omega) rfl ?_
              refine E_if (t := 93) (b := true) rfl rfl (by decide) ?_
              refine E_iload rfl rfl ?_
              refine E_iload_n rfl rfl ?_
              refine E_ic (t := 104) (b := false) rfl rfl ((cn_le (nI_toInt (by omega)) (nI_toInt (by omega))).trans (decide_eq_false (by omega))) ?_
              refine E_iload rfl rfl ?_
              refine E_goto (t := 105) rfl rfl ?_
              refine E_istore_n (L2 := [some (.ref 65), some (.int (nI 15)), some (.int (nI (a + 4))), some (.int (nI 2)), some (.int (nI (a + 4))), some (.int (nI 19))]) rfl rfl ?_
              exact K2
            · have : ([112, 105, 101, 99, 101, 32, 0, 112, 101, 114, 115, 111, 110, 32, 0, 99, 111, 115, 116, 32, 0, 104, 97, 115, 32, 0, 98, 97, 99, 107, 32, 0, 103, 114, 101, 101, 100, 121, 0, 98, 101, 115, 116, 0] : List Nat).length = 44 := rfl
              have q0 : mtc e n [99, 111, 115, 116, 32] (a) = mtc e n [111, 115, 116, 32] (a + 1) + 1 := mtc_t hb0
              have q1 : mtc e n [111, 115, 116, 32] (a + 1) = mtc e n [115, 116, 32] (a + 1 + 1) + 1 := mtc_t hb1
              have q2 : mtc e n [115, 116, 32] (a + 1 + 1) = mtc e n [116, 32] (a + 1 + 1 + 1) + 1 := mtc_t hb2
              have q3 : mtc e n [116, 32] (a + 1 + 1 + 1) = mtc e n [32] (a + 1 + 1 + 1 + 1) + 1 := mtc_t hb3
              have q4 : mtc e n [32] (a + 1 + 1 + 1 + 1) = 0 := mtc_f hb4
              have hm0 : mr2 e n a = 4 := by unfold mr2; omega
              have K2 := K (nI 19)
              rw [hm0] at K2
              rw [show max f0 (a + 4) = f0 from by omega] at K2
              refine mw_s1 (x := a + 0) (pos := 15) (ch := 99) hj hn (by omega) l_ce hce (by decide) rfl (by decide) (by decide) hb0 ?_
              refine mw_s1 (x := a + 1) (pos := 16) (ch := 111) hj hn (by omega) l_ce hce (by decide) rfl (by decide) (by decide) hb1 ?_
              refine mw_s1 (x := a + 2) (pos := 17) (ch := 115) hj hn (by omega) l_ce hce (by decide) rfl (by decide) (by decide) hb2 ?_
              refine mw_s1 (x := a + 3) (pos := 18) (ch := 116) hj hn (by omega) l_ce hce (by decide) rfl (by decide) (by decide) hb3 ?_
              refine mw_s0 (x := a + 4) (pos := 19) (ch := 32) hj hn (by omega) l_ce hce (by decide) rfl (by decide) (by decide) hb4 ?_
              refine E_aload_n rfl rfl ?_
              refine E_getfield (v := .ref 82) rfl w65 rfl (by decide) rfl ?_
              refine E_iload rfl rfl ?_
              refine E_ialN (l := [112, 105, 101, 99, 101, 32, 0, 112, 101, 114, 115, 111, 110, 32, 0, 99, 111, 115, 116, 32, 0, 104, 97, 115, 32, 0, 98, 97, 99, 107, 32, 0, 103, 114, 101, 101, 100, 121, 0, 98, 101, 115, 116, 0]) (v := 32) rfl w82 (by omega) (by omega) rfl ?_
              refine E_if (t := 93) (b := true) rfl rfl (by decide) ?_
              refine E_iload rfl rfl ?_
              refine E_iload_n rfl rfl ?_
              refine E_ic (t := 104) (b := true) rfl rfl ((cn_le (nI_toInt (by omega)) (nI_toInt (by omega))).trans (decide_eq_true (by omega))) ?_
              refine E_iload_n rfl rfl ?_
              refine E_istore_n (L2 := [some (.ref 65), some (.int (nI 15)), some (.int (nI f0)), some (.int (nI 2)), some (.int (nI (a + 4))), some (.int (nI 19))]) rfl rfl ?_
              exact K2
          · have q0 : mtc e n [99, 111, 115, 116, 32] (a) = mtc e n [111, 115, 116, 32] (a + 1) + 1 := mtc_t hb0
            have q1 : mtc e n [111, 115, 116, 32] (a + 1) = mtc e n [115, 116, 32] (a + 1 + 1) + 1 := mtc_t hb1
            have q2 : mtc e n [115, 116, 32] (a + 1 + 1) = mtc e n [116, 32] (a + 1 + 1 + 1) + 1 := mtc_t hb2
            have q3 : mtc e n [116, 32] (a + 1 + 1 + 1) = mtc e n [32] (a + 1 + 1 + 1 + 1) + 1 := mtc_t hb3
            have q4 : mtc e n [32] (a + 1 + 1 + 1 + 1) = mtc e n [] (a + 1 + 1 + 1 + 1 + 1) + 1 := mtc_t hb4
            have q5 : mtc e n [] (a + 1 + 1 + 1 + 1 + 1) = 0 := rfl
            have hm0 : mr2 e n a = 5 := by unfold mr2; omega
            exfalso
            omega
set_option maxHeartbeats 1000000 in
theorem mw_f3 {e : List Int64} {n a j : Nat} {x30 x31 : Int32} {q : ab_q} (hj : j < 8) (hn : n ≤ 160) (ha : a ≤ n) (l_ce : ce.length = 1280) (hce : ∀ p, p < 160 → e.getD p 0 = ce.getD (160 * j + p) 0) {f0 : Nat} {r : Option Value × List ab_C} (hk : mr3 e n a = 4) (K : Ef ab_Z0 0 mX6_word (85, [some (.ref 65), some (.int (nI 21)), some (.int (nI f0)), some (.int (nI 3)), some (.int (nI (a + 4))), some (.int (nI 25))], [], (ww im lf s d k ls rf rz ra rn rq lt m1 m2 m3 m4 bd fc hd sz el q (fUp (fUp (fUp (fUp (fUp (fUp g 27 (nI (160 * j))) 29 (nI n)) 6 (-1)) 28 (nI a)) 30 x30) 31 x31) fm hm so si sh ce ca td wa kp la bf oo bo pw ow tr)) r) : Ef ab_Z0 0 mX6_word (24, [some (.ref 65), some (.int (nI 21)), some (.int (nI f0)), some (.int (nI 3)), some (.int (nI a)), some (.int (nI 21))], [], (ww im lf s d k ls rf rz ra rn rq lt m1 m2 m3 m4 bd fc hd sz el q (fUp (fUp (fUp (fUp (fUp (fUp g 27 (nI (160 * j))) 29 (nI n)) 6 (-1)) 28 (nI a)) 30 x30) 31 x31) fm hm so si sh ce ca td wa kp la bf oo bo pw ow tr)) r := by
  have hx := er_3 hk
  have hb0 := hx.1
  have hb1 := hx.2.1
  have hb2 := hx.2.2.1
  have hb3 := hx.2.2.2
  refine mw_s1 (x := a + 0) (pos := 21) (ch := 104) hj hn (by omega) l_ce hce (by decide) rfl (by decide) (by decide) hb0 ?_
  refine mw_s1 (x := a + 1) (pos := 22) (ch := 97) hj hn (by omega) l_ce hce (by decide) rfl (by decide) (by decide) hb1 ?_
  refine mw_s1 (x := a + 2) (pos := 23) (ch := 115) hj hn (by omega) l_ce hce (by decide) rfl (by decide) (by decide) hb2 ?_
  refine mw_s1 (x := a + 3) (pos := 24) (ch := 32) hj hn (by omega) l_ce hce (by decide) rfl (by decide) (by decide) hb3 ?_
  have : ([112, 105, 101, 99, 101, 32, 0, 112, 101, 114, 115, 111, 110, 32, 0, 99, 111, 115, 116, 32, 0, 104, 97, 115, 32, 0, 98, 97, 99, 107, 32, 0, 103, 114, 101, 101, 100, 121, 0, 98, 101, 115, 116, 0] : List Nat).length = 44 := rfl
  refine E_aload_n rfl rfl ?_
  refine E_getfield (v := .ref 82) rfl w65 rfl (by decide) rfl ?_
  refine E_iload rfl rfl ?_
  refine E_ialN (l := [112, 105, 101, 99, 101, 32, 0, 112, 101, 114, 115, 111, 110, 32, 0, 99, 111, 115, 116, 32, 0, 104, 97, 115, 32, 0, 98, 97, 99, 107, 32, 0, 103, 114, 101, 101, 100, 121, 0, 98, 101, 115, 116, 0]) (v := 0) rfl w82 (by omega) (by omega) rfl ?_
  refine E_if (t := 75) (b := true) rfl rfl (by decide) ?_
  refine E_aload_n rfl rfl ?_
  refine E_getfield (v := .ref 82) rfl w65 rfl (by decide) rfl ?_
  refine E_iload rfl rfl ?_
  refine E_ialN (l := [112, 105, 101, 99, 101, 32, 0, 112, 101, 114, 115, 111, 110, 32, 0, 99, 111, 115, 116, 32, 0, 104, 97, 115, 32, 0, 98, 97, 99, 107, 32, 0, 103, 114, 101, 101, 100, 121, 0, 98, 101, 115, 116, 0]) (v := 0) rfl w82 (by omega) (by omega) rfl ?_
  refine E_if (t := 93) (b := false) rfl rfl (by decide) ?_
  exact K
set_option maxHeartbeats 1000000 in
theorem mw_p3 {e : List Int64} {n a j : Nat} {x30 x31 : Int32} {q : ab_q} (hj : j < 8) (hn : n ≤ 160) (ha : a ≤ n) (l_ce : ce.length = 1280) (hce : ∀ p, p < 160 → e.getD p 0 = ce.getD (160 * j + p) 0) {f0 : Nat} (hf0 : f0 < 1000) {r : Option Value × List ab_C} (hk : ¬ mr3 e n a = 4) (K : ∀ c : Int32, Ef ab_Z0 0 mX6_word (106, [some (.ref 65), some (.int (nI 21)), some (.int (nI (max f0 (a + mr3 e n a)))), some (.int (nI 3)), some (.int (nI (a + mr3 e n a))), some (.int c)], [], (ww im lf s d k ls rf rz ra rn rq lt m1 m2 m3 m4 bd fc hd sz el q (fUp (fUp (fUp (fUp (fUp (fUp g 27 (nI (160 * j))) 29 (nI n)) 6 (-1)) 28 (nI a)) 30 x30) 31 x31) fm hm so si sh ce ca td wa kp la bf oo bo pw ow tr)) r) : Ef ab_Z0 0 mX6_word (24, [some (.ref 65), some (.int (nI 21)), some (.int (nI f0)), some (.int (nI 3)), some (.int (nI a)), some (.int (nI 21))], [], (ww im lf s d k ls rf rz ra rn rq lt m1 m2 m3 m4 bd fc hd sz el q (fUp (fUp (fUp (fUp (fUp (fUp g 27 (nI (160 * j))) 29 (nI n)) 6 (-1)) 28 (nI a)) 30 x30) 31 x31) fm hm so si sh ce ca td wa kp la bf oo bo pw ow tr)) r := by
  rcases bo2 (chB e n (a) 104) with hb0 | hb0
  · by_cases f1 : f0 < a
    · have : ([112, 105, 101, 99, 101, 32, 0, 112, 101, 114, 115, 111, 110, 32, 0, 99, 111, 115, 116, 32, 0, 104, 97, 115, 32, 0, 98, 97, 99, 107, 32, 0, 103, 114, 101, 101, 100, 121, 0, 98, 101, 115, 116, 0] : List Nat).length = 44 := rfl
      have q0 : mtc e n [104, 97, 115, 32] (a) = 0 := mtc_f hb0
      have hm0 : mr3 e n a = 0 := by unfold mr3; omega
      have K2 := K (nI 21)
      rw [hm0] at K2
      rw [show max f0 (a + 0) = a + 0 from by omega] at K2
      refine mw_s0 (x := a + 0) (pos := 21) (ch := 104) hj hn (by omega) l_ce hce (by decide) rfl (by decide) (by decide) hb0 ?_
      refine E_aload_n rfl rfl ?_
      refine E_getfield (v := .ref 82) rfl w65 rfl (by decide) rfl ?_
      refine E_iload rfl rfl ?_
      refine E_ialN (l := [112, 105, 101, 99, 101, 32, 0, 112, 101, 114, 115, 111, 110, 32, 0, 99, 111, 115, 116, 32, 0, 104, 97, 115, 32, 0, 98, 97, 99, 107, 32, 0, 103, 114, 101, 101, 100, 121, 0, 98, 101, 115, 116, 0]) (v := 104) rfl w82 (by omega) (by omega) rfl ?_
      refine E_if (t := 93) (b := true) rfl rfl (by decide) ?_
      refine E_iload rfl rfl ?_
      refine E_iload_n rfl rfl ?_
      refine E_ic (t := 104) (b := false) rfl rfl ((cn_le (nI_toInt (by omega)) (nI_toInt (by omega))).trans (decide_eq_false (by omega))) ?_
      refine E_iload rfl rfl ?_
      refine E_goto (t := 105) rfl rfl ?_
      refine E_istore_n (L2 := [some (.ref 65), some (.int (nI 21)), some (.int (nI (a + 0))), some (.int (nI 3)), some (.int (nI (a + 0))), some (.int (nI 21))]) rfl rfl ?_
      exact K2
    · have : ([112, 105, 101, 99, 101, 32, 0, 112, 101, 114, 115, 111, 110, 32, 0, 99, 111, 115, 116, 32, 0, 104, 97, 115, 32, 0, 98, 97, 99, 107, 32, 0, 103, 114, 101, 101, 100, 121, 0, 98, 101, 115, 116, 0] : List Nat).length = 44 := rfl
      have q0 : mtc e n [104, 97, 115, 32] (a) = 0 := mtc_f hb0
      have hm0 : mr3 e n a = 0 := by unfold mr3; omega
      have K2 := K (nI 21)
      rw [hm0] at K2
      rw [show max f0 (a + 0) = f0 from by omega] at K2
      refine mw_s0 (x := a + 0) (pos := 21) (ch := 104) hj hn (by omega) l_ce hce (by decide) rfl (by decide) (by decide) hb0 ?_
      refine E_aload_n rfl rfl ?_
      refine E_getfield (v := .ref 82) rfl w65 rfl (by decide) rfl ?_
      refine E_iload rfl rfl ?_
      refine E_ialN (l := [112, 105, 101, 99, 101, 32, 0, 112, 101, 114, 115, 111, 110, 32, 0, 99, 111, 115, 116, 32, 0, 104, 97, 115, 32, 0, 98, 97, 99, 107, 32, 0, 103, 114, 101, 101, 100, 121, 0, 98, 101, 115, 116, 0]) (v := 104) rfl w82 (by omega) (by omega) rfl ?_
      refine E_if (t := 93) (b := true) rfl rfl (by decide) ?_
      refine E_iload rfl rfl ?_
      refine E_iload_n rfl rfl ?_
      refine E_ic (t := 104) (b := true) rfl rfl ((cn_le (nI_toInt (by omega)) (nI_toInt (by omega))).trans (decide_eq_true (by omega))) ?_
      refine E_iload_n rfl rfl ?_
      refine E_istore_n (L2 := [some (.ref 65), some (.int (nI 21)), some (.int (nI f0)), some (.int (nI 3)), some (.int (nI (a + 0))), some (.int (nI 21))]) rfl rfl ?_
      exact K2
  · rcases bo2 (chB e n (a + 1) 97) with hb1 | hb1
    · by_cases f2 : f0 < a + 1
      · have : ([112, 105, 101, 99, 101, 32, 0, 112, 101, 114, 115, 111, 110, 32, 0, 99, 111, 115, 116, 32, 0, 104, 97, 115, 32, 0, 98, 97, 99, 107, 32, 0, 103, 114, 101, 101, 100, 121, 0, 98, 101, 115, 116, 0] : List Nat).length = 44 := rfl
        have q0 : mtc e n [104, 97, 115, 32] (a) = mtc e n [97, 115, 32] (a + 1) + 1 := mtc_t hb0
        have q1 : mtc e n [97, 115, 32] (a + 1) = 0 := mtc_f hb1
        have hm0 : mr3 e n a = 1 := by unfold mr3; omega
        have K2 := K (nI 22)
        rw [hm0] at K2
        rw [show max f0 (a + 1) = a + 1 from by omega] at K2
        refine mw_s1 (x := a + 0) (pos := 21) (ch := 104) hj hn (by omega) l_ce hce (by decide) rfl (by decide) (by decide) hb0 ?_
        refine mw_s0 (x := a + 1) (pos := 22) (ch := 97) hj hn (by omega) l_ce hce (by decide) rfl (by decide) (by decide) hb1 ?_
        refine E_aload_n rfl rfl ?_
        refine E_getfield (v := .ref 82) rfl w65 rfl (by decide) rfl ?_
        refine E_iload rfl rfl ?_
        refine E_ialN (l := [112, 105, 101, 99, 101, 32, 0, 112, 101, 114, 115, 111, 110, 32, 0, 99, 111, 115, 116, 32, 0, 104, 97, 115, 32, 0, 98, 97, 99, 107, 32, 0, 103, 114, 101, 101, 100, 121, 0, 98, 101, 115, 116, 0]) (v := 97) rfl w82 (by omega) (by omega) rfl ?_
        refine E_if (t := 93) (b := true) rfl rfl (by decide) ?_
        refine E_iload rfl rfl ?_
        refine E_iload_n rfl rfl ?_
        refine E_ic (t := 104) (b := false) rfl rfl ((cn_le (nI_toInt (by omega)) (nI_toInt (by omega))).trans (decide_eq_false (by omega))) ?_
        refine E_iload rfl rfl ?_
        refine E_goto (t := 105) rfl rfl ?_
        refine E_istore_n (L2 := [some (.ref 65), some (.int (nI 21)), some (.int (nI (a + 1))), some (.int (nI 3)), some (.int (nI (a + 1))), some (.int (nI 22))]) rfl rfl ?_
        exact K2
      · have : ([112, 105, 101, 99, 101, 32, 0, 112, 101, 114, 115, 111, 110, 32, 0, 99, 111, 115, 116, 32, 0, 104, 97, 115, 32, 0, 98, 97, 99, 107, 32, 0, 103, 114, 101, 101, 100, 121, 0, 98, 101, 115, 116, 0] : List Nat).length = 44 := rfl
        have q0 : mtc e n [104, 97, 115, 32] (a) = mtc e n [97, 115, 32] (a + 1) + 1 := mtc_t hb0
        have q1 : mtc e n [97, 115, 32] (a + 1) = 0 := mtc_f hb1
        have hm0 : mr3 e n a = 1 := by unfold mr3; omega
        have K2 := K (nI 22)
        rw [hm0] at K2
        rw [show max f0 (a + 1) = f0 from by omega] at K2
        refine mw_s1 (x := a + 0) (pos := 21) (ch := 104) hj hn (by omega) l_ce hce (by decide) rfl (by decide) (by decide) hb0 ?_
        refine mw_s0 (x := a + 1) (pos := 22) (ch := 97) hj hn (by omega) l_ce hce (by decide) rfl (by decide) (by decide) hb1 ?_
        refine E_aload_n rfl rfl ?_
        refine E_getfield (v := .ref 82) rfl w65 rfl (by decide) rfl ?_
        refine E_iload rfl rfl ?_
        refine E_ialN (l := [112, 105, 101, 99, 101, 32, 0, 112, 101, 114, 115, 111, 110, 32, 0, 99, 111, 115, 116, 32, 0, 104, 97, 115, 32, 0, 98, 97, 99, 107, 32, 0, 103, 114, 101, 101, 100, 121, 0, 98, 101, 115, 116, 0]) (v := 97) rfl w82 (by omega) (by omega) rfl ?_
        refine E_if (t := 93) (b := true) rfl rfl (by decide) ?_
        refine E_iload rfl rfl ?_
        refine E_iload_n rfl rfl ?_
        refine E_ic (t := 104) (b := true) rfl rfl ((cn_le (nI_toInt (by omega)) (nI_toInt (by omega))).trans (decide_eq_true (by omega))) ?_
        refine E_iload_n rfl rfl ?_
        refine E_istore_n (L2 := [some (.ref 65), some (.int (nI 21)), some (.int (nI f0)), some (.int (nI 3)), some (.int (nI (a + 1))), some (.int (nI 22))]) rfl rfl ?_
        exact K2
    · rcases bo2 (chB e n (a + 1 + 1) 115) with hb2 | hb2
      · by_cases f3 : f0 < a + 2
        · have : ([112, 105, 101, 99, 101, 32, 0, 112, 101, 114, 115, 111, 110, 32, 0, 99, 111, 115, 116, 32, 0, 104, 97, 115, 32, 0, 98, 97, 99, 107, 32, 0, 103, 114, 101, 101, 100, 121, 0, 98, 101, 115, 116, 0] : List Nat).length = 44 := rfl
          have q0 : mtc e n [104, 97, 115, 32] (a) = mtc e n [97, 115, 32] (a + 1) + 1 := mtc_t hb0
          have q1 : mtc e n [97, 115, 32] (a + 1) = mtc e n [115, 32] (a + 1 + 1) + 1 := mtc_t hb1
          have q2 : mtc e n [115, 32] (a + 1 + 1) = 0 := mtc_f hb2
          have hm0 : mr3 e n a = 2 := by unfold mr3; omega
          have K2 := K (nI 23)
          rw [hm0] at K2
          rw [show max f0 (a + 2) = a + 2 from by omega] at K2
          refine mw_s1 (x := a + 0) (pos := 21) (ch := 104) hj hn (by omega) l_ce hce (by decide) rfl (by decide) (by decide) hb0 ?_
          refine mw_s1 (x := a + 1) (pos := 22) (ch := 97) hj hn (by omega) l_ce hce (by decide) rfl (by decide) (by decide) hb1 ?_
          refine mw_s0 (x := a + 2) (pos := 23) (ch := 115) hj hn (by omega) l_ce hce (by decide) rfl (by decide) (by decide) hb2 ?_
          refine E_aload_n rfl rfl ?_
          refine E_getfield (v := .ref 82) rfl w65 rfl (by decide) rfl ?_
          refine E_iload rfl rfl ?_
          refine E_ialN (l := [112, 105, 101, 99, 101, 32, 0, 112, 101, 114, 115, 111, 110, 32, 0, 99, 111, 115, 116, 32, 0, 104, 97, 115, 32, 0, 98, 97, 99, 107, 32, 0, 103, 114, 101, 101, 100, 121, 0, 98, 101, 115, 116, 0]) (v := 115) rfl w82 (by omega) (by omega) rfl ?_
          refine E_if (t := 93) (b := true) rfl rfl (by decide) ?_
          refine E_iload rfl rfl ?_
          refine E_iload_n rfl rfl ?_
          refine E_ic (t := 104) (b := false) rfl rfl ((cn_le (nI_toInt (by omega)) (nI_toInt (by omega))).trans (decide_eq_false (by omega))) ?_
          refine E_iload rfl rfl ?_
          refine E_goto (t := 105) rfl rfl ?_
          refine E_istore_n (L2 := [some (.ref 65), some (.int (nI 21)), some (.int (nI (a + 2))), some (.int (nI 3)), some (.int (nI (a + 2))), some (.int (nI 23))]) rfl rfl ?_
          exact K2
        · have : ([112, 105, 101, 99, 101, 32, 0, 112, 101, 114, 115, 111, 110, 32, 0, 99, 111, 115, 116, 32, 0, 104, 97, 115, 32, 0, 98, 97, 99, 107, 32, 0, 103, 114, 101, 101, 100, 121, 0, 98, 101, 115, 116, 0] : List Nat).length = 44 := rfl
          have q0 : mtc e n [104, 97, 115, 32] (a) = mtc e n [97, 115, 32] (a + 1) + 1 := mtc_t hb0
          have q1 : mtc e n [97, 115, 32] (a + 1) = mtc e n [115, 32] (a + 1 + 1) + 1 := mtc_t hb1
          have q2 : mtc e n [115, 32] (a + 1 + 1) = 0 := mtc_f hb2
          have hm0 : mr3 e n a = 2 := by unfold mr3; omega
          have K2 := K (nI 23)
          rw [hm0] at K2
          rw [show max f0 (a + 2) = f0 from by omega] at K2
          refine mw_s1 (x := a + 0) (pos := 21) (ch := 104) hj hn (by omega) l_ce hce (by decide) rfl (by decide) (by decide) hb0 ?_
          refine mw_s1 (x := a + 1) (pos := 22) (ch := 97) hj hn (by omega) l_ce hce (by decide) rfl (by decide) (by decide) hb1 ?_
          refine mw_s0 (x := a + 2) (pos := 23) (ch := 115) hj hn (by omega) l_ce hce (by decide) rfl (by decide) (by decide) hb2 ?_
          refine E_aload_n rfl rfl ?_
          refine E_getfield (v := .ref 82) rfl w65 rfl (by decide) rfl ?_
          refine E_iload rfl rfl ?_
          refine E_ialN (l := [112, 105, 101, 99, 101, 32, 0, 112, 101, 114, 115, 111, 110, 32, 0, 99, 111, 115, 116, 32, 0, 104, 97, 115, 32, 0, 98, 97, 99, 107, 32, 0, 103, 114, 101, 101, 100, 121, 0, 98, 101, 115, 116, 0]) (v := 115) rfl w82 (by omega) (by omega) rfl ?_
          refine E_if (t := 93) (b := true) rfl rfl (by decide) ?_
          refine E_iload rfl rfl ?_
          refine E_iload_n rfl rfl ?_
          refine E_ic (t := 104) (b := true) rfl rfl ((cn_le (nI_toInt (by omega)) (nI_toInt (by omega))).trans (decide_eq_true (by omega))) ?_
          refine E_iload_n rfl rfl ?_
          refine E_istore_n (L2 := [some (.ref 65), some (.int (nI 21)), some (.int (nI f0)), some (.int (nI 3)), some (.int (nI (a + 2))), some (.int (nI 23))]) rfl rfl ?_
          exact K2
      · rcases bo2 (chB e n (a + 1 + 1 + 1) 32) with hb3 | hb3
        · by_cases f4 : f0 < a + 3
          · have : ([112, 105, 101, 99, 101, 32, 0, 112, 101, 114, 115, 111, 110, 32, 0, 99, 111, 115, 116, 32, 0, 104, 97, 115, 32, 0, 98, 97, 99, 107, 32, 0, 103, 114, 101, 101, 100, 121, 0, 98, 101, 115, 116, 0] : List Nat).length = 44 := rfl
            have q0 : mtc e n [104, 97, 115, 32] (a) = mtc e n [97, 115, 32] (a + 1) + 1 := mtc_t hb0
            have q1 : mtc e n [97, 115, 32] (a + 1) = mtc e n [115, 32] (a + 1 + 1) + 1 := mtc_t hb1
            have q2 : mtc e n [115, 32] (a + 1 + 1) = mtc e n [32] (a + 1 + 1 + 1) + 1 := mtc_t hb2
            have q3 : mtc e n [32] (a + 1 + 1 + 1) = 0 := mtc_f hb3
            have hm0 : mr3 e n a = 3 := by unfold mr3; omega
            have K2 := K (nI 24)
            rw [hm0] at K2
            rw [show max f0 (a + 3) = a + 3 from by omega] at K2
            refine mw_s1 (x := a + 0) (pos := 21) (ch := 104) hj hn (by omega) l_ce hce (by decide) rfl (by decide) (by decide) hb0 ?_
            refine mw_s1 (x := a + 1) (pos := 22) (ch := 97) hj hn (by omega) l_ce hce (by decide) rfl (by decide) (by decide) hb1 ?_
            refine mw_s1 (x := a + 2) (pos := 23) (ch := 115) hj hn (by omega) l_ce hce (by decide) rfl (by decide) (by decide) hb2 ?_
            refine mw_s0 (x := a + 3) (pos := 24) (ch := 32) hj hn (by omega) l_ce hce (by decide) rfl (by decide) (by decide) hb3 ?_
            refine E_aload_n rfl rfl ?_
            refine E_getfield (v := .ref 82) rfl w65 rfl (by decide) rfl ?_
            refine E_iload rfl rfl ?_
            refine E_ialN (l := [112, 105, 101, 99, 101, 32, 0, 112, 101, 114, 115, 111, 110, 32, 0, 99, 111, 115, 116, 32, 0, 104, 97, 115, 32, 0, 98, 97, 99, 107, 32, 0, 103, 114, 101, 101, 100, 121, 0, 98, 101, 115, 116, 0]) (v := 32) rfl w82 (by omega) (by omega) rfl ?_
            refine E_if (t := 93) (b := true) rfl rfl (by decide) ?_
            refine E_iload rfl rfl ?_
            refine E_iload_n rfl rfl ?_
            refine E_ic (t := 104) (b := false) rfl rfl ((cn_le (nI_toInt (by omega)) (nI_toInt (by omega))).trans (decide_eq_false (by omega))) ?_
            refine E_iload rfl rfl ?_
            refine E_goto (t := 105) rfl rfl ?_
            refine E_istore_n (L2 := [some (.ref 65), some (.int (nI 21)), some (.int (nI (a + 3))), some (.int (nI 3)), some (.int (nI (a + 3))), some (.int (nI 24))]) rfl rfl ?_
            exact K2
          · have : ([112, 105, 101, 99, 101, 32, 0, 112, 101, 114, 115, 111, 110, 32, 0, 99, 111, 115, 116, 32, 0, 104, 97, 115, 32, 0, 98, 97, 99, 107, 32, 0, 103, 114, 101, 101, 100, 121, 0, 98, 101, 115, 116, 0] : List Nat).length = 44 := rfl
            have q0 : mtc e n [104, 97, 115, 32] (a) = mtc e n [97, 115, 32] (a + 1) + 1 := mtc_t hb0
            have q1 : mtc e n [97, 115, 32] (a + 1) = mtc e n [115, 32] (a + 1 + 1) + 1 := mtc_t hb1
            have q2 : mtc e n [115, 32] (a + 1 + 1) = mtc e n [32] (a + 1 + 1 + 1) + 1 := mtc_t hb2
            have q3 : mtc e n [32] (a + 1 + 1 + 1) = 0 := mtc_f hb3
            have hm0 : mr3 e n a = 3 := by unfold mr3; omega
            have K2 := K (nI 24)
            rw [hm0] at K2
            rw [show max f0 (a + 3) = f0 from by omega] at K2
            refine mw_s1 (x := a + 0) (pos := 21) (ch := 104) hj hn (by omega) l_ce hce (by decide) rfl (by decide) (by decide) hb0 ?_
            refine mw_s1 (x := a + 1) (pos := 22) (ch := 97) hj hn (by omega) l_ce hce (by decide) rfl (by decide) (by decide) hb1 ?_
            refine mw_s1 (x := a + 2) (pos := 23) (ch := 115) hj hn (by omega) l_ce hce (by decide) rfl (by decide) (by decide) hb2 ?_
            refine mw_s0 (x := a + 3) (pos := 24) (ch := 32) hj hn (by omega) l_ce hce (by decide) rfl (by decide) (by decide) hb3 ?_
            refine E_aload_n rfl rfl ?_
            refine E_getfield (v := .ref 82) rfl w65 rfl (by decide) rfl ?_
            refine E_iload rfl rfl ?_
            refine E_ialN (l := [112, 105, 101, 99, 101, 32, 0, 112, 101, 114, 115, 111, 110, 32, 0, 99, 111, 115, 116, 32, 0, 104, 97, 115, 32, 0, 98, 97, 99, 107, 32, 0, 103, 114, 101, 101, 100, 121, 0, 98, 101, 115, 116, 0]) (v := 32) rfl w82 (by omega) (by omega) rfl ?_
            refine E_if (t := 93) (b := true) rfl rfl (by decide) ?_
            refine E_iload rfl rfl ?_
            refine E_iload_n rfl rfl ?_
            refine E_ic (t := 104) (b := true) rfl rfl ((cn_le (nI_toInt (by omega)) (nI_toInt (by omega))).trans (decide_eq_true (by omega))) ?_
            refine E_iload_n rfl rfl ?_
            refine E_istore_n (L2 := [some (.ref 65), some (.int (nI 21)), some (.int (nI f0)), some (.int (nI 3)), some (.int (nI (a + 3))), some (.int (nI 24))]) rfl rfl ?_
            exact K2
        · have q0 : mtc e n [104, 97, 115, 32] (a) = mtc e n [97, 115, 32] (a + 1) + 1 := mtc_t hb0
          have q1 : mtc e n [97, 115, 32] (a + 1) = mtc e n [115, 32] (a + 1 + 1) + 1 := mtc_t hb1
          have q2 : mtc e n [115, 32] (a + 1 + 1) = mtc e n [32] (a + 1 + 1 + 1) + 1 := mtc_t hb2
          have q3 : mtc e n [32] (a + 1 + 1 + 1) = mtc e n [] (a + 1 + 1 + 1 + 1) + 1 := mtc_t hb3
          have q4 : mtc e n [] (a + 1 + 1 + 1 + 1) = 0 := rfl
          have hm0 : mr3 e n a = 4 := by unfold mr3; omega
          exfalso
          omega
set_option maxHeartbeats 1000000 in
theorem mw_f4 {e : List Int64} {n a j : Nat} {x30 x31 : Int32} {q : ab_q} (hj : j < 8) (hn : n ≤ 160) (ha : a ≤ n) (l_ce : ce.length = 1280) (hce : ∀ p, p < 160 → e.getD p 0 = ce.getD (160 * j + p) 0) {f0 : Nat} {r : Option Value × List ab_C} (hk : mr4 e n a = 5) (K : Ef ab_Z0 0 mX6_word (85, [some (.ref 65), some (.int (nI 26)), some (.int (nI f0)), some (.int (nI 4)), some (.int (nI (a + 5))), some (.int (nI 31))], [], (ww im lf s d k ls rf rz ra rn rq lt m1 m2 m3 m4 bd fc hd sz el q (fUp (fUp (fUp (fUp (fUp (fUp g 27 (nI (160 * j))) 29 (nI n)) 6 (-1)) 28 (nI a)) 30 x30) 31 x31) fm hm so si sh ce ca td wa kp la bf oo bo pw ow tr)) r) : Ef ab_Z0 0 mX6_word (24, [some (.ref 65), some (.int (nI 26)), some (.int (nI f0)), some (.int (nI 4)), some (.int (nI a)), some (.int (nI 26))], [], (ww im lf s d k ls rf rz ra rn rq lt m1 m2 m3 m4 bd fc hd sz el q (fUp (fUp (fUp (fUp (fUp (fUp g 27 (nI (160 * j))) 29 (nI n)) 6 (-1)) 28 (nI a)) 30 x30) 31 x31) fm hm so si sh ce ca td wa kp la bf oo bo pw ow tr)) r := by
  have hx := er_4 hk
  have hb0 := hx.1
  have hb1 := hx.2.1
  have hb2 := hx.2.2.1
  have hb3 := hx.2.2.2.1
  have hb4 := hx.2.2.2.2
  refine mw_s1 (x := a + 0) (pos := 26) (ch := 98) hj hn (by omega) l_ce hce (by decide) rfl (by decide) (by decide) hb0 ?_
  refine mw_s1 (x := a + 1) (pos := 27) (ch := 97) hj hn (by omega) l_ce hce (by decide) rfl (by decide) (by decide) hb1 ?_
  refine mw_s1 (x := a + 2) (pos := 28) (ch := 99) hj hn (by omega) l_ce hce (by decide) rfl (by decide) (by decide) hb2 ?_
  refine mw_s1 (x := a + 3) (pos := 29) (ch := 107) hj hn (by omega) l_ce hce (by decide) rfl (by decide) (by decide) hb3 ?_
  refine mw_s1 (x := a + 4) (pos := 30) (ch := 32) hj hn (by omega) l_ce hce (by decide) rfl (by decide) (by decide) hb4 ?_
  have : ([112, 105, 101, 99, 101, 32, 0, 112, 101, 114, 115, 111, 110, 32, 0, 99, 111, 115, 116, 32, 0, 104, 97, 115, 32, 0, 98, 97, 99, 107, 32, 0, 103, 114, 101, 101, 100, 121, 0, 98, 101, 115, 116, 0] : List Nat).length = 44 := rfl
  refine E_aload_n rfl rfl ?_
  refine E_getfield (v := .ref 82) rfl w65 rfl (by decide) rfl ?_
  refine E_iload rfl rfl ?_
  refine E_ialN (l := [112, 105, 101, 99, 101, 32, 0, 112, 101, 114, 115, 111, 110, 32, 0, 99, 111, 115, 116, 32, 0, 104, 97, 115, 32, 0, 98, 97, 99, 107, 32, 0, 103, 114, 101, 101, 100, 121, 0, 98, 101, 115, 116, 0]) (v := 0) rfl w82 (by omega) (by omega) rfl ?_
  refine E_if (t := 75) (b := true) rfl rfl (by decide) ?_
  refine E_aload_n rfl rfl ?_
  refine E_getfield (v := .ref 82) rfl w65 rfl (by decide) rfl ?_
  refine E_iload rfl rfl ?_
  refine E_ialN (l := [112, 105, 101, 99, 101, 32, 0, 112, 101, 114, 115, 111, 110, 32, 0, 99, 111, 115, 116, 32, 0, 104, 97, 115, 32, 0, 98, 97, 99, 107, 32, 0, 103, 114, 101, 101, 100, 121, 0, 98, 101, 115, 116, 0]) (v := 0) rfl w82 (by omega) (by omega) rfl ?_
  refine E_if (t := 93) (b := false) rfl rfl (by decide) ?_
  exact K
set_option maxHeartbeats 1000000 in
theorem mw_p4 {e : List Int64} {n a j : Nat} {x30 x31 : Int32} {q : ab_q} (hj : j < 8) (hn : n ≤ 160) (ha : a ≤ n) (l_ce : ce.length = 1280) (hce : ∀ p, p < 160 → e.getD p 0 = ce.getD (160 * j + p) 0) {f0 : Nat} (hf0 : f0 < 1000) {r : Option Value × List ab_C} (hk : ¬ mr4 e n a = 5) (K : ∀ c : Int32, Ef ab_Z0 0 mX6_word (106, [some (.ref 65), some (.int (nI 26)), some (.int (nI (max f0 (a + mr4 e n a)))), some (.int (nI 4)), some (.int (nI (a + mr4 e n a))), some (.int c)], [], (ww im lf s d k ls rf rz ra rn rq lt m1 m2 m3 m4 bd fc hd sz el q (fUp (fUp (fUp (fUp (fUp (fUp g 27 (nI (160 * j))) 29 (nI n)) 6 (-1)) 28 (nI a)) 30 x30) 31 x31) fm hm so si sh ce ca td wa kp la bf oo bo pw ow tr)) r) : Ef ab_Z0 0 mX6_word (24, [some (.ref 65), some (.int (nI 26)), some (.int (nI f0)), some (.int (nI 4)), some (.int (nI a)), some (.int (nI 26))], [], (ww im lf s d k ls rf rz ra rn rq lt m1 m2 m3 m4 bd fc hd sz el q (fUp (fUp (fUp (fUp (fUp (fUp g 27 (nI (160 * j))) 29 (nI n)) 6 (-1)) 28 (nI a)) 30 x30) 31 x31) fm hm so si sh ce ca td wa kp la bf oo bo pw ow tr)) r := by
  rcases bo2 (chB e n (a) 98) with hb0 | hb0
  · by_cases f1 : f0 < a
    · have : ([112, 105, 101, 99, 101, 32, 0, 112, 101, 114, 115, 111, 110, 32, 0, 99, 111, 115, 116, 32, 0, 104, 97, 115, 32, 0, 98, 97, 99, 107, 32, 0, 103, 114, 101, 101, 100, 121, 0, 98, 101, 115, 116, 0] : List Nat).length = 44 := rfl
      have q0 : mtc e n [98, 97, 99, 107, 32] (a) = 0 := mtc_f hb0
      have hm0 : mr4 e n a = 0 := by unfold mr4; omega
      have K2 := K (nI 26)
      rw [hm0] at K2
      rw [show max f0 (a + 0) = a + 0 from by omega] at K2
      refine mw_s0 (x := a + 0) (pos := 26) (ch := 98) hj hn (by omega) l_ce hce (by decide) rfl (by decide) (by decide) hb0 ?_
      refine E_aload_n rfl rfl ?_
      refine E_getfield (v := .ref 82) rfl w65 rfl (by decide) rfl ?_
      refine E_iload rfl rfl ?_
      refine E_ialN (l := [112, 105, 101, 99, 101, 32, 0, 112, 101, 114, 115, 111, 110, 32, 0, 99, 111, 115, 116, 32, 0, 104, 97, 115, 32, 0, 98, 97, 99, 107, 32, 0, 103, 114, 101, 101, 100, 121, 0, 98, 101, 115, 116, 0]) (v := 98) rfl w82 (by omega) (by omega) rfl ?_
      refine E_if (t := 93) (b := true) rfl rfl (by decide) ?_
      refine E_iload rfl rfl ?_
      refine E_iload_n rfl rfl ?_
      refine E_ic (t := 104) (b := false) rfl rfl ((cn_le (nI_toInt (by omega)) (nI_toInt (by omega))).trans (decide_eq_false (by omega))) ?_
      refine E_iload rfl rfl ?_
      refine E_goto (t := 105) rfl rfl ?_
      refine E_istore_n (L2 := [some (.ref 65), some (.int (nI 26)), some (.int (nI (a + 0))), some (.int (nI 4)), some (.int (nI (a + 0))), some (.int (nI 26))]) rfl rfl ?_
      exact K2
    · have : ([112, 105, 101, 99, 101, 32, 0, 112, 101, 114, 115, 111, 110, 32, 0, 99, 111, 115, 116, 32, 0, 104, 97, 115, 32, 0, 98, 97, 99, 107, 32, 0, 103, 114, 101, 101, 100, 121, 0, 98, 101, 115, 116, 0] : List Nat).length = 44 := rfl
      have q0 : mtc e n [98, 97, 99, 107, 32] (a) = 0 := mtc_f hb0
      have hm0 : mr4 e n a = 0 := by unfold mr4; omega
      have K2 := K (nI 26)
      rw [hm0] at K2
      rw [show max f0 (a + 0) = f0 from by omega] at K2
      refine mw_s0 (x := a + 0) (pos := 26) (ch := 98) hj hn (by omega) l_ce hce (by decide) rfl (by decide) (by decide) hb0 ?_
      refine E_aload_n rfl rfl ?_
      refine E_getfield (v := .ref 82) rfl w65 rfl (by decide) rfl ?_
      refine E_iload rfl rfl ?_
      refine E_ialN (l := [112, 105, 101, 99, 101, 32, 0, 112, 101, 114, 115, 111, 110, 32, 0, 99, 111, 115, 116, 32, 0, 104, 97, 115, 32, 0, 98, 97, 99, 107, 32, 0, 103, 114, 101, 101, 100, 121, 0, 98, 101, 115, 116, 0]) (v := 98) rfl w82 (by omega) (by omega) rfl ?_
      refine E_if (t := 93) (b := true) rfl rfl (by decide) ?_
      refine E_iload rfl rfl ?_
      refine E_iload_n rfl rfl ?_
      refine E_ic (t := 104) (b := true) rfl rfl ((cn_le (nI_toInt (by omega)) (nI_toInt (by omega))).trans (decide_eq_true (by omega))) ?_
      refine E_iload_n rfl rfl ?_
      refine E_istore_n (L2 := [some (.ref 65), some (.int (nI 26)), some (.int (nI f0)), some (.int (nI 4)), some (.int (nI (a + 0))), some (.int (nI 26))]) rfl rfl ?_
      exact K2
  · rcases bo2 (chB e n (a + 1) 97) with hb1 | hb1
    · by_cases f2 : f0 < a + 1
      · have : ([112, 105, 101, 99, 101, 32, 0, 112, 101, 114, 115, 111, 110, 32, 0, 99, 111, 115, 116, 32, 0, 104, 97, 115, 32, 0, 98, 97, 99, 107, 32, 0, 103, 114, 101, 101, 100, 121, 0, 98, 101, 115, 116, 0] : List Nat).length = 44 := rfl
        have q0 : mtc e n [98, 97, 99, 107, 32] (a) = mtc e n [97, 99, 107, 32] (a + 1) + 1 := mtc_t hb0
        have q1 : mtc e n [97, 99, 107, 32] (a + 1) = 0 := mtc_f hb1
        have hm0 : mr4 e n a = 1 := by unfold mr4; omega
        have K2 := K (nI 27)
        rw [hm0] at K2
        rw [show max f0 (a + 1) = a + 1 from by omega] at K2
        refine mw_s1 (x := a + 0) (pos := 26) (ch := 98) hj hn (by omega) l_ce hce (by decide) rfl (by decide) (by decide) hb0 ?_
        refine mw_s0 (x := a + 1) (pos := 27) (ch := 97) hj hn (by omega) l_ce hce (by decide) rfl (by decide) (by decide) hb1 ?_
        refine E_aload_n rfl rfl ?_
        refine E_getfield (v := .ref 82) rfl w65 rfl (by decide) rfl ?_
        refine E_iload rfl rfl ?_
        refine E_ialN (l := [112, 105, 101, 99, 101, 32, 0, 112, 101, 114, 115, 111, 110, 32, 0, 99, 111, 115, 116, 32, 0, 104, 97, 115, 32, 0, 98, 97, 99, 107, 32, 0, 103, 114, 101, 101, 100, 121, 0, 98, 101, 115, 116, 0]) (v := 97) rfl w82 (by omega) (by omega) rfl ?_
        refine E_if (t := 93) (b := true) rfl rfl (by decide) ?_
        refine E_iload rfl rfl ?_
        refine E_iload_n rfl rfl ?_
        refine E_ic (t := 104) (b := false) rfl rfl ((cn_le (nI_toInt (by omega)) (nI_toInt (by omega))).trans (decide_eq_false (by omega))) ?_
        refine E_iload rfl rfl ?_
        refine E_goto (t := 105) rfl rfl ?_
        refine E_istore_n (L2 := [some (.ref 65), some (.int (nI 26)), some (.int (nI (a + 1))), some (.int (nI 4)), some (.int (nI (a + 1))), some (.int (nI 27))]) rfl rfl ?_
        exact K2
      · have : ([112, 105, 101, 99, 101, 32, 0, 112, 101, 114, 115, 111, 110, 32, 0, 99, 111, 115, 116, 32, 0, 104, 97, 115, 32, 0, 98, 97, 99, 107, 32, 0, 103, 114, 101, 101, 100, 121, 0, 98, 101, 115, 116, 0] : List Nat).length = 44 := rfl
        have q0 : mtc e n [98, 97, 99, 107, 32] (a) = mtc e n [97, 99, 107, 32] (a + 1) + 1 := mtc_t hb0
        have q1 : mtc e n [97, 99, 107, 32] (a + 1) = 0 := mtc_f hb1
        have hm0 : mr4 e n a = 1 := by unfold mr4; omega
        have K2 := K (nI 27)
        rw [hm0] at K2
        rw [show max f0 (a + 1) = f0 from by omega] at K2
        refine mw_s1 (x := a + 0) (pos := 26) (ch := 98) hj hn (by omega) l_ce hce (by decide) rfl (by decide) (by decide) hb0 ?_
        refine mw_s0 (x := a + 1) (pos := 27) (ch := 97) hj hn (by omega) l_ce hce (by decide) rfl (by decide) (by decide) hb1 ?_
        refine E_aload_n rfl rfl ?_
        refine E_getfield (v := .ref 82) rfl w65 rfl (by decide) rfl ?_
        refine E_iload rfl rfl ?_
        refine E_ialN (l := [112, 105, 101, 99, 101, 32, 0, 112, 101, 114, 115, 111, 110, 32, 0, 99, 111, 115, 116, 32, 0, 104, 97, 115, 32, 0, 98, 97, 99, 107, 32, 0, 103, 114, 101, 101, 100, 121, 0, 98, 101, 115, 116, 0]) (v := 97) rfl w82 (by omega) (by omega) rfl ?_
        refine E_if (t := 93) (b := true) rfl rfl (by decide) ?_
        refine E_iload rfl rfl ?_
        refine E_iload_n rfl rfl ?_
        refine E_ic (t := 104) (b := true) rfl rfl ((cn_le (nI_toInt (by omega)) (nI_toInt (by omega))).trans (decide_eq_true (by omega))) ?_
        refine E_iload_n rfl rfl ?_
        refine E_istore_n (L2 := [some (.ref 65), some (.int (nI 26)), some (.int (nI f0)), some (.int (nI 4)), some (.int (nI (a + 1))), some (.int (nI 27))]) rfl rfl ?_
        exact K2
    · rcases bo2 (chB e n (a + 1 + 1) 99) with hb2 | hb2
      · by_cases f3 : f0 < a + 2
        · have : ([112, 105, 101, 99, 101, 32, 0, 112, 101, 114, 115, 111, 110, 32, 0, 99, 111, 115, 116, 32, 0, 104, 97, 115, 32, 0, 98, 97, 99, 107, 32, 0, 103, 114, 101, 101, 100, 121, 0, 98, 101, 115, 116, 0] : List Nat).length = 44 := rfl
          have q0 : mtc e n [98, 97, 99, 107, 32] (a) = mtc e n [97, 99, 107, 32] (a + 1) + 1 := mtc_t hb0
          have q1 : mtc e n [97, 99, 107, 32] (a + 1) = mtc e n [99, 107, 32] (a + 1 + 1) + 1 := mtc_t hb1
          have q2 : mtc e n [99, 107, 32] (a + 1 + 1) = 0 := mtc_f hb2
          have hm0 : mr4 e n a = 2 := by unfold mr4; omega
          have K2 := K (nI 28)
          rw [hm0] at K2
          rw [show max f0 (a + 2) = a + 2 from by omega] at K2
          refine mw_s1 (x := a + 0) (pos := 26) (ch := 98) hj hn (by omega) l_ce hce (by decide) rfl (by decide) (by decide) hb0 ?_
          refine mw_s1 (x := a + 1) (pos := 27) (ch := 97) hj hn (by omega) l_ce hce (by decide) rfl (by decide) (by decide) hb1 ?_
          refine mw_s0 (x := a + 2) (pos := 28) (ch := 99) hj hn (by omega) l_ce hce (by decide) rfl (by decide) (by decide) hb2 ?_
          refine E_aload_n rfl rfl ?_
          refine E_getfield (v := .ref 82) rfl w65 rfl (by decide) rfl ?_
          refine E_iload rfl rfl ?_
          refine E_ialN (l := [112, 105, 101, 99, 101, 32, 0, 112, 101, 114, 115, 111, 110, 32, 0, 99, 111, 115, 116, 32, 0, 104, 97, 115, 32, 0, 98, 97, 99, 107, 32, 0, 103, 114, 101, 101, 100, 121, 0, 98, 101, 115, 116, 0]) (v := 99) rfl w82 (by omega) (by omega) rfl ?_
          refine E_if (t := 93) (b := true) rfl rfl (by decide) ?_
          refine E_iload rfl rfl ?_
          refine E_iload_n rfl rfl ?_
          refine E_ic (t := 104) (b := false) rfl rfl ((cn_le (nI_toInt (by omega)) (nI_toInt (by omega))).trans (decide_eq_false (by omega))) ?_
          refine E_iload rfl rfl ?_
          refine E_goto (t := 105) rfl rfl ?_
          refine E_istore_n (L2 := [some (.ref 65), some (.int (nI 26)), some (.int (nI (a + 2))), some (.int (nI 4)), some (.int (nI (a + 2))), some (.int (nI 28))]) rfl rfl ?_
          exact K2
        · have : ([112, 105, 101, 99, 101, 32, 0, 112, 101, 114, 115, 111, 110, 32, 0, 99, 111, 115, 116, 32, 0, 104, 97, 115, 32, 0, 98, 97, 99, 107, 32, 0, 103, 114, 101, 101, 100, 121, 0, 98, 101, 115, 116, 0] : List Nat).length = 44 := rfl
          have q0 : mtc e n [98, 97, 99, 107, 32] (a) = mtc e n [97, 99, 107, 32] (a + 1) + 1 := mtc_t hb0
          have q1 : mtc e n [97, 99, 107, 32] (a + 1) = mtc e n [99, 107, 32] (a + 1 + 1) + 1 := mtc_t hb1
          have q2 : mtc e n [99, 107, 32] (a + 1 + 1) = 0 := mtc_f hb2
          have hm0 : mr4 e n a = 2 := by unfold mr4; omega
          have K2 := K (nI 28)
          rw [hm0] at K2
          rw [show max f0 (a + 2) = f0 from by omega] at K2
          refine mw_s1 (x := a + 0) (pos := 26) (ch := 98) hj hn (by omega) l_ce hce (by decide) rfl (by decide) (by decide) hb0 ?_
          refine mw_s1 (x := a + 1) (pos := 27) (ch := 97) hj hn (by omega) l_ce hce (by decide) rfl (by decide) (by decide) hb1 ?_
          refine mw_s0 (x := a + 2) (pos := 28) (ch := 99) hj hn (by omega) l_ce hce (by decide) rfl (by decide) (by decide) hb2 ?_
          refine E_aload_n rfl rfl ?_
          refine E_getfield (v := .ref 82) rfl w65 rfl (by decide) rfl ?_
          refine E_iload rfl rfl ?_
          refine E_ialN (l := [112, 105, 101, 99, 101, 32, 0, 112, 101, 114, 115, 111, 110, 32, 0, 99, 111, 115, 116, 32, 0, 104, 97, 115, 32, 0, 98, 97, 99, 107, 32, 0, 103, 114, 101, 101, 100, 121, 0, 98, 101, 115, 116, 0]) (v := 99) rfl w82 (by omega) (by omega) rfl ?_
          refine E_if (t := 93) (b := true) rfl rfl (by decide) ?_
          refine E_iload rfl rfl ?_
          refine E_iload_n rfl rfl ?_
          refine E_ic (t := 104) (b := true) rfl rfl ((cn_le (nI_toInt (by omega)) (nI_toInt (by omega))).trans (decide_eq_true (by omega))) ?_
          refine E_iload_n rfl rfl ?_
          refine E_istore_n (L2 := [some (.ref 65), some (.int (nI 26)), some (.int (nI f0)), some (.int (nI 4)), some (.int (nI (a + 2))), some (.int (nI 28))]) rfl rfl ?_
          exact K2
      · rcases bo2 (chB e n (a + 1 + 1 + 1) 107) with hb3 | hb3
        · by_cases f4 : f0 < a + 3
          · have : ([112, 105, 101, 99, 101, 32, 0, 112, 101, 114, 115, 111, 110, 32, 0, 99, 111, 115, 116, 32, 0, 104, 97, 115, 32, 0, 98, 97, 99, 107, 32, 0, 103, 114, 101, 101, 100, 121, 0, 98, 101, 115, 116, 0] : List Nat).length = 44 := rfl
            have q0 : mtc e n [98, 97, 99, 107, 32] (a) = mtc e n [97, 99, 107, 32] (a + 1) + 1 := mtc_t hb0
            have q1 : mtc e n [97, 99, 107, 32] (a + 1) = mtc e n [99, 107, 32] (a + 1 + 1) + 1 := mtc_t hb1
            have q2 : mtc e n [99, 107, 32] (a + 1 + 1) = mtc e n [107, 32] (a + 1 + 1 + 1) + 1 := mtc_t hb2
            have q3 : mtc e n [107, 32] (a + 1 + 1 + 1) = 0 := mtc_f hb3
            have hm0 : mr4 e n a = 3 := by unfold mr4; omega
            have K2 := K (nI 29)
            rw [hm0] at K2
            rw [show max f0 (a + 3) = a + 3 from by omega] at K2
            refine mw_s1 (x := a + 0) (pos := 26) (ch := 98) hj hn (by omega) l_ce hce (by decide) rfl (by decide) (by decide) hb0 ?_
            refine mw_s1 (x := a + 1) (pos := 27) (ch := 97) hj hn (by omega) l_ce hce (by decide) rfl (by decide) (by decide) hb1 ?_
            refine mw_s1 (x := a + 2) (pos := 28) (ch := 99) hj hn (by omega) l_ce hce (by decide) rfl (by decide) (by decide) hb2 ?_
            refine mw_s0 (x := a + 3) (pos := 29) (ch := 107) hj hn (by omega) l_ce hce (by decide) rfl (by decide) (by decide) hb3 ?_
            refine E_aload_n rfl rfl ?_
            refine E_getfield (v := .ref 82) rfl w65 rfl (by decide) rfl ?_
            refine E_iload rfl rfl ?_
            refine E_ialN (l := [112, 105, 101, 99, 101, 32, 0, 112, 101, 114, 115, 111, 110, 32, 0, 99, 111, 115, 116, 32, 0, 104, 97, 115, 32, 0, 98, 97, 99, 107, 32, 0, 103, 114, 101, 101, 100, 121, 0, 98, 101, 115, 116, 0]) (v := 107) rfl w82 (by omega) (by omega) rfl ?_
            refine E_if (t := 93) (b := true) rfl rfl (by decide) ?_
            refine E_iload rfl rfl ?_
            refine E_iload_n rfl rfl ?_
            refine E_ic (t := 104) (b := false) rfl rfl ((cn_le (nI_toInt (by omega)) (nI_toInt (by omega))).trans (decide_eq_false (by omega))) ?_
            refine E_iload rfl rfl ?_
            refine E_goto (t := 105) rfl rfl ?_
            refine E_istore_n (L2 := [some (.ref 65), some (.int (nI 26)), some (.int (nI (a + 3))), some (.int (nI 4)), some (.int (nI (a + 3))), some (.int (nI 29))]) rfl rfl ?_
            exact K2
          · have : ([112, 105, 101, 99, 101, 32, 0, 112, 101, 114, 115, 111, 110, 32, 0, 99, 111, 115, 116, 32, 0, 104, 97, 115, 32, 0, 98, 97, 99, 107, 32, 0, 103, 114, 101, 101, 100, 121, 0, 98, 101, 115, 116, 0] : List Nat).length = 44 := rfl
            have q0 : mtc e n [98, 97, 99, 107, 32] (a) = mtc e n [97, 99, 107, 32] (a + 1) + 1 := mtc_t hb0
            have q1 : mtc e n [97, 99, 107, 32] (a + 1) = mtc e n [99, 107, 32] (a + 1 + 1) + 1 := mtc_t hb1
            have q2 : mtc e n [99, 107, 32] (a + 1 + 1) = mtc e n [107, 32] (a + 1 + 1 + 1) + 1 := mtc_t hb2
            have q3 : mtc e n [107, 32] (a + 1 + 1 + 1) = 0 := mtc_f hb3
            have hm0 : mr4 e n a = 3 := by unfold mr4; omega
            have K2 := K (nI 29)
            rw [hm0] at K2
            rw [show max f0 (a + 3) = f0 from by omega] at K2
            refine mw_s1 (x := a + 0) (pos := 26) (ch := 98) hj hn (by omega) l_ce hce (by decide) rfl (by decide) (by decide) hb0 ?_
            refine mw_s1 (x := a + 1) (pos := 27) (ch := 97) hj hn (by omega) l_ce hce (by decide) rfl (by decide) (by decide) hb1 ?_
            refine mw_s1 (x := a + 2) (pos := 28) (ch := 99) hj hn (by omega) l_ce hce (by decide) rfl (by decide) (by decide) hb2 ?_
            refine mw_s0 (x := a + 3) (pos := 29) (ch := 107) hj hn (by omega) l_ce hce (by decide) rfl (by decide) (by decide) hb3 ?_
            refine E_aload_n rfl rfl ?_
            refine E_getfield (v := .ref 82) rfl w65 rfl (by decide) rfl ?_
            refine E_iload rfl rfl ?_
            refine E_ialN (l := [112, 105, 101, 99, 101, 32, 0, 112, 101, 114, 115, 111, 110, 32, 0, 99, 111, 115, 116, 32, 0, 104, 97, 115, 32, 0, 98, 97, 99, 107, 32, 0, 103, 114, 101, 101, 100, 121, 0, 98, 101, 115, 116, 0]) (v := 107) rfl w82 (by omega) (by omega) rfl ?_
            refine E_if (t := 93) (b := true) rfl rfl (by decide) ?_
            refine E_iload rfl rfl ?_
            refine E_iload_n rfl rfl ?_
            refine E_ic (t := 104) (b := true) rfl rfl ((cn_le (nI_toInt (by omega)) (nI_toInt (by omega))).trans (decide_eq_true (by omega))) ?_
            refine E_iload_n rfl rfl ?_
            refine E_istore_n (L2 := [some (.ref 65), some (.int (nI 26)), some (.int (nI f0)), some (.int (nI 4)), some (.int (nI (a + 3))), some (.int (nI 29))]) rfl rfl ?_
            exact K2
        · rcases bo2 (chB e n (a + 1 + 1 + 1 + 1) 32) with hb4 | hb4
          · by_cases f5 : f0 < a + 4
            · have : ([112, 105, 101, 99, 101, 32, 0, 112, 101, 114, 115, 111, 110, 32, 0, 99, 111, 115, 116, 32, 0, 104, 97, 115, 32, 0, 98, 97, 99, 107, 32, 0, 103, 114, 101, 101, 100, 121, 0, 98, 101, 115, 116, 0] : List Nat).length = 44 := rfl
              have q0 : mtc e n [98, 97, 99, 107, 32] (a) = mtc e n [97, 99, 107, 32] (a + 1) + 1 := mtc_t hb0
              have q1 : mtc e n [97, 99, 107, 32] (a + 1) = mtc e n [99, 107, 32] (a + 1 + 1) + 1 := mtc_t hb1
              have q2 : mtc e n [99, 107, 32] (a + 1 + 1) = mtc e n [107, 32] (a + 1 + 1 + 1) + 1 := mtc_t hb2
              have q3 : mtc e n [107, 32] (a + 1 + 1 + 1) = mtc e n [32] (a + 1 + 1 + 1 + 1) + 1 := mtc_t hb3
              have q4 : mtc e n [32] (a + 1 + 1 + 1 + 1) = 0 := mtc_f hb4
              have hm0 : mr4 e n a = 4 := by unfold mr4; omega
              have K2 := K (nI 30)
              rw [hm0] at K2
              rw [show max f0 (a + 4) = a + 4 from by omega] at K2
              refine mw_s1 (x := a + 0) (pos := 26) (ch := 98) hj hn (by omega) l_ce hce (by decide) rfl (by decide) (by decide) hb0 ?_
              refine mw_s1 (x := a + 1) (pos := 27) (ch := 97) hj hn (by omega) l_ce hce (by decide) rfl (by decide) (by decide) hb1 ?_
              refine mw_s1 (x := a + 2) (pos := 28) (ch := 99) hj hn (by omega) l_ce hce (by decide) rfl (by decide) (by decide) hb2 ?_
              refine mw_s1 (x := a + 3) (pos := 29) (ch := 107) hj hn (by omega) l_ce hce (by decide) rfl (by decide) (by decide) hb3 ?_
              refine mw_s0 (x := a + 4) (pos := 30) (ch := 32) hj hn (by omega) l_ce hce (by decide) rfl (by decide) (by decide) hb4 ?_
              refine E_aload_n rfl rfl ?_
              refine E_getfield (v := .ref 82) rfl w65 rfl (by decide) rfl ?_
              refine E_iload rfl rfl ?_
              refine E_ialN (l := [112, 105, 101, 99, 101, 32, 0, 112, 101, 114, 115, 111, 110, 32, 0, 99, 111, 115, 116, 32, 0, 104, 97, 115, 32, 0, 98, 97, 99, 107, 32, 0, 103, 114, 101, 101, 100, 121, 0, 98, 101, 115, 116, 0]) (v := 32) rfl w82 (by omega) (by omega) rfl ?_
              refine E_if (t := 93) (b := true) rfl rfl (by decide) ?_
              refine E_iload rfl rfl ?_
              refine E_iload_n rfl rfl ?_
              refine E_ic (t := 104) (b := false) rfl rfl ((cn_le (nI_toInt (by omega)) (nI_toInt (by omega))).trans (decide_eq_false (by omega))) ?_
              refine E_iload rfl rfl ?_
              refine E_goto (t := 105) rfl rfl ?_
              refine E_istore_n (L2 := [some (.ref 65), some (.int (nI 26)), some (.int (nI (a + 4))), some (.int (nI 4)), some (.int (nI (a + 4))), some (.int (nI 30))]) rfl rfl ?_
              exact K2
            · have : ([112, 105, 101, 99, 101, 32, 0, 112, 101, 114, 115, 111, 110, 32, 0, 99, 111, 115, 116, 32, 0, 104, 97, 115, 32, 0, 98, 97, 99, 107, 32, 0, 103, 114, 101, 101, 100, 121, 0, 98, 101, 115, 116, 0] : List Nat).length = 44 := rfl
              have q0 : mtc e n [98, 97, 99, 107, 32] (a) = mtc e n [97, 99, 107, 32] (a + 1) + 1 := mtc_t hb0
              have q1 : mtc e n [97, 99, 107, 32] (a + 1) = mtc e n [99, 107, 32] (a + 1 + 1) + 1 := mtc_t hb1
              have q2 : mtc e n [99, 107, 32] (a + 1 + 1) = mtc e n [107, 32] (a + 1 + 1 + 1) + 1 := mtc_t hb2
              have q3 : mtc e n [107, 32] (a + 1 + 1 + 1) = mtc e n [32] (a + 1 + 1 + 1 + 1) + 1 := mtc_t hb3
              have q4 : mtc e n [32] (a + 1 + 1 + 1 + 1) = 0 := mtc_f hb4
              have hm0 : mr4 e n a = 4 := by unfold mr4; omega
              have K2 := K (nI 30)
              rw [hm0] at K2
              rw [show max f0 (a + 4) = f0 from by omega] at K2
              refine mw_s1 (x := a + 0) (pos := 26) (ch := 98) hj hn (by omega) l_ce hce (by decide) rfl (by decide) (by decide) hb0 ?_
              refine mw_s1 (x := a + 1) (pos := 27) (ch := 97) hj hn (by omega) l_ce hce (by decide) rfl (by decide) (by decide) hb1 ?_
              refine mw_s1 (x := a + 2) (pos := 28) (ch := 99) hj hn (by omega) l_ce hce (by decide) rfl (by decide) (by decide) hb2 ?_
              refine mw_s1 (x := a + 3) (pos := 29) (ch := 107) hj hn (by omega) l_ce hce (by decide) rfl (by decide) (by decide) hb3 ?_
              refine mw_s0 (x := a + 4) (pos := 30) (ch := 32) hj hn (by omega) l_ce hce (by decide) rfl (by decide) (by decide) hb4 ?_
              refine E_aload_n rfl rfl ?_
              refine E_getfield (v := .ref 82) rfl w65 rfl (by decide) rfl ?_
              refine E_iload rfl rfl ?_
              refine E_ialN (l := [112, 105, 101, 99, 101, 32, 0, 112, 101, 114, 115, 111, 110, 32, 0, 99, 111, 115, 116, 32, 0, 104, 97, 115, 32, 0, 98, 97, 99, 107, 32, 0, 103, 114, 101, 101, 100, 121, 0, 98, 101, 115, 116, 0]) (v := 32) rfl w82 (by omega) (by omega) rfl ?_
              refine E_if (t := 93) (b := true) rfl rfl (by decide) ?_
              refine E_iload rfl rfl ?_
              refine E_iload_n rfl rfl ?_
              refine E_ic (t := 104) (b := true) rfl rfl ((cn_le (nI_toInt (by omega)) (nI_toInt (by omega))).trans (decide_eq_true (by omega))) ?_
              refine E_iload_n rfl rfl ?_
              refine E_istore_n (L2 := [some (.ref 65), some (.int (nI 26)), some (.int (nI f0)), some (.int (nI 4)), some (.int (nI (a + 4))), some (.int (nI 30))]) rfl rfl ?_
              exact K2
          · have q0 : mtc e n [98, 97, 99, 107, 32] (a) = mtc e n [97, 99, 107, 32] (a + 1) + 1 := mtc_t hb0
            have q1 : mtc e n [97, 99, 107, 32] (a + 1) = mtc e n [99, 107, 32] (a + 1 + 1) + 1 := mtc_t hb1
            have q2 : mtc e n [99, 107, 32] (a + 1 + 1) = mtc e n [107, 32] (a + 1 + 1 + 1) + 1 := mtc_t hb2
            have q3 : mtc e n [107, 32] (a + 1 + 1 + 1) = mtc e n [32] (a + 1 + 1 + 1 + 1) + 1 := mtc_t hb3
            have q4 : mtc e n [32] (a + 1 + 1 + 1 + 1) = mtc e n [] (a + 1 + 1 + 1 + 1 + 1) + 1 := mtc_t hb4
            have q5 : mtc e n [] (a + 1 + 1 + 1 + 1 + 1) = 0 := rfl
            have hm0 : mr4 e n a = 5 := by unfold mr4; omega
            exfalso
            omega
set_option maxHeartbeats 1000000 in
theorem mw_f5 {e : List Int64} {n a j : Nat} {x30 x31 : Int32} {q : ab_q} (hj : j < 8) (hn : n ≤ 160) (ha : a ≤ n) (l_ce : ce.length = 1280) (hce : ∀ p, p < 160 → e.getD p 0 = ce.getD (160 * j + p) 0) {f0 : Nat} {r : Option Value × List ab_C} (hk : mr5 e n a = 6) (K : Ef ab_Z0 0 mX6_word (85, [some (.ref 65), some (.int (nI 32)), some (.int (nI f0)), some (.int (nI 5)), some (.int (nI (a + 6))), some (.int (nI 38))], [], (ww im lf s d k ls rf rz ra rn rq lt m1 m2 m3 m4 bd fc hd sz el q (fUp (fUp (fUp (fUp (fUp (fUp g 27 (nI (160 * j))) 29 (nI n)) 6 (-1)) 28 (nI a)) 30 x30) 31 x31) fm hm so si sh ce ca td wa kp la bf oo bo pw ow tr)) r) : Ef ab_Z0 0 mX6_word (24, [some (.ref 65), some (.int (nI 32)), some (.int (nI f0)), some (.int (nI 5)), some (.int (nI a)), some (.int (nI 32))], [], (ww im lf s d k ls rf rz ra rn rq lt m1 m2 m3 m4 bd fc hd sz el q (fUp (fUp (fUp (fUp (fUp (fUp g 27 (nI (160 * j))) 29 (nI n)) 6 (-1)) 28 (nI a)) 30 x30) 31 x31) fm hm so si sh ce ca td wa kp la bf oo bo pw ow tr)) r := by
  have hx := er_5 hk
  have hb0 := hx.1
  have hb1 := hx.2.1
  have hb2 := hx.2.2.1
  have hb3 := hx.2.2.2.1
  have hb4 := hx.2.2.2.2.1
  have hb5 := hx.2.2.2.2.2
  refine mw_s1 (x := a + 0) (pos := 32) (ch := 103) hj hn (by omega) l_ce hce (by decide) rfl (by decide) (by decide) hb0 ?_
  refine mw_s1 (x := a + 1) (pos := 33) (ch := 114) hj hn (by omega) l_ce hce (by decide) rfl (by decide) (by decide) hb1 ?_
  refine mw_s1 (x := a + 2) (pos := 34) (ch := 101) hj hn (by omega) l_ce hce (by decide) rfl (by decide) (by decide) hb2 ?_
  refine mw_s1 (x := a + 3) (pos := 35) (ch := 101) hj hn (by omega) l_ce hce (by decide) rfl (by decide) (by decide) hb3 ?_
  refine mw_s1 (x := a + 4) (pos := 36) (ch := 100) hj hn (by omega) l_ce hce (by decide) rfl (by decide) (by decide) hb4 ?_
  refine mw_s1 (x := a + 5) (pos := 37) (ch := 121) hj hn (by omega) l_ce hce (by decide) rfl (by decide) (by decide) hb5 ?_
  have : ([112, 105, 101, 99, 101, 32, 0, 112, 101, 114, 115, 111, 110, 32, 0, 99, 111, 115, 116, 32, 0, 104, 97, 115, 32, 0, 98, 97, 99, 107, 32, 0, 103, 114, 101, 101, 100, 121, 0, 98, 101, 115, 116, 0] : List Nat).length = 44 := rfl
  refine E_aload_n rfl rfl ?_
  refine E_getfield (v := .ref 82) rfl w65 rfl (by decide) rfl ?_
  refine E_iload rfl rfl ?_
  refine E_ialN (l := [112, 105, 101, 99, 101, 32, 0, 112, 101, 114, 115, 111, 110, 32, 0, 99, 111, 115, 116, 32, 0, 104, 97, 115, 32, 0, 98, 97, 99, 107, 32, 0, 103, 114, 101, 101, 100, 121, 0, 98, 101, 115, 116, 0]) (v := 0) rfl w82 (by omega) (by omega) rfl ?_
  refine E_if (t := 75) (b := true) rfl rfl (by decide) ?_
  refine E_aload_n rfl rfl ?_
  refine E_getfield (v := .ref 82) rfl w65 rfl (by decide) rfl ?_
  refine E_iload rfl rfl ?_
  refine E_ialN (l := [112, 105, 101, 99, 101, 32, 0, 112, 101, 114, 115, 111, 110, 32, 0, 99, 111, 115, 116, 32, 0, 104, 97, 115, 32, 0, 98, 97, 99, 107, 32, 0, 103, 114, 101, 101, 100, 121, 0, 98, 101, 115, 116, 0]) (v := 0) rfl w82 (by omega) (by omega) rfl ?_
  refine E_if (t := 93) (b := false) rfl rfl (by decide) ?_
  exact K
set_option maxHeartbeats 1000000 in
theorem mw_p5 {e : List Int64} {n a j : Nat} {x30 x31 : Int32} {q : ab_q} (hj : j < 8) (hn : n ≤ 160) (ha : a ≤ n) (l_ce : ce.length = 1280) (hce : ∀ p, p < 160 → e.getD p 0 = ce.getD (160 * j + p) 0) {f0 : Nat} (hf0 : f0 < 1000) {r : Option Value × List ab_C} (hk : ¬ mr5 e n a = 6) (K : ∀ c : Int32, Ef ab_Z0 0 mX6_word (106, [some (.ref 65), some (.int (nI 32)), some (.int (nI (max f0 (a + mr5 e n a)))), some (.int (nI 5)), some (.int (nI (a + mr5 e n a))), some (.int c)], [], (ww im lf s d k ls rf rz ra rn rq lt m1 m2 m3 m4 bd fc hd sz el q (fUp (fUp (fUp (fUp (fUp (fUp g 27 (nI (160 * j))) 29 (nI n)) 6 (-1)) 28 (nI a)) 30 x30) 31 x31) fm hm so si sh ce ca td wa kp la bf oo bo pw ow tr)) r) : Ef ab_Z0 0 mX6_word (24, [some (.ref 65), some (.int (nI 32)), some (.int (nI f0)), some (.int (nI 5)), some (.int (nI a)), some (.int (nI 32))], [], (ww im lf s d k ls rf rz ra rn rq lt m1 m2 m3 m4 bd fc hd sz el q (fUp (fUp (fUp (fUp (fUp (fUp g 27 (nI (160 * j))) 29 (nI n)) 6 (-1)) 28 (nI a)) 30 x30) 31 x31) fm hm so si sh ce ca td wa kp la bf oo bo pw ow tr)) r := by
  rcases bo2 (chB e n (a) 103) with hb0 | hb0
  · by_cases f1 : f0 < a
    · have : ([112, 105, 101, 99, 101, 32, 0, 112, 101, 114, 115, 111, 110, 32, 0, 99, 111, 115, 116, 32, 0, 104, 97, 115, 32, 0, 98, 97, 99, 107, 32, 0, 103, 114, 101, 101, 100, 121, 0, 98, 101, 115, 116, 0] : List Nat).length = 44 := rfl
      have q0 : mtc e n [103, 114, 101, 101, 100, 121] (a) = 0 := mtc_f hb0
      have hm0 : mr5 e n a = 0 := by unfold mr5; omega
      have K2 := K (nI 32)
      rw [hm0] at K2
      rw [show max f0 (a + 0) = a + 0 from by omega] at K2
      refine mw_s0 (x := a + 0) (pos := 32) (ch := 103) hj hn (by omega) l_ce hce (by decide) rfl (by decide) (by decide) hb0 ?_
      refine E_aload_n rfl rfl ?_
      refine E_getfield (v := .ref 82) rfl w65 rfl (by decide) rfl ?_
      refine E_iload rfl rfl ?_
      refine E_ialN (l := [112, 105, 101, 99, 101, 32, 0, 112, 101, 114, 115, 111, 110, 32, 0, 99, 111, 115, 116, 32, 0, 104, 97, 115, 32, 0, 98, 97, 99, 107, 32, 0, 103, 114, 101, 101, 100, 121, 0, 98, 101, 115, 116, 0]) (v := 103) rfl w82 (by omega) (by omega) rfl ?_
      refine E_if (t := 93) (b := true) rfl rfl (by decide) ?_
      refine E_iload rfl rfl ?_
      refine E_iload_n rfl rfl ?_
      refine E_ic (t := 104) (b := false) rfl rfl ((cn_le (nI_toInt (by omega)) (nI_toInt (by omega))).trans (decide_eq_false (by omega))) ?_
      refine E_iload rfl rfl ?_
      refine E_goto (t := 105) rfl rfl ?_
      refine E_istore_n (L2 := [some (.ref 65), some (.int (nI 32)), some (.int (nI (a + 0))), some (.int (nI 5)), some (.int (nI (a + 0))), some (.int (nI 32))]) rfl rfl ?_
      exact K2
    · have : ([112, 105, 101, 99, 101, 32, 0, 112, 101, 114, 115, 111, 110, 32, 0, 99, 111, 115, 116, 32, 0, 104, 97, 115, 32, 0, 98, 97, 99, 107, 32, 0, 103, 114, 101, 101, 100, 121, 0, 98, 101, 115, 116, 0] : List Nat).length = 44 := rfl
      have q0 : mtc e n [103, 114, 101, 101, 100, 121] (a) = 0 := mtc_f hb0
      have hm0 : mr5 e n a = 0 := by unfold mr5; omega
      have K2 := K (nI 32)
      rw [hm0] at K2
      rw [show max f0 (a + 0) = f0 from by omega] at K2
      refine mw_s0 (x := a + 0) (pos := 32) (ch := 103) hj hn (by omega) l_ce hce (by decide) rfl (by decide) (by decide) hb0 ?_
      refine E_aload_n rfl rfl ?_
      refine E_getfield (v := .ref 82) rfl w65 rfl (by decide) rfl ?_
      refine E_iload rfl rfl ?_
      refine E_ialN (l := [112, 105, 101, 99, 101, 32, 0, 112, 101, 114, 115, 111, 110, 32, 0, 99, 111, 115, 116, 32, 0, 104, 97, 115, 32, 0, 98, 97, 99, 107, 32, 0, 103, 114, 101, 101, 100, 121, 0, 98, 101, 115, 116, 0]) (v := 103) rfl w82 (by omega) (by omega) rfl ?_
      refine E_if (t := 93) (b := true) rfl rfl (by decide) ?_
      refine E_iload rfl rfl ?_
      refine E_iload_n rfl rfl ?_
      refine E_ic (t := 104) (b := true) rfl rfl ((cn_le (nI_toInt (by omega)) (nI_toInt (by omega))).trans (decide_eq_true (by omega))) ?_
      refine E_iload_n rfl rfl ?_
      refine E_istore_n (L2 := [some (.ref 65), some (.int (nI 32)), some (.int (nI f0)), some (.int (nI 5)), some (.int (nI (a + 0))), some (.int (nI 32))]) rfl rfl ?_
      exact K2
  · rcases bo2 (chB e n (a + 1) 114) with hb1 | hb1
    · by_cases f2 : f0 < a + 1
      · have : ([112, 105, 101, 99, 101, 32, 0, 112, 101, 114, 115, 111, 110, 32, 0, 99, 111, 115, 116, 32, 0, 104, 97, 115, 32, 0, 98, 97, 99, 107, 32, 0, 103, 114, 101, 101, 100, 121, 0, 98, 101, 115, 116, 0] : List Nat).length = 44 := rfl
        have q0 : mtc e n [103, 114, 101, 101, 100, 121] (a) = mtc e n [114, 101, 101, 100, 121] (a + 1) + 1 := mtc_t hb0
        have q1 : mtc e n [114, 101, 101, 100, 121] (a + 1) = 0 := mtc_f hb1
        have hm0 : mr5 e n a = 1 := by unfold mr5; omega
        have K2 := K (nI 33)
        rw [hm0] at K2
        rw [show max f0 (a + 1) = a + 1 from by omega] at K2
        refine mw_s1 (x := a + 0) (pos := 32) (ch := 103) hj hn (by omega) l_ce hce (by decide) rfl (by decide) (by decide) hb0 ?_
        refine mw_s0 (x := a + 1) (pos := 33) (ch := 114) hj hn (by omega) l_ce hce (by decide) rfl (by decide) (by decide) hb1 ?_
        refine E_aload_n rfl rfl ?_
        refine E_getfield (v := .ref 82) rfl w65 rfl (by decide) rfl ?_
        refine E_iload rfl rfl ?_
        refine E_ialN (l := [112, 105, 101, 99, 101, 32, 0, 112, 101, 114, 115, 111, 110, 32, 0, 99, 111, 115, 116, 32, 0, 104, 97, 115, 32, 0, 98, 97, 99, 107, 32, 0, 103, 114, 101, 101, 100, 121, 0, 98, 101, 115, 116, 0]) (v := 114) rfl w82 (by omega) (by omega) rfl ?_
        refine E_if (t := 93) (b := true) rfl rfl (by decide) ?_
        refine E_iload rfl rfl ?_
        refine E_iload_n rfl rfl ?_
        refine E_ic (t := 104) (b := false) rfl rfl ((cn_le (nI_toInt (by omega)) (nI_toInt (by omega))).trans (decide_eq_false (by omega))) ?_
        refine E_iload rfl rfl ?_
        refine E_goto (t := 105) rfl rfl ?_
        refine E_istore_n (L2 := [some (.ref 65), some (.int (nI 32)), some (.int (nI (a + 1))), some (.int (nI 5)), some (.int (nI (a + 1))), some (.int (nI 33))]) rfl rfl ?_
        exact K2
      · have : ([112, 105, 101, 99, 101, 32, 0, 112, 101, 114, 115, 111, 110, 32, 0, 99, 111, 115, 116, 32, 0, 104, 97, 115, 32, 0, 98, 97, 99, 107, 32, 0, 103, 114, 101, 101, 100, 121, 0, 98, 101, 115, 116, 0] : List Nat).length = 44 := rfl
        have q0 : mtc e n [103, 114, 101, 101, 100, 121] (a) = mtc e n [114, 101, 101, 100, 121] (a + 1) + 1 := mtc_t hb0
        have q1 : mtc e n [114, 101, 101, 100, 121] (a + 1) = 0 := mtc_f hb1
        have hm0 : mr5 e n a = 1 := by unfold mr5; omega
        have K2 := K (nI 33)
        rw [hm0] at K2
        rw [show max f0 (a + 1) = f0 from by omega] at K2
        refine mw_s1 (x := a + 0) (pos := 32) (ch := 103) hj hn (by omega) l_ce hce (by decide) rfl (by decide) (by decide) hb0 ?_
        refine mw_s0 (x := a + 1) (pos := 33) (ch := 114) hj hn (by omega) l_ce hce (by decide) rfl (by decide) (by decide) hb1 ?_
        refine E_aload_n rfl rfl ?_
        refine E_getfield (v := .ref 82) rfl w65 rfl (by decide) rfl ?_
        refine E_iload rfl rfl ?_
        refine E_ialN (l := [112, 105, 101, 99, 101, 32, 0, 112, 101, 114, 115, 111, 110, 32, 0, 99, 111, 115, 116, 32, 0, 104, 97, 115, 32, 0, 98, 97, 99, 107, 32, 0, 103, 114, 101, 101, 100, 121, 0, 98, 101, 115, 116, 0]) (v := 114) rfl w82 (by omega) (by omega) rfl ?_
        refine E_if (t := 93) (b := true) rfl rfl (by decide) ?_
        refine E_iload rfl rfl ?_
        refine E_iload_n rfl rfl ?_
        refine E_ic (t := 104) (b := true) rfl rfl ((cn_le (nI_toInt (by omega)) (nI_toInt (by omega))).trans (decide_eq_true (by omega))) ?_
        refine E_iload_n rfl rfl ?_
        refine E_istore_n (L2 := [some (.ref 65), some (.int (nI 32)), some (.int (nI f0)), some (.int (nI 5)), some (.int (nI (a + 1))), some (.int (nI 33))]) rfl rfl ?_
        exact K2
    · rcases bo2 (chB e n (a + 1 + 1) 101) with hb2 | hb2
      · by_cases f3 : f0 < a + 2
        · have : ([112, 105, 101, 99, 101, 32, 0, 112, 101, 114, 115, 111, 110, 32, 0, 99, 111, 115, 116, 32, 0, 104, 97, 115, 32, 0, 98, 97, 99, 107, 32, 0, 103, 114, 101, 101, 100, 121, 0, 98, 101, 115, 116, 0] : List Nat).length = 44 := rfl
          have q0 : mtc e n [103, 114, 101, 101, 100, 121] (a) = mtc e n [114, 101, 101, 100, 121] (a + 1) + 1 := mtc_t hb0
          have q1 : mtc e n [114, 101, 101, 100, 121] (a + 1) = mtc e n [101, 101, 100, 121] (a + 1 + 1) + 1 := mtc_t hb1
          have q2 : mtc e n [101, 101, 100, 121] (a + 1 + 1) = 0 := mtc_f hb2
          have hm0 : mr5 e n a = 2 := by unfold mr5; omega
          have K2 := K (nI 34)
          rw [hm0] at K2
          rw [show max f0 (a + 2) = a + 2 from by omega] at K2
          refine mw_s1 (x := a + 0) (pos := 32) (ch := 103) hj hn (by omega) l_ce hce (by decide) rfl (by decide) (by decide) hb0 ?_
          refine mw_s1 (x := a + 1) (pos := 33) (ch := 114) hj hn (by omega) l_ce hce (by decide) rfl (by decide) (by decide) hb1 ?_
          refine mw_s0 (x := a + 2) (pos := 34) (ch := 101) hj hn (by omega) l_ce hce (by decide) rfl (by decide) (by decide) hb2 ?_
          refine E_aload_n rfl rfl ?_
          refine E_getfield (v := .ref 82) rfl w65 rfl (by decide) rfl ?_
          refine E_iload rfl rfl ?_
          refine E_ialN (l := [112, 105, 101, 99, 101, 32, 0, 112, 101, 114, 115, 111, 110, 32, 0, 99, 111, 115, 116, 32, 0, 104, 97, 115, 32, 0, 98, 97, 99, 107, 32, 0, 103, 114, 101, 101, 100, 121, 0, 98, 101, 115, 116, 0]) (v := 101) rfl w82 (by omega) (by omega) rfl ?_
          refine E_if (t := 93) (b := true) rfl rfl (by decide) ?_
          refine E_iload rfl rfl ?_
          refine E_iload_n rfl rfl ?_
          refine E_ic (t := 104) (b := false) rfl rfl ((cn_le (nI_toInt (by omega)) (nI_toInt (by omega))).trans (decide_eq_false (by omega))) ?_
          refine E_iload rfl rfl ?_
          refine E_goto (t := 105) rfl rfl ?_
          refine E_istore_n (L2 := [some (.ref 65), some (.int (nI 32)), some (.int (nI (a + 2))), some (.int (nI 5)), some (.int (nI (a + 2))), some (.int (nI 34))]) rfl rfl ?_
          exact K2
        · have : ([112, 105, 101, 99, 101, 32, 0, 112, 101, 114, 115, 111, 110, 32, 0, 99, 111, 115, 116, 32, 0, 104, 97, 115, 32, 0, 98, 97, 99, 107, 32, 0, 103, 114, 101, 101, 100, 121, 0, 98, 101, 115, 116, 0] : List Nat).length = 44 := rfl
          have q0 : mtc e n [103, 114, 101, 101, 100, 121] (a) = mtc e n [114, 101, 101, 100, 121] (a + 1) + 1 := mtc_t hb0
          have q1 : mtc e n [114, 101, 101, 100, 121] (a + 1) = mtc e n [101, 101, 100, 121] (a + 1 + 1) + 1 := mtc_t hb1
          have q2 : mtc e n [101, 101, 100, 121] (a + 1 + 1) = 0 := mtc_f hb2
          have hm0 : mr5 e n a = 2 := by unfold mr5; omega
          have K2 := K (nI 34)
          rw [hm0] at K2
          rw [show max f0 (a + 2) = f0 from by omega] at K2
          refine mw_s1 (x := a + 0) (pos := 32) (ch := 103) hj hn (by omega) l_ce hce (by decide) rfl (by decide) (by decide) hb0 ?_
          refine mw_s1 (x := a + 1) (pos := 33) (ch := 114) hj hn (by omega) l_ce hce (by decide) rfl (by decide) (by decide) hb1 ?_
          refine mw_s0 (x := a + 2) (pos := 34) (ch := 101) hj hn (by omega) l_ce hce (by decide) rfl (by decide) (by decide) hb2 ?_
          refine E_aload_n rfl rfl ?_
          refine E_getfield (v := .ref 82) rfl w65 rfl (by decide) rfl ?_
          refine E_iload rfl rfl ?_
          refine E_ialN (l := [112, 105, 101, 99, 101, 32, 0, 112, 101, 114, 115, 111, 110, 32, 0, 99, 111, 115, 116, 32, 0, 104, 97, 115, 32, 0, 98, 97, 99, 107, 32, 0, 103, 114, 101, 101, 100, 121, 0, 98, 101, 115, 116, 0]) (v := 101) rfl w82 (by omega) (by omega) rfl ?_
          refine E_if (t := 93) (b := true) rfl rfl (by decide) ?_
          refine E_iload rfl rfl ?_
          refine E_iload_n rfl rfl ?_
          refine E_ic (t := 104) (b := true) rfl rfl ((cn_le (nI_toInt (by omega)) (nI_toInt (by omega))).trans (decide_eq_true (by omega))) ?_
          refine E_iload_n rfl rfl ?_
          refine E_istore_n (L2 := [some (.ref 65), some (.int (nI 32)), some (.int (nI f0)), some (.int (nI 5)), some (.int (nI (a + 2))), some (.int (nI 34))]) rfl rfl ?_
          exact K2
      · rcases bo2 (chB e n (a + 1 + 1 + 1) 101) with hb3 | hb3
        · by_cases f4 : f0 < a + 3
          · have : ([112, 105, 101, 99, 101, 32, 0, 112, 101, 114, 115, 111, 110, 32, 0, 99, 111, 115, 116, 32, 0, 104, 97, 115, 32, 0, 98, 97, 99, 107, 32, 0, 103, 114, 101, 101, 100, 121, 0, 98, 101, 115, 116, 0] : List Nat).length = 44 := rfl
            have q0 : mtc e n [103, 114, 101, 101, 100, 121] (a) = mtc e n [114, 101, 101, 100, 121] (a + 1) + 1 := mtc_t hb0
            have q1 : mtc e n [114, 101, 101, 100, 121] (a + 1) = mtc e n [101, 101, 100, 121] (a + 1 + 1) + 1 := mtc_t hb1
            have q2 : mtc e n [101, 101, 100, 121] (a + 1 + 1) = mtc e n [101, 100, 121] (a + 1 + 1 + 1) + 1 := mtc_t hb2
            have q3 : mtc e n [101, 100, 121] (a + 1 + 1 + 1) = 0 := mtc_f hb3
            have hm0 : mr5 e n a = 3 := by unfold mr5; omega
            have K2 := K (nI 35)
            rw [hm0] at K2
            rw [show max f0 (a + 3) = a + 3 from by omega] at K2
            refine mw_s1 (x := a + 0) (pos := 32) (ch := 103) hj hn (by omega) l_ce hce (by decide) rfl (by decide) (by decide) hb0 ?_
            refine mw_s1 (x := a + 1) (pos := 33) (ch := 114) hj hn (by omega) l_ce hce (by decide) rfl (by decide) (by decide) hb1 ?_
            refine mw_s1 (x := a + 2) (pos := 34) (ch := 101) hj hn (by omega) l_ce hce (by decide) rfl (by decide) (by decide) hb2 ?_
            refine mw_s0 (x := a + 3) (pos := 35) (ch := 101) hj hn (by omega) l_ce hce (by decide) rfl (by decide) (by decide) hb3 ?_
            refine E_aload_n rfl rfl ?_
            refine E_getfield (v := .ref 82) rfl w65 rfl (by decide) rfl ?_
            refine E_iload rfl rfl ?_
            refine E_ialN (l := [112, 105, 101, 99, 101, 32, 0, 112, 101, 114, 115, 111, 110, 32, 0, 99, 111, 115, 116, 32, 0, 104, 97, 115, 32, 0, 98, 97, 99, 107, 32, 0, 103, 114, 101, 101, 100, 121, 0, 98, 101, 115, 116, 0]) (v := 101) rfl w82 (by omega) (by omega) rfl ?_
            refine E_if (t := 93) (b := true) rfl rfl (by decide) ?_
            refine E_iload rfl rfl ?_
            refine E_iload_n rfl rfl ?_
            refine E_ic (t := 104) (b := false) rfl rfl ((cn_le (nI_toInt (by omega)) (nI_toInt (by omega))).trans (decide_eq_false (by omega))) ?_
            refine E_iload rfl rfl ?_
            refine E_goto (t := 105) rfl rfl ?_
            refine E_istore_n (L2 := [some (.ref 65), some (.int (nI 32)), some (.int (nI (a + 3))), some (.int (nI 5)), some (.int (nI (a + 3))), some (.int (nI 35))]) rfl rfl ?_
            exact K2
          · have : ([112, 105, 101, 99, 101, 32, 0, 112, 101, 114, 115, 111, 110, 32, 0, 99, 111, 115, 116, 32, 0, 104, 97, 115, 32, 0, 98, 97, 99, 107, 32, 0, 103, 114, 101, 101, 100, 121, 0, 98, 101, 115, 116, 0] : List Nat).length = 44 := rfl
            have q0 : mtc e n [103, 114, 101, 101, 100, 121] (a) = mtc e n [114, 101, 101, 100, 121] (a + 1) + 1 := mtc_t hb0
            have q1 : mtc e n [114, 101, 101, 100, 121] (a + 1) = mtc e n [101, 101, 100, 121] (a + 1 + 1) + 1 := mtc_t hb1
            have q2 : mtc e n [101, 101, 100, 121] (a + 1 + 1) = mtc e n [101, 100, 121] (a + 1 + 1 + 1) + 1 := mtc_t hb2
            have q3 : mtc e n [101, 100, 121] (a + 1 + 1 + 1) = 0 := mtc_f hb3
            have hm0 : mr5 e n a = 3 := by unfold mr5; omega
            have K2 := K (nI 35)
            rw [hm0] at K2
            rw [show max f0 (a + 3) = f0 from by omega] at K2
            refine mw_s1 (x := a + 0) (pos := 32) (ch := 103) hj hn (by omega) l_ce hce (by decide) rfl (by decide) (by decide) hb0 ?_
            refine mw_s1 (x := a + 1) (pos := 33) (ch := 114) hj hn (by omega) l_ce hce (by decide) rfl (by decide) (by decide) hb1 ?_
            refine mw_s1 (x := a + 2) (pos := 34) (ch := 101) hj hn (by omega) l_ce hce (by decide) rfl (by decide) (by decide) hb2 ?_
            refine mw_s0 (x := a + 3) (pos := 35) (ch := 101) hj hn (by omega) l_ce hce (by decide) rfl (by decide) (by decide) hb3 ?_
            refine E_aload_n rfl rfl ?_
            refine E_getfield (v := .ref 82) rfl w65 rfl (by decide) rfl ?_
            refine E_iload rfl rfl ?_
            refine E_ialN (l := [112, 105, 101, 99, 101, 32, 0, 112, 101, 114, 115, 111, 110, 32, 0, 99, 111, 115, 116, 32, 0, 104, 97, 115, 32, 0, 98, 97, 99, 107, 32, 0, 103, 114, 101, 101, 100, 121, 0, 98, 101, 115, 116, 0]) (v := 101) rfl w82 (by omega) (by omega) rfl ?_
            refine E_if (t := 93) (b := true) rfl rfl (by decide) ?_
            refine E_iload rfl rfl ?_
            refine E_iload_n rfl rfl ?_
            refine E_ic (t := 104) (b := true) rfl rfl ((cn_le (nI_toInt (by omega)) (nI_toInt (by omega))).trans (decide_eq_true (by omega))) ?_
            refine E_iload_n rfl rfl ?_
            refine E_istore_n (L2 := [some (.ref 65), some (.int (nI 32)), some (.int (nI f0)), some (.int (nI 5)), some (.int (nI (a + 3))), some (.int (nI 35))]) rfl rfl ?_
            exact K2
        · rcases bo2 (chB e n (a + 1 + 1 + 1 + 1) 100) with hb4 | hb4
          · by_cases f5 : f0 < a + 4
            · have : ([112, 105, 101, 99, 101, 32, 0, 112, 101, 114, 115, 111, 110, 32, 0, 99, 111, 115, 116, 32, 0, 104, 97, 115, 32, 0, 98, 97, 99, 107, 32, 0, 103, 114, 101, 101, 100, 121, 0, 98, 101, 115, 116, 0] : List Nat).length = 44 := rfl
              have q0 : mtc e n [103, 114, 101, 101, 100, 121] (a) = mtc e n [114, 101, 101, 100, 121] (a + 1) + 1 := mtc_t hb0
              have q1 : mtc e n [114, 101, 101, 100, 121] (a + 1) = mtc e n [101, 101, 100, 121] (a + 1 + 1) + 1 := mtc_t hb1
              have q2 : mtc e n [101, 101, 100, 121] (a + 1 + 1) = mtc e n [101, 100, 121] (a + 1 + 1 + 1) + 1 := mtc_t hb2
              have q3 : mtc e n [101, 100, 121] (a + 1 + 1 + 1) = mtc e n [100, 121] (a + 1 + 1 + 1 + 1) + 1 := mtc_t hb3
              have q4 : mtc e n [100, 121] (a + 1 + 1 + 1 + 1) = 0 := mtc_f hb4
              have hm0 : mr5 e n a = 4 := by unfold mr5; omega
              have K2 := K (nI 36)
              rw [hm0] at K2
              rw [show max f0 (a + 4) = a + 4 from by omega] at K2
              refine mw_s1 (x := a + 0) (pos := 32) (ch := 103) hj hn (by omega) l_ce hce (by decide) rfl (by decide) (by decide) hb0 ?_
              refine mw_s1 (x := a + 1) (pos := 33) (ch := 114) hj hn (by omega) l_ce hce (by decide) rfl (by decide) (by decide) hb1 ?_
              refine mw_s1 (x := a + 2) (pos := 34) (ch := 101) hj hn (by omega) l_ce hce (by decide) rfl (by decide) (by decide) hb2 ?_
              refine mw_s1 (x := a + 3) (pos := 35) (ch := 101) hj hn (by omega) l_ce hce (by decide) rfl (by decide) (by decide) hb3 ?_
              refine mw_s0 (x := a + 4) (pos := 36) (ch := 100) hj hn (by omega) l_ce hce (by decide) rfl (by decide) (by decide) hb4 ?_
              refine E_aload_n rfl rfl ?_
              refine E_getfield (v := .ref 82) rfl w65 rfl (by decide) rfl ?_
              refine E_iload rfl rfl ?_
              refine E_ialN (l := [112, 105, 101, 99, 101, 32, 0, 112, 101, 114, 115, 111, 110, 32, 0, 99, 111, 115, 116, 32, 0, 104, 97, 115, 32, 0, 98, 97, 99, 107, 32, 0, 103, 114, 101, 101, 100, 121, 0, 98, 101, 115, 116, 0]) (v := 100) rfl w82 (by omega) (by omega) rfl ?_
              refine E_if (t := 93) (b := true) rfl rfl (by decide) ?_
              refine E_iload rfl rfl ?_
              refine E_iload_n rfl rfl ?_
              refine E_ic (t := 104) (b := false) rfl rfl ((cn_le (nI_toInt (by omega)) (nI_toInt (by omega))).trans (decide_eq_false (by omega))) ?_
              refine E_iload rfl rfl ?_
              refine E_goto (t := 105) rfl rfl ?_
              refine E_istore_n (L2 := [some (.ref 65), some (.int (nI 32)), some (.int (nI (a + 4))), some (.int (nI 5)), some (.int (nI (a + 4))), some (.int (nI 36))]) rfl rfl ?_
              exact K2
            · have : ([112, 105, 101, 99, 101, 32, 0, 112, 101, 114, 115, 111, 110, 32, 0, 99, 111, 115, 116, 32, 0, 104, 97, 115, 32, 0, 98, 97, 99, 107, 32, 0, 103, 114, 101, 101, 100, 121, 0, 98, 101, 115, 116, 0] : List Nat).length = 44 := rfl
              have q0 : mtc e n [103, 114, 101, 101, 100, 121] (a) = mtc e n [114, 101, 101, 100, 121] (a + 1) + 1 := mtc_t hb0
              have q1 : mtc e n [114, 101, 101, 100, 121] (a + 1) = mtc e n [101, 101, 100, 121] (a + 1 + 1) + 1 := mtc_t hb1
              have q2 : mtc e n [101, 101, 100, 121] (a + 1 + 1) = mtc e n [101, 100, 121] (a + 1 + 1 + 1) + 1 := mtc_t hb2
              have q3 : mtc e n [101, 100, 121] (a + 1 + 1 + 1) = mtc e n [100, 121] (a + 1 + 1 + 1 + 1) + 1 := mtc_t hb3
              have q4 : mtc e n [100, 121] (a + 1 + 1 + 1 + 1) = 0 := mtc_f hb4
              have hm0 : mr5 e n a = 4 := by unfold mr5; omega
              have K2 := K (nI 36)
              rw [hm0] at K2
              rw [show max f0 (a + 4) = f0 from by omega] at K2
              refine mw_s1 (x := a + 0) (pos := 32) (ch := 103) hj hn (by omega) l_ce hce (by decide) rfl (by decide) (by decide) hb0 ?_
              refine mw_s1 (x := a + 1) (pos := 33) (ch := 114) hj hn (by omega) l_ce hce (by decide) rfl (by decide) (by decide) hb1 ?_
              refine mw_s1 (x := a + 2) (pos := 34) (ch := 101) hj hn (by omega) l_ce hce (by decide) rfl (by decide) (by decide) hb2 ?_
              refine mw_s1 (x := a + 3) (pos := 35) (ch := 101) hj hn (by omega) l_ce hce (by decide) rfl (by decide) (by decide) hb3 ?_
              refine mw_s0 (x := a + 4) (pos := 36) (ch := 100) hj hn (by omega) l_ce hce (by decide) rfl (by decide) (by decide) hb4 ?_
              refine E_aload_n rfl rfl ?_
              refine E_getfield (v := .ref 82) rfl w65 rfl (by decide) rfl ?_
              refine E_iload rfl rfl ?_
              refine E_ialN (l := [112, 105, 101, 99, 101, 32, 0, 112, 101, 114, 115, 111, 110, 32, 0, 99, 111, 115, 116, 32, 0, 104, 97, 115, 32, 0, 98, 97, 99, 107, 32, 0, 103, 114, 101, 101, 100, 121, 0, 98, 101, 115, 116, 0]) (v := 100) rfl w82 (by omega) (by omega) rfl ?_
              refine E_if (t := 93) (b := true) rfl rfl (by decide) ?_
              refine E_iload rfl rfl ?_
              refine E_iload_n rfl rfl ?_
              refine E_ic (t := 104) (b := true) rfl rfl ((cn_le (nI_toInt (by omega)) (nI_toInt (by omega))).trans (decide_eq_true (by omega))) ?_
              refine E_iload_n rfl rfl ?_
              refine E_istore_n (L2 := [some (.ref 65), some (.int (nI 32)), some (.int (nI f0)), some (.int (nI 5)), some (.int (nI (a + 4))), some (.int (nI 36))]) rfl rfl ?_
              exact K2
          · rcases bo2 (chB e n (a + 1 + 1 + 1 + 1 + 1) 121) with hb5 | hb5
            · by_cases f6 : f0 < a + 5
              · have : ([112, 105, 101, 99, 101, 32, 0, 112, 101, 114, 115, 111, 110, 32, 0, 99, 111, 115, 116, 32, 0, 104, 97, 115, 32, 0, 98, 97, 99, 107, 32, 0, 103, 114, 101, 101, 100, 121, 0, 98, 101, 115, 116, 0] : List Nat).length = 44 := rfl
                have q0 : mtc e n [103, 114, 101, 101, 100, 121] (a) = mtc e n [114, 101, 101, 100, 121] (a + 1) + 1 := mtc_t hb0
                have q1 : mtc e n [114, 101, 101, 100, 121] (a + 1) = mtc e n [101, 101, 100, 121] (a + 1 + 1) + 1 := mtc_t hb1
                have q2 : mtc e n [101, 101, 100, 121] (a + 1 + 1) = mtc e n [101, 100, 121] (a + 1 + 1 + 1) + 1 := mtc_t hb2
                have q3 : mtc e n [101, 100, 121] (a + 1 + 1 + 1) = mtc e n [100, 121] (a + 1 + 1 + 1 + 1) + 1 := mtc_t hb3
                have q4 : mtc e n [100, 121] (a + 1 + 1 + 1 + 1) = mtc e n [121] (a + 1 + 1 + 1 + 1 + 1) + 1 := mtc_t hb4
                have q5 : mtc e n [121] (a + 1 + 1 + 1 + 1 + 1) = 0 := mtc_f hb5
                have hm0 : mr5 e n a = 5 := by unfold mr5; omega
                have K2 := K (nI 37)
                rw [hm0] at K2
                rw [show max f0 (a + 5) = a + 5 from by omega] at K2
                refine mw_s1 (x := a + 0) (pos := 32) (ch := 103) hj hn (by omega) l_ce hce (by decide) rfl (by decide) (by decide) hb0 ?_
                refine mw_s1 (x := a + 1) (pos := 33) (ch := 114) hj hn (by omega) l_ce hce (by decide) rfl (by decide) (by decide) hb1 ?_
                refine mw_s1 (x := a + 2) (pos := 34) (ch := 101) hj hn (by omega) l_ce hce (by decide) rfl (by decide) (by decide) hb2 ?_
                refine mw_s1 (x := a + 3) (pos := 35) (ch := 101) hj hn (by omega) l_ce hce (by decide) rfl (by decide) (by decide) hb3 ?_
                refine mw_s1 (x := a + 4) (pos := 36) (ch := 100) hj hn (by omega) l_ce hce (by decide) rfl (by decide) (by decide) hb4 ?_
                refine mw_s0 (x := a + 5) (pos := 37) (ch := 121) hj hn (by omega) l_ce hce (by decide) rfl (by decide) (by decide) hb5 ?_
                refine E_aload_n rfl rfl ?_
                refine E_getfield (v := .ref 82) rfl w65 rfl (by decide) rfl ?_
                refine E_iload rfl rfl ?_
                refine E_ialN (l := [112, 105, 101, 99, 101, 32, 0, 112, 101, 114, 115, 111, 110, 32, 0, 99, 111, 115, 116, 32, 0, 104, 97, 115, 32, 0, 98, 97, 99, 107, 32, 0, 103, 114, 101, 101, 100, 121, 0, 98, 101, 115, 116, 0]) (v := 121) rfl w82 (by omega) (by omega) rfl ?_
                refine E_if (t := 93) (b := true) rfl rfl (by decide) ?_
                refine E_iload rfl rfl ?_
                refine E_iload_n rfl rfl ?_
                refine E_ic (t := 104) (b := false) rfl rfl ((cn_le (nI_toInt (by omega)) (nI_toInt (by omega))).trans (decide_eq_false (by omega))) ?_
                refine E_iload rfl rfl ?_
                refine E_goto (t := 105) rfl rfl ?_
                refine E_istore_n (L2 := [some (.ref 65), some (.int (nI 32)), some (.int (nI (a + 5))), some (.int (nI 5)), some (.int (nI (a + 5))), some (.int (nI 37))]) rfl rfl ?_
                exact K2
              · have : ([112, 105, 101, 99, 101, 32, 0, 112, 101, 114, 115, 111, 110, 32, 0, 99, 111, 115, 116, 32, 0, 104, 97, 115, 32, 0, 98, 97, 99, 107, 32, 0, 103, 114, 101, 101, 100, 121, 0, 98, 101, 115, 116, 0] : List Nat).length = 44 := rfl
                have q0 : mtc e n [103, 114, 101, 101, 100, 121] (a) = mtc e n [114, 101, 101, 100, 121] (a + 1) + 1 := mtc_t hb0
                have q1 : mtc e n [114, 101, 101, 100, 121] (a + 1) = mtc e n [101, 101, 100, 121] (a + 1 + 1) + 1 := mtc_t hb1
                have q2 : mtc e n [101, 101, 100, 121] (a + 1 + 1) = mtc e n [101, 100, 121] (a + 1 + 1 + 1) + 1 := mtc_t hb2
                have q3 : mtc e n [101, 100, 121] (a + 1 + 1 + 1) = mtc e n [100, 121] (a + 1 + 1 + 1 + 1) + 1 := mtc_t hb3
                have q4 : mtc e n [100, 121] (a + 1 + 1 + 1 + 1) = mtc e n [121] (a + 1 + 1 + 1 + 1 + 1) + 1 := mtc_t hb4
                have q5 : mtc e n [121] (a + 1 + 1 + 1 + 1 + 1) = 0 := mtc_f hb5
                have hm0 : mr5 e n a = 5 := by unfold mr5; omega
                have K2 := K (nI 37)
                rw [hm0] at K2
                rw [show max f0 (a + 5) = f0 from by omega] at K2
                refine mw_s1 (x := a + 0) (pos := 32) (ch := 103) hj hn (by omega) l_ce hce (by decide) rfl (by decide) (by decide) hb0 ?_
                refine mw_s1 (x := a + 1) (pos := 33) (ch := 114) hj hn (by omega) l_ce hce (by decide) rfl (by decide) (by decide) hb1 ?_
                refine mw_s1 (x := a + 2) (pos := 34) (ch := 101) hj hn (by omega) l_ce hce (by decide) rfl (by decide) (by decide) hb2 ?_
                refine mw_s1 (x := a + 3) (pos := 35) (ch := 101) hj hn (by omega) l_ce hce (by decide) rfl (by decide) (by decide) hb3 ?_
                refine mw_s1 (x := a + 4) (pos := 36) (ch := 100) hj hn (by omega) l_ce hce (by decide) rfl (by decide) (by decide) hb4 ?_
                refine mw_s0 (x := a + 5) (pos := 37) (ch := 121) hj hn (by omega) l_ce hce (by decide) rfl (by decide) (by decide) hb5 ?_
                refine E_aload_n rfl rfl ?_
                refine E_getfield (v := .ref 82) rfl w65 rfl (by decide) rfl ?_
                refine E_iload rfl rfl ?_
                refine E_ialN (l := [112, 105, 101, 99, 101, 32, 0, 112, 101, 114, 115, 111, 110, 32, 0, 99, 111, 115, 116, 32, 0, 104, 97, 115, 32, 0, 98, 97, 99, 107, 32, 0, 103, 114, 101, 101, 100, 121, 0, 98, 101, 115, 116, 0]) (v := 121) rfl w82 (by omega) (by omega) rfl ?_
                refine E_if (t := 93) (b := true) rfl rfl (by decide) ?_
                refine E_iload rfl rfl ?_
                refine E_iload_n rfl rfl ?_
                refine E_ic (t := 104) (b := true) rfl rfl ((cn_le (nI_toInt (by omega)) (nI_toInt (by omega))).trans (decide_eq_true (by omega))) ?_
                refine E_iload_n rfl rfl ?_
                refine E_istore_n (L2 := [some (.ref 65), some (.int (nI 32)), some (.int (nI f0)), some (.int (nI 5)), some (.int (nI (a + 5))), some (.int (nI 37))]) rfl rfl ?_
                exact K2
            · have q0 : mtc e n [103, 114, 101, 101, 100, 121] (a) = mtc e n [114, 101, 101, 100, 121] (a + 1) + 1 := mtc_t hb0
              have q1 : mtc e n [114, 101, 101, 100, 121] (a + 1) = mtc e n [101, 101, 100, 121] (a + 1 + 1) + 1 := mtc_t hb1
              have q2 : mtc e n [101, 101, 100, 121] (a + 1 + 1) = mtc e n [101, 100, 121] (a + 1 + 1 + 1) + 1 := mtc_t hb2
              have q3 : mtc e n [101, 100, 121] (a + 1 + 1 + 1) = mtc e n [100, 121] (a + 1 + 1 + 1 + 1) + 1 := mtc_t hb3
              have q4 : mtc e n [100, 121] (a + 1 + 1 + 1 + 1) = mtc e n [121] (a + 1 + 1 + 1 + 1 + 1) + 1 := mtc_t hb4
              have q5 : mtc e n [121] (a + 1 + 1 + 1 + 1 + 1) = mtc e n [] (a + 1 + 1 + 1 + 1 + 1 + 1) + 1 := mtc_t hb5
              have q6 : mtc e n [] (a + 1 + 1 + 1 + 1 + 1 + 1) = 0 := rfl
              have hm0 : mr5 e n a = 6 := by unfold mr5; omega
              exfalso
              omega
set_option maxHeartbeats 1000000 in
theorem mw_f6 {e : List Int64} {n a j : Nat} {x30 x31 : Int32} {q : ab_q} (hj : j < 8) (hn : n ≤ 160) (ha : a ≤ n) (l_ce : ce.length = 1280) (hce : ∀ p, p < 160 → e.getD p 0 = ce.getD (160 * j + p) 0) {f0 : Nat} {r : Option Value × List ab_C} (hk : mr6 e n a = 4) (K : Ef ab_Z0 0 mX6_word (85, [some (.ref 65), some (.int (nI 39)), some (.int (nI f0)), some (.int (nI 6)), some (.int (nI (a + 4))), some (.int (nI 43))], [], (ww im lf s d k ls rf rz ra rn rq lt m1 m2 m3 m4 bd fc hd sz el q (fUp (fUp (fUp (fUp (fUp (fUp g 27 (nI (160 * j))) 29 (nI n)) 6 (-1)) 28 (nI a)) 30 x30) 31 x31) fm hm so si sh ce ca td wa kp la bf oo bo pw ow tr)) r) : Ef ab_Z0 0 mX6_word (24, [some (.ref 65), some (.int (nI 39)), some (.int (nI f0)), some (.int (nI 6)), some (.int (nI a)), some (.int (nI 39))], [], (ww im lf s d k ls rf rz ra rn rq lt m1 m2 m3 m4 bd fc hd sz el q (fUp (fUp (fUp (fUp (fUp (fUp g 27 (nI (160 * j))) 29 (nI n)) 6 (-1)) 28 (nI a)) 30 x30) 31 x31) fm hm so si sh ce ca td wa kp la bf oo bo pw ow tr)) r := by
  have hx := er_6 hk
  have hb0 := hx.1
  have hb1 := hx.2.1
  have hb2 := hx.2.2.1
  have hb3 := hx.2.2.2
  refine mw_s1 (x := a + 0) (pos := 39) (ch := 98) hj hn (by omega) l_ce hce (by decide) rfl (by decide) (by decide) hb0 ?_
  refine mw_s1 (x := a + 1) (pos := 40) (ch := 101) hj hn (by omega) l_ce hce (by decide) rfl (by decide) (by decide) hb1 ?_
  refine mw_s1 (x := a + 2) (pos := 41) (ch := 115) hj hn (by omega) l_ce hce (by decide) rfl (by decide) (by decide) hb2 ?_
  refine mw_s1 (x := a + 3) (pos := 42) (ch := 116) hj hn (by omega) l_ce hce (by decide) rfl (by decide) (by decide) hb3 ?_
  have : ([112, 105, 101, 99, 101, 32, 0, 112, 101, 114, 115, 111, 110, 32, 0, 99, 111, 115, 116, 32, 0, 104, 97, 115, 32, 0, 98, 97, 99, 107, 32, 0, 103, 114, 101, 101, 100, 121, 0, 98, 101, 115, 116, 0] : List Nat).length = 44 := rfl
  refine E_aload_n rfl rfl ?_
  refine E_getfield (v := .ref 82) rfl w65 rfl (by decide) rfl ?_
  refine E_iload rfl rfl ?_
  refine E_ialN (l := [112, 105, 101, 99, 101, 32, 0, 112, 101, 114, 115, 111, 110, 32, 0, 99, 111, 115, 116, 32, 0, 104, 97, 115, 32, 0, 98, 97, 99, 107, 32, 0, 103, 114, 101, 101, 100, 121, 0, 98, 101, 115, 116, 0]) (v := 0) rfl w82 (by omega) (by omega) rfl ?_
  refine E_if (t := 75) (b := true) rfl rfl (by decide) ?_
  refine E_aload_n rfl rfl ?_
  refine E_getfield (v := .ref 82) rfl w65 rfl (by decide) rfl ?_
  refine E_iload rfl rfl ?_
  refine E_ialN (l := [112, 105, 101, 99, 101, 32, 0, 112, 101, 114, 115, 111, 110, 32, 0, 99, 111, 115, 116, 32, 0, 104, 97, 115, 32, 0, 98, 97, 99, 107, 32, 0, 103, 114, 101, 101, 100, 121, 0, 98, 101, 115, 116, 0]) (v := 0) rfl w82 (by omega) (by omega) rfl ?_
  refine E_if (t := 93) (b := false) rfl rfl (by decide) ?_
  exact K
set_option maxHeartbeats 1000000 in
theorem mw_p6 {e : List Int64} {n a j : Nat} {x30 x31 : Int32} {q : ab_q} (hj : j < 8) (hn : n ≤ 160) (ha : a ≤ n) (l_ce : ce.length = 1280) (hce : ∀ p, p < 160 → e.getD p 0 = ce.getD (160 * j + p) 0) {f0 : Nat} (hf0 : f0 < 1000) {r : Option Value × List ab_C} (hk : ¬ mr6 e n a = 4) (K : ∀ c : Int32, Ef ab_Z0 0 mX6_word (106, [some (.ref 65), some (.int (nI 39)), some (.int (nI (max f0 (a + mr6 e n a)))), some (.int (nI 6)), some (.int (nI (a + mr6 e n a))), some (.int c)], [], (ww im lf s d k ls rf rz ra rn rq lt m1 m2 m3 m4 bd fc hd sz el q (fUp (fUp (fUp (fUp (fUp (fUp g 27 (nI (160 * j))) 29 (nI n)) 6 (-1)) 28 (nI a)) 30 x30) 31 x31) fm hm so si sh ce ca td wa kp la bf oo bo pw ow tr)) r) : Ef ab_Z0 0 mX6_word (24, [some (.ref 65), some (.int (nI 39)), some (.int (nI f0)), some (.int (nI 6)), some (.int (nI a)), some (.int (nI 39))], [], (ww im lf s d k ls rf rz ra rn rq lt m1 m2 m3 m4 bd fc hd sz el q (fUp (fUp (fUp (fUp (fUp (fUp g 27 (nI (160 * j))) 29 (nI n)) 6 (-1)) 28 (nI a)) 30 x30) 31 x31) fm hm so si sh ce ca td wa kp la bf oo bo pw ow tr)) r := by
  rcases bo2 (chB e n (a) 98) with hb0 | hb0
  · by_cases f1 : f0 < a
    · have : ([112, 105, 101, 99, 101, 32, 0, 112, 101, 114, 115, 111, 110, 32, 0, 99, 111, 115, 116, 32, 0, 104, 97, 115, 32, 0, 98, 97, 99, 107, 32, 0, 103, 114, 101, 101, 100, 121, 0, 98, 101, 115, 116, 0] : List Nat).length = 44 := rfl
      have q0 : mtc e n [98, 101, 115, 116] (a) = 0 := mtc_f hb0
      have hm0 : mr6 e n a = 0 := by unfold mr6; omega
      have K2 := K (nI 39)
      rw [hm0] at K2
      rw [show max f0 (a + 0) = a + 0 from by omega] at K2
      refine mw_s0 (x := a + 0) (pos := 39) (ch := 98) hj hn (by omega) l_ce hce (by decide) rfl (by decide) (by decide) hb0 ?_
      refine E_aload_n rfl rfl ?_
      refine E_getfield (v := .ref 82) rfl w65 rfl (by decide) rfl ?_
      refine E_iload rfl rfl ?_
      refine E_ialN (l := [112, 105, 101, 99, 101, 32, 0, 112, 101, 114, 115, 111, 110, 32, 0, 99, 111, 115, 116, 32, 0, 104, 97, 115, 32, 0, 98, 97, 99, 107, 32, 0, 103, 114, 101, 101, 100, 121, 0, 98, 101, 115, 116, 0]) (v := 98) rfl w82 (by omega) (by omega) rfl ?_
      refine E_if (t := 93) (b := true) rfl rfl (by decide) ?_
      refine E_iload rfl rfl ?_
      refine E_iload_n rfl rfl ?_
      refine E_ic (t := 104) (b := false) rfl rfl ((cn_le (nI_toInt (by omega)) (nI_toInt (by omega))).trans (decide_eq_false (by omega))) ?_
      refine E_iload rfl rfl ?_
      refine E_goto (t := 105) rfl rfl ?_
      refine E_istore_n (L2 := [some (.ref 65), some (.int (nI 39)), some (.int (nI (a + 0))), some (.int (nI 6)), some (.int (nI (a + 0))), some (.int (nI 39))]) rfl rfl ?_
      exact K2
    · have : ([112, 105, 101, 99, 101, 32, 0, 112, 101, 114, 115, 111, 110, 32, 0, 99, 111, 115, 116, 32, 0, 104, 97, 115, 32, 0, 98, 97, 99, 107, 32, 0, 103, 114, 101, 101, 100, 121, 0, 98, 101, 115, 116, 0] : List Nat).length = 44 := rfl
      have q0 : mtc e n [98, 101, 115, 116] (a) = 0 := mtc_f hb0
      have hm0 : mr6 e n a = 0 := by unfold mr6; omega
      have K2 := K (nI 39)
      rw [hm0] at K2
      rw [show max f0 (a + 0) = f0 from by omega] at K2
      refine mw_s0 (x := a + 0) (pos := 39) (ch := 98) hj hn (by omega) l_ce hce (by decide) rfl (by decide) (by decide) hb0 ?_
      refine E_aload_n rfl rfl ?_
      refine E_getfield (v := .ref 82) rfl w65 rfl (by decide) rfl ?_
      refine E_iload rfl rfl ?_
      refine E_ialN (l := [112, 105, 101, 99, 101, 32, 0, 112, 101, 114, 115, 111, 110, 32, 0, 99, 111, 115, 116, 32, 0, 104, 97, 115, 32, 0, 98, 97, 99, 107, 32, 0, 103, 114, 101, 101, 100, 121, 0, 98, 101, 115, 116, 0]) (v := 98) rfl w82 (by omega) (by omega) rfl ?_
      refine E_if (t := 93) (b := true) rfl rfl (by decide) ?_
      refine E_iload rfl rfl ?_
      refine E_iload_n rfl rfl ?_
      refine E_ic (t := 104) (b := true) rfl rfl ((cn_le (nI_toInt (by omega)) (nI_toInt (by omega))).trans (decide_eq_true (by omega))) ?_
      refine E_iload_n rfl rfl ?_
      refine E_istore_n (L2 := [some (.ref 65), some (.int (nI 39)), some (.int (nI f0)), some (.int (nI 6)), some (.int (nI (a + 0))), some (.int (nI 39))]) rfl rfl ?_
      exact K2
  · rcases bo2 (chB e n (a + 1) 101) with hb1 | hb1
    · by_cases f2 : f0 < a + 1
      · have : ([112, 105, 101, 99, 101, 32, 0, 112, 101, 114, 115, 111, 110, 32, 0, 99, 111, 115, 116, 32, 0, 104, 97, 115, 32, 0, 98, 97, 99, 107, 32, 0, 103, 114, 101, 101, 100, 121, 0, 98, 101, 115, 116, 0] : List Nat).length = 44 := rfl
        have q0 : mtc e n [98, 101, 115, 116] (a) = mtc e n [101, 115, 116] (a + 1) + 1 := mtc_t hb0
        have q1 : mtc e n [101, 115, 116] (a + 1) = 0 := mtc_f hb1
        have hm0 : mr6 e n a = 1 := by unfold mr6; omega
        have K2 := K (nI 40)
        rw [hm0] at K2
        rw [show max f0 (a + 1) = a + 1 from by omega] at K2
        refine mw_s1 (x := a + 0) (pos := 39) (ch := 98) hj hn (by omega) l_ce hce (by decide) rfl (by decide) (by decide) hb0 ?_
        refine mw_s0 (x := a + 1) (pos := 40) (ch := 101) hj hn (by omega) l_ce hce (by decide) rfl (by decide) (by decide) hb1 ?_
        refine E_aload_n rfl rfl ?_
        refine E_getfield (v := .ref 82) rfl w65 rfl (by decide) rfl ?_
        refine E_iload rfl rfl ?_
        refine E_ialN (l := [112, 105, 101, 99, 101, 32, 0, 112, 101, 114, 115, 111, 110, 32, 0, 99, 111, 115, 116, 32, 0, 104, 97, 115, 32, 0, 98, 97, 99, 107, 32, 0, 103, 114, 101, 101, 100, 121, 0, 98, 101, 115, 116, 0]) (v := 101) rfl w82 (by omega) (by omega) rfl ?_
        refine E_if (t := 93) (b := true) rfl rfl (by decide) ?_
        refine E_iload rfl rfl ?_
        refine E_iload_n rfl rfl ?_
        refine E_ic (t := 104) (b := false) rfl rfl ((cn_le (nI_toInt (by omega)) (nI_toInt (by omega))).trans (decide_eq_false (by omega))) ?_
        refine E_iload rfl rfl ?_
        refine E_goto (t := 105) rfl rfl ?_
        refine E_istore_n (L2 := [some (.ref 65), some (.int (nI 39)), some (.int (nI (a + 1))), some (.int (nI 6)), some (.int (nI (a + 1))), some (.int (nI 40))]) rfl rfl ?_
        exact K2
      · have : ([112, 105, 101, 99, 101, 32, 0, 112, 101, 114, 115, 111, 110, 32, 0, 99, 111, 115, 116, 32, 0, 104, 97, 115, 32, 0, 98, 97, 99, 107, 32, 0, 103, 114, 101, 101, 100, 121, 0, 98, 101, 115, 116, 0] : List Nat).length = 44 := rfl
        have q0 : mtc e n [98, 101, 115, 116] (a) = mtc e n [101, 115, 116] (a + 1) + 1 := mtc_t hb0
        have q1 : mtc e n [101, 115, 116] (a + 1) = 0 := mtc_f hb1
        have hm0 : mr6 e n a = 1 := by unfold mr6; omega
        have K2 := K (nI 40)
        rw [hm0] at K2
        rw [show max f0 (a + 1) = f0 from by omega] at K2
        refine mw_s1 (x := a + 0) (pos := 39) (ch := 98) hj hn (by omega) l_ce hce (by decide) rfl (by decide) (by decide) hb0 ?_
        refine mw_s0 (x := a + 1) (pos := 40) (ch := 101) hj hn (by omega) l_ce hce (by decide) rfl (by decide) (by decide) hb1 ?_
        refine E_aload_n rfl rfl ?_
        refine E_getfield (v := .ref 82) rfl w65 rfl (by decide) rfl ?_
        refine E_iload rfl rfl ?_
        refine E_ialN (l := [112, 105, 101, 99, 101, 32, 0, 112, 101, 114, 115, 111, 110, 32, 0, 99, 111, 115, 116, 32, 0, 104, 97, 115, 32, 0, 98, 97, 99, 107, 32, 0, 103, 114, 101, 101, 100, 121, 0, 98, 101, 115, 116, 0]) (v := 101) rfl w82 (by omega) (by omega) rfl ?_
        refine E_if (t := 93) (b := true) rfl rfl (by decide) ?_
        refine E_iload rfl rfl ?_
        refine E_iload_n rfl rfl ?_
        refine E_ic (t := 104) (b := true) rfl rfl ((cn_le (nI_toInt (by omega)) (nI_toInt (by omega))).trans (decide_eq_true (by omega))) ?_
        refine E_iload_n rfl rfl ?_
        refine E_istore_n (L2 := [some (.ref 65), some (.int (nI 39)), some (.int (nI f0)), some (.int (nI 6)), some (.int (nI (a + 1))), some (.int (nI 40))]) rfl rfl ?_
        exact K2
    · rcases bo2 (chB e n (a + 1 + 1) 115) with hb2 | hb2
      · by_cases f3 : f0 < a + 2
        · have : ([112, 105, 101, 99, 101, 32, 0, 112, 101, 114, 115, 111, 110, 32, 0, 99, 111, 115, 116, 32, 0, 104, 97, 115, 32, 0, 98, 97, 99, 107, 32, 0, 103, 114, 101, 101, 100, 121, 0, 98, 101, 115, 116, 0] : List Nat).length = 44 := rfl
          have q0 : mtc e n [98, 101, 115, 116] (a) = mtc e n [101, 115, 116] (a + 1) + 1 := mtc_t hb0
          have q1 : mtc e n [101, 115, 116] (a + 1) = mtc e n [115, 116] (a + 1 + 1) + 1 := mtc_t hb1
          have q2 : mtc e n [115, 116] (a + 1 + 1) = 0 := mtc_f hb2
          have hm0 : mr6 e n a = 2 := by unfold mr6; omega
          have K2 := K (nI 41)
          rw [hm0] at K2
          rw [show max f0 (a + 2) = a + 2 from by omega] at K2
          refine mw_s1 (x := a + 0) (pos := 39) (ch := 98) hj hn (by omega) l_ce hce (by decide) rfl (by decide) (by decide) hb0 ?_
          refine mw_s1 (x := a + 1) (pos := 40) (ch := 101) hj hn (by omega) l_ce hce (by decide) rfl (by decide) (by decide) hb1 ?_
          refine mw_s0 (x := a + 2) (pos := 41) (ch := 115) hj hn (by omega) l_ce hce (by decide) rfl (by decide) (by decide) hb2 ?_
          refine E_aload_n rfl rfl ?_
          refine E_getfield (v := .ref 82) rfl w65 rfl (by decide) rfl ?_
          refine E_iload rfl rfl ?_
          refine E_ialN (l := [112, 105, 101, 99, 101, 32, 0, 112, 101, 114, 115, 111, 110, 32, 0, 99, 111, 115, 116, 32, 0, 104, 97, 115, 32, 0, 98, 97, 99, 107, 32, 0, 103, 114, 101, 101, 100, 121, 0, 98, 101, 115, 116, 0]) (v := 115) rfl w82 (by omega) (by omega) rfl ?_
          refine E_if (t := 93) (b := true) rfl rfl (by decide) ?_
          refine E_iload rfl rfl ?_
          refine E_iload_n rfl rfl ?_
          refine E_ic (t := 104) (b := false) rfl rfl ((cn_le (nI_toInt (by omega)) (nI_toInt (by omega))).trans (decide_eq_false (by omega))) ?_
          refine E_iload rfl rfl ?_
          refine E_goto (t := 105) rfl rfl ?_
          refine E_istore_n (L2 := [some (.ref 65), some (.int (nI 39)), some (.int (nI (a + 2))), some (.int (nI 6)), some (.int (nI (a + 2))), some (.int (nI 41))]) rfl rfl ?_
          exact K2
        · have : ([112, 105, 101, 99, 101, 32, 0, 112, 101, 114, 115, 111, 110, 32, 0, 99, 111, 115, 116, 32, 0, 104, 97, 115, 32, 0, 98, 97, 99, 107, 32, 0, 103, 114, 101, 101, 100, 121, 0, 98, 101, 115, 116, 0] : List Nat).length = 44 := rfl
          have q0 : mtc e n [98, 101, 115, 116] (a) = mtc e n [101, 115, 116] (a + 1) + 1 := mtc_t hb0
          have q1 : mtc e n [101, 115, 116] (a + 1) = mtc e n [115, 116] (a + 1 + 1) + 1 := mtc_t hb1
          have q2 : mtc e n [115, 116] (a + 1 + 1) = 0 := mtc_f hb2
          have hm0 : mr6 e n a = 2 := by unfold mr6; omega
          have K2 := K (nI 41)
          rw [hm0] at K2
          rw [show max f0 (a + 2) = f0 from by omega] at K2
          refine mw_s1 (x := a + 0) (pos := 39) (ch := 98) hj hn (by omega) l_ce hce (by decide) rfl (by decide) (by decide) hb0 ?_
          refine mw_s1 (x := a + 1) (pos := 40) (ch := 101) hj hn (by omega) l_ce hce (by decide) rfl (by decide) (by decide) hb1 ?_
          refine mw_s0 (x := a + 2) (pos := 41) (ch := 115) hj hn (by omega) l_ce hce (by decide) rfl (by decide) (by decide) hb2 ?_
          refine E_aload_n rfl rfl ?_
          refine E_getfield (v := .ref 82) rfl w65 rfl (by decide) rfl ?_
          refine E_iload rfl rfl ?_
          refine E_ialN (l := [112, 105, 101, 99, 101, 32, 0, 112, 101, 114, 115, 111, 110, 32, 0, 99, 111, 115, 116, 32, 0, 104, 97, 115, 32, 0, 98, 97, 99, 107, 32, 0, 103, 114, 101, 101, 100, 121, 0, 98, 101, 115, 116, 0]) (v := 115) rfl w82 (by omega) (by omega) rfl ?_
          refine E_if (t := 93) (b := true) rfl rfl (by decide) ?_
          refine E_iload rfl rfl ?_
          refine E_iload_n rfl rfl ?_
          refine E_ic (t := 104) (b := true) rfl rfl ((cn_le (nI_toInt (by omega)) (nI_toInt (by omega))).trans (decide_eq_true (by omega))) ?_
          refine E_iload_n rfl rfl ?_
          refine E_istore_n (L2 := [some (.ref 65), some (.int (nI 39)), some (.int (nI f0)), some (.int (nI 6)), some (.int (nI (a + 2))), some (.int (nI 41))]) rfl rfl ?_
          exact K2
      · rcases bo2 (chB e n (a + 1 + 1 + 1) 116) with hb3 | hb3
        · by_cases f4 : f0 < a + 3
          · have : ([112, 105, 101, 99, 101, 32, 0, 112, 101, 114, 115, 111, 110, 32, 0, 99, 111, 115, 116, 32, 0, 104, 97, 115, 32, 0, 98, 97, 99, 107, 32, 0, 103, 114, 101, 101, 100, 121, 0, 98, 101, 115, 116, 0] : List Nat).length = 44 := rfl
            have q0 : mtc e n [98, 101, 115, 116] (a) = mtc e n [101, 115, 116] (a + 1) + 1 := mtc_t hb0
            have q1 : mtc e n [101, 115, 116] (a + 1) = mtc e n [115, 116] (a + 1 + 1) + 1 := mtc_t hb1
            have q2 : mtc e n [115, 116] (a + 1 + 1) = mtc e n [116] (a + 1 + 1 + 1) + 1 := mtc_t hb2
            have q3 : mtc e n [116] (a + 1 + 1 + 1) = 0 := mtc_f hb3
            have hm0 : mr6 e n a = 3 := by unfold mr6; omega
            have K2 := K (nI 42)
            rw [hm0] at K2
            rw [show max f0 (a + 3) = a + 3 from by omega] at K2
            refine mw_s1 (x := a + 0) (pos := 39) (ch := 98) hj hn (by omega) l_ce hce (by decide) rfl (by decide) (by decide) hb0 ?_
            refine mw_s1 (x := a + 1) (pos := 40) (ch := 101) hj hn (by omega) l_ce hce (by decide) rfl (by decide) (by decide) hb1 ?_
            refine mw_s1 (x := a + 2) (pos := 41) (ch := 115) hj hn (by omega) l_ce hce (by decide) rfl (by decide) (by decide) hb2 ?_
            refine mw_s0 (x := a + 3) (pos := 42) (ch := 116) hj hn (by omega) l_ce hce (by decide) rfl (by decide) (by decide) hb3 ?_
            refine E_aload_n rfl rfl ?_
            refine E_getfield (v := .ref 82) rfl w65 rfl (by decide) rfl ?_
            refine E_iload rfl rfl ?_
            refine E_ialN (l := [112, 105, 101, 99, 101, 32, 0, 112, 101, 114, 115, 111, 110, 32, 0, 99, 111, 115, 116, 32, 0, 104, 97, 115, 32, 0, 98, 97, 99, 107, 32, 0, 103, 114, 101, 101, 100, 121, 0, 98, 101, 115, 116, 0]) (v := 116) rfl w82 (by omega) (by omega) rfl ?_
            refine E_if (t := 93) (b := true) rfl rfl (by decide) ?_
            refine E_iload rfl rfl ?_
            refine E_iload_n rfl rfl ?_
            refine E_ic (t := 104) (b := false) rfl rfl ((cn_le (nI_toInt (by omega)) (nI_toInt (by omega))).trans (decide_eq_false (by omega))) ?_
            refine E_iload rfl rfl ?_
            refine E_goto (t := 105) rfl rfl ?_
            refine E_istore_n (L2 := [some (.ref 65), some (.int (nI 39)), some (.int (nI (a + 3))), some (.int (nI 6)), some (.int (nI (a + 3))), some (.int (nI 42))]) rfl rfl ?_
            exact K2
          · have : ([112, 105, 101, 99, 101, 32, 0, 112, 101, 114, 115, 111, 110, 32, 0, 99, 111, 115, 116, 32, 0, 104, 97, 115, 32, 0, 98, 97, 99, 107, 32, 0, 103, 114, 101, 101, 100, 121, 0, 98, 101, 115, 116, 0] : List Nat).length = 44 := rfl
            have q0 : mtc e n [98, 101, 115, 116] (a) = mtc e n [101, 115, 116] (a + 1) + 1 := mtc_t hb0
            have q1 : mtc e n [101, 115, 116] (a + 1) = mtc e n [115, 116] (a + 1 + 1) + 1 := mtc_t hb1
            have q2 : mtc e n [115, 116] (a + 1 + 1) = mtc e n [116] (a + 1 + 1 + 1) + 1 := mtc_t hb2
            have q3 : mtc e n [116] (a + 1 + 1 + 1) = 0 := mtc_f hb3
            have hm0 : mr6 e n a = 3 := by unfold mr6; omega
            have K2 := K (nI 42)
            rw [hm0] at K2
            rw [show max f0 (a + 3) = f0 from by omega] at K2
            refine mw_s1 (x := a + 0) (pos := 39) (ch := 98) hj hn (by omega) l_ce hce (by decide) rfl (by decide) (by decide) hb0 ?_
            refine mw_s1 (x := a + 1) (pos := 40) (ch := 101) hj hn (by omega) l_ce hce (by decide) rfl (by decide) (by decide) hb1 ?_
            refine mw_s1 (x := a + 2) (pos := 41) (ch := 115) hj hn (by omega) l_ce hce (by decide) rfl (by decide) (by decide) hb2 ?_
            refine mw_s0 (x := a + 3) (pos := 42) (ch := 116) hj hn (by omega) l_ce hce (by decide) rfl (by decide) (by decide) hb3 ?_
            refine E_aload_n rfl rfl ?_
            refine E_getfield (v := .ref 82) rfl w65 rfl (by decide) rfl ?_
            refine E_iload rfl rfl ?_
            refine E_ialN (l := [112, 105, 101, 99, 101, 32, 0, 112, 101, 114, 115, 111, 110, 32, 0, 99, 111, 115, 116, 32, 0, 104, 97, 115, 32, 0, 98, 97, 99, 107, 32, 0, 103, 114, 101, 101, 100, 121, 0, 98, 101, 115, 116, 0]) (v := 116) rfl w82 (by omega) (by omega) rfl ?_
            refine E_if (t := 93) (b := true) rfl rfl (by decide) ?_
            refine E_iload rfl rfl ?_
            refine E_iload_n rfl rfl ?_
            refine E_ic (t := 104) (b := true) rfl rfl ((cn_le (nI_toInt (by omega)) (nI_toInt (by omega))).trans (decide_eq_true (by omega))) ?_
            refine E_iload_n rfl rfl ?_
            refine E_istore_n (L2 := [some (.ref 65), some (.int (nI 39)), some (.int (nI f0)), some (.int (nI 6)), some (.int (nI (a + 3))), some (.int (nI 42))]) rfl rfl ?_
            exact K2
        · have q0 : mtc e n [98, 101, 115, 116] (a) = mtc e n [101, 115, 116] (a + 1) + 1 := mtc_t hb0
          have q1 : mtc e n [101, 115, 116] (a + 1) = mtc e n [115, 116] (a + 1 + 1) + 1 := mtc_t hb1
          have q2 : mtc e n [115, 116] (a + 1 + 1) = mtc e n [116] (a + 1 + 1 + 1) + 1 := mtc_t hb2
          have q3 : mtc e n [116] (a + 1 + 1 + 1) = mtc e n [] (a + 1 + 1 + 1 + 1) + 1 := mtc_t hb3
          have q4 : mtc e n [] (a + 1 + 1 + 1 + 1) = 0 := rfl
          have hm0 : mr6 e n a = 4 := by unfold mr6; omega
          exfalso
          omega
set_option maxHeartbeats 1000000 in
theorem m_wd0b {e : List Int64} {n a j : Nat} {x30 x31 : Int32} {q : ab_q} (hj : j < 8) (hn : n ≤ 160) (ha : a ≤ n) (l_ce : ce.length = 1280) (hce : ∀ p, p < 160 → e.getD p 0 = ce.getD (160 * j + p) 0) (hw : wd e n a = 0) (hb : chB e n (a + 5) 32 = true) : Ev ab_Z0 1 158 [.ref 65] (ww im lf s d k ls rf rz ra rn rq lt m1 m2 m3 m4 bd fc hd sz el q (fUp (fUp (fUp (fUp (fUp (fUp g 27 (nI (160 * j))) 29 (nI n)) 6 (-1)) 28 (nI a)) 30 x30) 31 x31) fm hm so si sh ce ca td wa kp la bf oo bo pw ow tr) (some (.int (nI 0)), (ww im lf s d k ls rf rz ra rn rq lt m1 m2 m3 m4 bd fc hd sz el q (fUp (fUp (fUp (fUp (fUp (fUp g 27 (nI (160 * j))) 29 (nI n)) 6 (-1)) 28 (nI (a + 6))) 30 x30) 31 x31) fm hm so si sh ce ca td wa kp la bf oo bo pw ow tr)) := by
  have hwc := wd_c e n a
  have hs0 := mrS_0 e n a
  have hl0 := mr0_le e n a
  have hs1 := mrS_1 e n a
  have hl1 := mr1_le e n a
  have hs2 := mrS_2 e n a
  have hl2 := mr2_le e n a
  have hs3 := mrS_3 e n a
  have hl3 := mr3_le e n a
  have hs4 := mrS_4 e n a
  have hl4 := mr4_le e n a
  have hs5 := mrS_5 e n a
  have hl5 := mr5_le e n a
  have hs6 := mrS_6 e n a
  have hl6 := mr6_le e n a
  have hu0 : mr0 e n a = 6 := by rw [hs0]; exact if_pos ⟨by omega, hb⟩
  refine Ef.in (md := mX6_word) (L := [some (.ref 65), none, none, none, none, none]) rfl (Nat.le_of_ble_eq_true rfl) rfl ?_
  refine E_iconst (x := nI 0) at_X6_word_0 (by decide) ?_
  refine E_istore_n (L2 := [some (.ref 65), some (.int (nI 0)), none, none, none, none]) at_X6_word_1 rfl ?_
  refine E_aload_n at_X6_word_2 rfl ?_
  refine E_getfield (v := .int (nI a)) at_X6_word_3 w65 rfl (by decide) rfl ?_
  refine E_istore_n (L2 := [some (.ref 65), some (.int (nI 0)), some (.int (nI a)), none, none, none]) at_X6_word_6 rfl ?_
  refine E_iconst (x := nI 0) at_X6_word_7 (by decide) ?_
  refine E_istore_n (L2 := [some (.ref 65), some (.int (nI 0)), some (.int (nI a)), some (.int (nI 0)), none, none]) at_X6_word_8 rfl ?_
  refine E_iload_n at_X6_word_9 rfl ?_
  refine E_bipush (x := nI 7) at_X6_word_10 (by decide) ?_
  refine E_ic (t := 130) (b := false) at_X6_word_12 rfl (by decide) ?_
  refine E_aload_n at_X6_word_15 rfl ?_
  refine E_getfield (v := .int (nI a)) at_X6_word_16 w65 rfl (by decide) rfl ?_
  refine E_istore (L2 := [some (.ref 65), some (.int (nI 0)), some (.int (nI a)), some (.int (nI 0)), some (.int (nI a)), none]) at_X6_word_19 rfl ?_
  refine E_iload_n at_X6_word_21 rfl ?_
  refine E_istore (L2 := [some (.ref 65), some (.int (nI 0)), some (.int (nI a)), some (.int (nI 0)), some (.int (nI a)), some (.int (nI 0))]) at_X6_word_22 rfl ?_
  refine mw_f0 hj hn ha l_ce hce (by omega) ?_
  refine E_aload_n rfl rfl ?_
  refine E_iload rfl rfl ?_
  refine E_putfield (cs2 := (ww im lf s d k ls rf rz ra rn rq lt m1 m2 m3 m4 bd fc hd sz el q (fUp (fUp (fUp (fUp (fUp (fUp g 27 (nI (160 * j))) 29 (nI n)) 6 (-1)) 28 (nI (a + 6))) 30 x30) 31 x31) fm hm so si sh ce ca td wa kp la bf oo bo pw ow tr)) rfl w65 rfl (by decide) (Nat.le_of_ble_eq_true rfl) rfl rfl rfl (w_pt65_28.trans (by rw [gn28])) ?_
  refine E_iload_n rfl rfl ?_
  exact E_iret rfl rfl
set_option maxHeartbeats 1000000 in
theorem m_wd0n {e : List Int64} {n a j : Nat} {x30 x31 : Int32} {q : ab_q} (hj : j < 8) (hn : n ≤ 160) (ha : a ≤ n) (l_ce : ce.length = 1280) (hce : ∀ p, p < 160 → e.getD p 0 = ce.getD (160 * j + p) 0) (hw : wd e n a = 0) (hb : chB e n (a + 5) 32 = false) : Ev ab_Z0 1 158 [.ref 65] (ww im lf s d k ls rf rz ra rn rq lt m1 m2 m3 m4 bd fc hd sz el q (fUp (fUp (fUp (fUp (fUp (fUp g 27 (nI (160 * j))) 29 (nI n)) 6 (-1)) 28 (nI a)) 30 x30) 31 x31) fm hm so si sh ce ca td wa kp la bf oo bo pw ow tr) (some (.int (-1)), (ww im lf s d k ls rf rz ra rn rq lt m1 m2 m3 m4 bd fc hd sz el q (fUp (fUp (fUp (fUp (fUp (fUp g 27 (nI (160 * j))) 29 (nI n)) 6 (-1)) 28 (nI a)) 30 x30) 31 (nI (a + 5))) fm hm so si sh ce ca td wa kp la bf oo bo pw ow tr)) := by
  have : ([112, 105, 101, 99, 101, 32, 0, 112, 101, 114, 115, 111, 110, 32, 0, 99, 111, 115, 116, 32, 0, 104, 97, 115, 32, 0, 98, 97, 99, 107, 32, 0, 103, 114, 101, 101, 100, 121, 0, 98, 101, 115, 116, 0] : List Nat).length = 44 := rfl
  have hwc := wd_c e n a
  have hs0 := mrS_0 e n a
  have hl0 := mr0_le e n a
  have hs1 := mrS_1 e n a
  have hl1 := mr1_le e n a
  have hs2 := mrS_2 e n a
  have hl2 := mr2_le e n a
  have hs3 := mrS_3 e n a
  have hl3 := mr3_le e n a
  have hs4 := mrS_4 e n a
  have hl4 := mr4_le e n a
  have hs5 := mrS_5 e n a
  have hl5 := mr5_le e n a
  have hs6 := mrS_6 e n a
  have hl6 := mr6_le e n a
  have hu0 : mr0 e n a = 5 := by rw [hs0]; rw [if_neg (fun z => by rw [hb] at z; exact absurd z.2 (by decide))]; omega
  have hx1 := ex_0_1 (e := e) (n := n) (a := a) (by omega)
  have hu1 : mr1 e n a = mj1 e n a := by rw [hs1]; exact if_neg (fun z => by omega)
  have hx2 := ex_0_2 (e := e) (n := n) (a := a) (by omega)
  have hu2 : mr2 e n a = mj2 e n a := by rw [hs2]; exact if_neg (fun z => by omega)
  have hx3 := ex_0_3 (e := e) (n := n) (a := a) (by omega)
  have hu3 : mr3 e n a = mj3 e n a := by rw [hs3]; exact if_neg (fun z => by omega)
  have hx4 := ex_0_4 (e := e) (n := n) (a := a) (by omega)
  have hu4 : mr4 e n a = mj4 e n a := by rw [hs4]; exact if_neg (fun z => by omega)
  have hx5 := ex_0_5 (e := e) (n := n) (a := a) (by omega)
  have hu5 : mr5 e n a = mj5 e n a := rfl
  have hx6 := ex_0_6 (e := e) (n := n) (a := a) (by omega)
  have hu6 : mr6 e n a = mj6 e n a := rfl
  have hfar : max (max (max (max (max (max (max a (a + mr0 e n a)) (a + mr1 e n a)) (a + mr2 e n a)) (a + mr3 e n a)) (a + mr4 e n a)) (a + mr5 e n a)) (a + mr6 e n a) = a + 5 := by omega
  rw [← hfar]
  refine Ef.in (md := mX6_word) (L := [some (.ref 65), none, none, none, none, none]) rfl (Nat.le_of_ble_eq_true rfl) rfl ?_
  refine E_iconst (x := nI 0) rfl (by decide) ?_
  refine E_istore_n (L2 := [some (.ref 65), some (.int (nI 0)), none, none, none, none]) rfl rfl ?_
  refine E_aload_n rfl rfl ?_
  refine E_getfield (v := .int (nI a)) rfl w65 rfl (by decide) rfl ?_
  refine E_istore_n (L2 := [some (.ref 65), some (.int (nI 0)), some (.int (nI a)), none, none, none]) rfl rfl ?_
  refine E_iconst (x := nI 0) rfl (by decide) ?_
  refine E_istore_n (L2 := [some (.ref 65), some (.int (nI 0)), some (.int (nI a)), some (.int (nI 0)), none, none]) rfl rfl ?_
  refine E_iload_n rfl rfl ?_
  refine E_bipush (x := nI 7) rfl (by decide) ?_
  refine E_ic (t := 130) (b := false) rfl rfl (by decide) ?_
  refine E_aload_n rfl rfl ?_
  refine E_getfield (v := .int (nI a)) rfl w65 rfl (by decide) rfl ?_
  refine E_istore (L2 := [some (.ref 65), some (.int (nI 0)), some (.int (nI a)), some (.int (nI 0)), some (.int (nI a)), none]) rfl rfl ?_
  refine E_iload_n rfl rfl ?_
  refine E_istore (L2 := [some (.ref 65), some (.int (nI 0)), some (.int (nI a)), some (.int (nI 0)), some (.int (nI a)), some (.int (nI 0))]) rfl rfl ?_
  refine mw_p0 hj hn ha l_ce hce (f0 := a) (by omega) (by omega) (fun c0 => ?_)
  refine E_aload_n rfl rfl ?_
  refine E_getfield (v := .ref 82) rfl w65 rfl (by decide) rfl ?_
  refine E_iload_n rfl rfl ?_
  refine E_ialN (l := [112, 105, 101, 99, 101, 32, 0, 112, 101, 114, 115, 111, 110, 32, 0, 99, 111, 115, 116, 32, 0, 104, 97, 115, 32, 0, 98, 97, 99, 107, 32, 0, 103, 114, 101, 101, 100, 121, 0, 98, 101, 115, 116, 0]) (v := 112) rfl w82 (by omega) (by omega) rfl ?_
  refine E_if (t := 121) (b := false) rfl rfl (by decide) ?_
  refine E_iinc (y := nI 1) (L2 := [some (.ref 65), some (.int (nI 1)), some (.int (nI (max a (a + mr0 e n a)))), some (.int (nI 0)), some (.int (nI (a + mr0 e n a))), some (.int c0)]) rfl rfl (by decide) rfl ?_
  refine E_goto (t := 106) rfl rfl ?_
  refine E_aload_n rfl rfl ?_
  refine E_getfield (v := .ref 82) rfl w65 rfl (by decide) rfl ?_
  refine E_iload_n rfl rfl ?_
  refine E_ialN (l := [112, 105, 101, 99, 101, 32, 0, 112, 101, 114, 115, 111, 110, 32, 0, 99, 111, 115, 116, 32, 0, 104, 97, 115, 32, 0, 98, 97, 99, 107, 32, 0, 103, 114, 101, 101, 100, 121, 0, 98, 101, 115, 116, 0]) (v := 105) rfl w82 (by omega) (by omega) rfl ?_
  refine E_if (t := 121) (b := false) rfl rfl (by decide) ?_
  refine E_iinc (y := nI 2) (L2 := [some (.ref 65), some (.int (nI 2)), some (.int (nI (max a (a + mr0 e n a)))), some (.int (nI 0)), some (.int (nI (a + mr0 e n a))), some (.int c0)]) rfl rfl (by decide) rfl ?_
  refine E_goto (t := 106) rfl rfl ?_
  refine E_aload_n rfl rfl ?_
  refine E_getfield (v := .ref 82) rfl w65 rfl (by decide) rfl ?_
  refine E_iload_n rfl rfl ?_
  refine E_ialN (l := [112, 105, 101, 99, 101, 32, 0, 112, 101, 114, 115, 111, 110, 32, 0, 99, 111, 115, 116, 32, 0, 104, 97, 115, 32, 0, 98, 97, 99, 107, 32, 0, 103, 114, 101, 101, 100, 121, 0, 98, 101, 115, 116, 0]) (v := 101) rfl w82 (by omega) (by omega) rfl ?_
  refine E_if (t := 121) (b := false) rfl rfl (by decide) ?_
  refine E_iinc (y := nI 3) (L2 := [some (.ref 65), some (.int (nI 3)), some (.int (nI (max a (a + mr0 e n a)))), some (.int (nI 0)), some (.int (nI (a + mr0 e n a))), some (.int c0)]) rfl rfl (by decide) rfl ?_
  refine E_goto (t := 106) rfl rfl ?_
  refine E_aload_n rfl rfl ?_
  refine E_getfield (v := .ref 82) rfl w65 rfl (by decide) rfl ?_
  refine E_iload_n rfl rfl ?_
  refine E_ialN (l := [112, 105, 101, 99, 101, 32, 0, 112, 101, 114, 115, 111, 110, 32, 0, 99, 111, 115, 116, 32, 0, 104, 97, 115, 32, 0, 98, 97, 99, 107, 32, 0, 103, 114, 101, 101, 100, 121, 0, 98, 101, 115, 116, 0]) (v := 99) rfl w82 (by omega) (by omega) rfl ?_
  refine E_if (t := 121) (b := false) rfl rfl (by decide) ?_
  refine E_iinc (y := nI 4) (L2 := [some (.ref 65), some (.int (nI 4)), some (.int (nI (max a (a + mr0 e n a)))), some (.int (nI 0)), some (.int (nI (a + mr0 e n a))), some (.int c0)]) rfl rfl (by decide) rfl ?_
  refine E_goto (t := 106) rfl rfl ?_
  refine E_aload_n rfl rfl ?_
  refine E_getfield (v := .ref 82) rfl w65 rfl (by decide) rfl ?_
  refine E_iload_n rfl rfl ?_
  refine E_ialN (l := [112, 105, 101, 99, 101, 32, 0, 112, 101, 114, 115, 111, 110, 32, 0, 99, 111, 115, 116, 32, 0, 104, 97, 115, 32, 0, 98, 97, 99, 107, 32, 0, 103, 114, 101, 101, 100, 121, 0, 98, 101, 115, 116, 0]) (v := 101) rfl w82 (by omega) (by omega) rfl ?_
  refine E_if (t := 121) (b := false) rfl rfl (by decide) ?_
  refine E_iinc (y := nI 5) (L2 := [some (.ref 65), some (.int (nI 5)), some (.int (nI (max a (a + mr0 e n a)))), some (.int (nI 0)), some (.int (nI (a + mr0 e n a))), some (.int c0)]) rfl rfl (by decide) rfl ?_
  refine E_goto (t := 106) rfl rfl ?_
  refine E_aload_n rfl rfl ?_
  refine E_getfield (v := .ref 82) rfl w65 rfl (by decide) rfl ?_
  refine E_iload_n rfl rfl ?_
  refine E_ialN (l := [112, 105, 101, 99, 101, 32, 0, 112, 101, 114, 115, 111, 110, 32, 0, 99, 111, 115, 116, 32, 0, 104, 97, 115, 32, 0, 98, 97, 99, 107, 32, 0, 103, 114, 101, 101, 100, 121, 0, 98, 101, 115, 116, 0]) (v := 32) rfl w82 (by omega) (by omega) rfl ?_
  refine E_if (t := 121) (b := false) rfl rfl (by decide) ?_
  refine E_iinc (y := nI 6) (L2 := [some (.ref 65), some (.int (nI 6)), some (.int (nI (max a (a + mr0 e n a)))), some (.int (nI 0)), some (.int (nI (a + mr0 e n a))), some (.int c0)]) rfl rfl (by decide) rfl ?_
  refine E_goto (t := 106) rfl rfl ?_
  refine E_aload_n rfl rfl ?_
  refine E_getfield (v := .ref 82) rfl w65 rfl (by decide) rfl ?_
  refine E_iload_n rfl rfl ?_
  refine E_ialN (l := [112, 105, 101, 99, 101, 32, 0, 112, 101, 114, 115, 111, 110, 32, 0, 99, 111, 115, 116, 32, 0, 104, 97, 115, 32, 0, 98, 97, 99, 107, 32, 0, 103, 114, 101, 101, 100, 121, 0, 98, 101, 115, 116, 0]) (v := 0) rfl w82 (by omega) (by omega) rfl ?_
  refine E_if (t := 121) (b := true) rfl rfl (by decide) ?_
  refine E_iinc (y := nI 7) (L2 := [some (.ref 65), some (.int (nI 7)), some (.int (nI (max a (a + mr0 e n a)))), some (.int (nI 0)), some (.int (nI (a + mr0 e n a))), some (.int c0)]) rfl rfl (by decide) rfl ?_
  refine E_iinc (y := nI 1) (L2 := [some (.ref 65), some (.int (nI 7)), some (.int (nI (max a (a + mr0 e n a)))), some (.int (nI 1)), some (.int (nI (a + mr0 e n a))), some (.int c0)]) rfl rfl (by decide) rfl ?_
  refine E_goto (t := 9) rfl rfl ?_
  refine E_iload_n rfl rfl ?_
  refine E_bipush (x := nI 7) rfl (by decide) ?_
  refine E_ic (t := 130) (b := false) rfl rfl (by decide) ?_
  refine E_aload_n rfl rfl ?_
  refine E_getfield (v := .int (nI a)) rfl w65 rfl (by decide) rfl ?_
  refine E_istore (L2 := [some (.ref 65), some (.int (nI 7)), some (.int (nI (max a (a + mr0 e n a)))), some (.int (nI 1)), some (.int (nI a)), some (.int c0)]) rfl rfl ?_
  refine E_iload_n rfl rfl ?_
  refine E_istore (L2 := [some (.ref 65), some (.int (nI 7)), some (.int (nI (max a (a + mr0 e n a)))), some (.int (nI 1)), some (.int (nI a)), some (.int (nI 7))]) rfl rfl ?_
  refine mw_p1 hj hn ha l_ce hce (f0 := max a (a + mr0 e n a)) (by omega) (by omega) (fun c1 => ?_)
  refine E_aload_n rfl rfl ?_
  refine E_getfield (v := .ref 82) rfl w65 rfl (by decide) rfl ?_
  refine E_iload_n rfl rfl ?_
  refine E_ialN (l := [112, 105, 101, 99, 101, 32, 0, 112, 101, 114, 115, 111, 110, 32, 0, 99, 111, 115, 116, 32, 0, 104, 97, 115, 32, 0, 98, 97, 99, 107, 32, 0, 103, 114, 101, 101, 100, 121, 0, 98, 101, 115, 116, 0]) (v := 112) rfl w82 (by omega) (by omega) rfl ?_
  refine E_if (t := 121) (b := false) rfl rfl (by decide) ?_
  refine E_iinc (y := nI 8) (L2 := [some (.ref 65), some (.int (nI 8)), some (.int (nI (max (max a (a + mr0 e n a)) (a + mr1 e n a)))), some (.int (nI 1)), some (.int (nI (a + mr1 e n a))), some (.int c1)]) rfl rfl (by decide) rfl ?_
  refine E_goto (t := 106) rfl rfl ?_
  refine E_aload_n rfl rfl ?_
  refine E_getfield (v := .ref 82) rfl w65 rfl (by decide) rfl ?_
  refine E_iload_n rfl rfl ?_
  refine E_ialN (l := [112, 105, 101, 99, 101, 32, 0, 112, 101, 114, 115, 111, 110, 32, 0, 99, 111, 115, 116, 32, 0, 104, 97, 115, 32, 0, 98, 97, 99, 107, 32, 0, 103, 114, 101, 101, 100, 121, 0, 98, 101, 115, 116, 0]) (v := 101) rfl w82 (by omega) (by omega) rfl ?_
  refine E_if (t := 121) (b := false) rfl rfl (by decide) ?_
  refine E_iinc (y := nI 9) (L2 := [some (.ref 65), some (.int (nI 9)), some (.int (nI (max (max a (a + mr0 e n a)) (a + mr1 e n a)))), some (.int (nI 1)), some (.int (nI (a + mr1 e n a))), some (.int c1)]) rfl rfl (by decide) rfl ?_
  refine E_goto (t := 106) rfl rfl ?_
  refine E_aload_n rfl rfl ?_
  refine E_getfield (v := .ref 82) rfl w65 rfl (by decide) rfl ?_
  refine E_iload_n rfl rfl ?_
  refine E_ialN (l := [112, 105, 101, 99, 101, 32, 0, 112, 101, 114, 115, 111, 110, 32, 0, 99, 111, 115, 116, 32, 0, 104, 97, 115, 32, 0, 98, 97, 99, 107, 32, 0, 103, 114, 101, 101, 100, 121, 0, 98, 101, 115, 116, 0]) (v := 114) rfl w82 (by omega) (by omega) rfl ?_
  refine E_if (t := 121) (b := false) rfl rfl (by decide) ?_
  refine E_iinc (y := nI 10) (L2 := [some (.ref 65), some (.int (nI 10)), some (.int (nI (max (max a (a + mr0 e n a)) (a + mr1 e n a)))), some (.int (nI 1)), some (.int (nI (a + mr1 e n a))), some (.int c1)]) rfl rfl (by decide) rfl ?_
  refine E_goto (t := 106) rfl rfl ?_
  refine E_aload_n rfl rfl ?_
  refine E_getfield (v := .ref 82) rfl w65 rfl (by decide) rfl ?_
  refine E_iload_n rfl rfl ?_
  refine E_ialN (l := [112, 105, 101, 99, 101, 32, 0, 112, 101, 114, 115, 111, 110, 32, 0, 99, 111, 115, 116, 32, 0, 104, 97, 115, 32, 0, 98, 97, 99, 107, 32, 0, 103, 114, 101, 101, 100, 121, 0, 98, 101, 115, 116, 0]) (v := 115) rfl w82 (by omega) (by omega) rfl ?_
  refine E_if (t := 121) (b := false) rfl rfl (by decide) ?_
  refine E_iinc (y := nI 11) (L2 := [some (.ref 65), some (.int (nI 11)), some (.int (nI (max (max a (a + mr0 e n a)) (a + mr1 e n a)))), some (.int (nI 1)), some (.int (nI (a + mr1 e n a))), some (.int c1)]) rfl rfl (by decide) rfl ?_
  refine E_goto (t := 106) rfl rfl ?_
  refine E_aload_n rfl rfl ?_
  refine E_getfield (v := .ref 82) rfl w65 rfl (by decide) rfl ?_
  refine E_iload_n rfl rfl ?_
  refine E_ialN (l := [112, 105, 101, 99, 101, 32, 0, 112, 101, 114, 115, 111, 110, 32, 0, 99, 111, 115, 116, 32, 0, 104, 97, 115, 32, 0, 98, 97, 99, 107, 32, 0, 103, 114, 101, 101, 100, 121, 0, 98, 101, 115, 116, 0]) (v := 111) rfl w82 (by omega) (by omega) rfl ?_
  refine E_if (t := 121) (b := false) rfl rfl (by decide) ?_
  refine E_iinc (y := nI 12) (L2 := [some (.ref 65), some (.int (nI 12)), some (.int (nI (max (max a (a + mr0 e n a)) (a + mr1 e n a)))), some (.int (nI 1)), some (.int (nI (a + mr1 e n a))), some (.int c1)]) rfl rfl (by decide) rfl ?_
  refine E_goto (t := 106) rfl rfl ?_
  refine E_aload_n rfl rfl ?_
  refine E_getfield (v := .ref 82) rfl w65 rfl (by decide) rfl ?_
  refine E_iload_n rfl rfl ?_
  refine E_ialN (l := [112, 105, 101, 99, 101, 32, 0, 112, 101, 114, 115, 111, 110, 32, 0, 99, 111, 115, 116, 32, 0, 104, 97, 115, 32, 0, 98, 97, 99, 107, 32, 0, 103, 114, 101, 101, 100, 121, 0, 98, 101, 115, 116, 0]) (v := 110) rfl w82 (by omega) (by omega) rfl ?_
  refine E_if (t := 121) (b := false) rfl rfl (by decide) ?_
  refine E_iinc (y := nI 13) (L2 := [some (.ref 65), some (.int (nI 13)), some (.int (nI (max (max a (a + mr0 e n a)) (a + mr1 e n a)))), some (.int (nI 1)), some (.int (nI (a + mr1 e n a))), some (.int c1)]) rfl rfl (by decide) rfl ?_
  refine E_goto (t := 106) rfl rfl ?_
  refine E_aload_n rfl rfl ?_
  refine E_getfield (v := .ref 82) rfl w65 rfl (by decide) rfl ?_
  refine E_iload_n rfl rfl ?_
  refine E_ialN (l := [112, 105, 101, 99, 101, 32, 0, 112, 101, 114, 115, 111, 110, 32, 0, 99, 111, 115, 116, 32, 0, 104, 97, 115, 32, 0, 98, 97, 99, 107, 32, 0, 103, 114, 101, 101, 100, 121, 0, 98, 101, 115, 116, 0]) (v := 32) rfl w82 (by omega) (by omega) rfl ?_
  refine E_if (t := 121) (b := false) rfl rfl (by decide) ?_
  refine E_iinc (y := nI 14) (L2 := [some (.ref 65), some (.int (nI 14)), some (.int (nI (max (max a (a + mr0 e n a)) (a + mr1 e n a)))), some (.int (nI 1)), some (.int (nI (a + mr1 e n a))), some (.int c1)]) rfl rfl (by decide) rfl ?_
  refine E_goto (t := 106) rfl rfl ?_
  refine E_aload_n rfl rfl ?_
  refine E_getfield (v := .ref 82) rfl w65 rfl (by decide) rfl ?_
  refine E_iload_n rfl rfl ?_
  refine E_ialN (l := [112, 105, 101, 99, 101, 32, 0, 112, 101, 114, 115, 111, 110, 32, 0, 99, 111, 115, 116, 32, 0, 104, 97, 115, 32, 0, 98, 97, 99, 107, 32, 0, 103, 114, 101, 101, 100, 121, 0, 98, 101, 115, 116, 0]) (v := 0) rfl w82 (by omega) (by omega) rfl ?_
  refine E_if (t := 121) (b := true) rfl rfl (by decide) ?_
  refine E_iinc (y := nI 15) (L2 := [some (.ref 65), some (.int (nI 15)), some (.int (nI (max (max a (a + mr0 e n a)) (a + mr1 e n a)))), some (.int (nI 1)), some (.int (nI (a + mr1 e n a))), some (.int c1)]) rfl rfl (by decide) rfl ?_
  refine E_iinc (y := nI 2) (L2 := [some (.ref 65), some (.int (nI 15)), some (.int (nI (max (max a (a + mr0 e n a)) (a + mr1 e n a)))), some (.int (nI 2)), some (.int (nI (a + mr1 e n a))), some (.int c1)]) rfl rfl (by decide) rfl ?_
  refine E_goto (t := 9) rfl rfl ?_
  refine E_iload_n rfl rfl ?_
  refine E_bipush (x := nI 7) rfl (by decide) ?_
  refine E_ic (t := 130) (b := false) rfl rfl (by decide) ?_
  refine E_aload_n rfl rfl ?_
  refine E_getfield (v := .int (nI a)) rfl w65 rfl (by decide) rfl ?_
  refine E_istore (L2 := [some (.ref 65), some (.int (nI 15)), some (.int (nI (max (max a (a + mr0 e n a)) (a + mr1 e n a)))), some (.int (nI 2)), some (.int (nI a)), some (.int c1)]) rfl rfl ?_
  refine E_iload_n rfl rfl ?_
  refine E_istore (L2 := [some (.ref 65), some (.int (nI 15)), some (.int (nI (max (max a (a + mr0 e n a)) (a + mr1 e n a)))), some (.int (nI 2)), some (.int (nI a)), some (.int (nI 15))]) rfl rfl ?_
  refine mw_p2 hj hn ha l_ce hce (f0 := max (max a (a + mr0 e n a)) (a + mr1 e n a)) (by omega) (by omega) (fun c2 => ?_)
  refine E_aload_n rfl rfl ?_
  refine E_getfield (v := .ref 82) rfl w65 rfl (by decide) rfl ?_
  refine E_iload_n rfl rfl ?_
  refine E_ialN (l := [112, 105, 101, 99, 101, 32, 0, 112, 101, 114, 115, 111, 110, 32, 0, 99, 111, 115, 116, 32, 0, 104, 97, 115, 32, 0, 98, 97, 99, 107, 32, 0, 103, 114, 101, 101, 100, 121, 0, 98, 101, 115, 116, 0]) (v := 99) rfl w82 (by omega) (by omega) rfl ?_
  refine E_if (t := 121) (b := false) rfl rfl (by decide) ?_
  refine E_iinc (y := nI 16) (L2 := [some (.ref 65), some (.int (nI 16)), some (.int (nI (max (max (max a (a + mr0 e n a)) (a + mr1 e n a)) (a + mr2 e n a)))), some (.int (nI 2)), some (.int (nI (a + mr2 e n a))), some (.int c2)]) rfl rfl (by decide) rfl ?_
  refine E_goto (t := 106) rfl rfl ?_
  refine E_aload_n rfl rfl ?_
  refine E_getfield (v := .ref 82) rfl w65 rfl (by decide) rfl ?_
  refine E_iload_n rfl rfl ?_
  refine E_ialN (l := [112, 105, 101, 99, 101, 32, 0, 112, 101, 114, 115, 111, 110, 32, 0, 99, 111, 115, 116, 32, 0, 104, 97, 115, 32, 0, 98, 97, 99, 107, 32, 0, 103, 114, 101, 101, 100, 121, 0, 98, 101, 115, 116, 0]) (v := 111) rfl w82 (by omega) (by omega) rfl ?_
  refine E_if (t := 121) (b := false) rfl rfl (by decide) ?_
  refine E_iinc (y := nI 17) (L2 := [some (.ref 65), some (.int (nI 17)), some (.int (nI (max (max (max a (a + mr0 e n a)) (a + mr1 e n a)) (a + mr2 e n a)))), some (.int (nI 2)), some (.int (nI (a + mr2 e n a))), some (.int c2)]) rfl rfl (by decide) rfl ?_
  refine E_goto (t := 106) rfl rfl ?_
  refine E_aload_n rfl rfl ?_
  refine E_getfield (v := .ref 82) rfl w65 rfl (by decide) rfl ?_
  refine E_iload_n rfl rfl ?_
  refine E_ialN (l := [112, 105, 101, 99, 101, 32, 0, 112, 101, 114, 115, 111, 110, 32, 0, 99, 111, 115, 116, 32, 0, 104, 97, 115, 32, 0, 98, 97, 99, 107, 32, 0, 103, 114, 101, 101, 100, 121, 0, 98, 101, 115, 116, 0]) (v := 115) rfl w82 (by omega) (by omega) rfl ?_
  refine E_if (t := 121) (b := false) rfl rfl (by decide) ?_
  refine E_iinc (y := nI 18) (L2 := [some (.ref 65), some (.int (nI 18)), some (.int (nI (max (max (max a (a + mr0 e n a)) (a + mr1 e n a)) (a + mr2 e n a)))), some (.int (nI 2)), some (.int (nI (a + mr2 e n a))), some (.int c2)]) rfl rfl (by decide) rfl ?_
  refine E_goto (t := 106) rfl rfl ?_
  refine E_aload_n rfl rfl ?_
  refine E_getfield (v := .ref 82) rfl w65 rfl (by decide) rfl ?_
  refine E_iload_n rfl rfl ?_
  refine E_ialN (l := [112, 105, 101, 99, 101, 32, 0, 112, 101, 114, 115, 111, 110, 32, 0, 99, 111, 115, 116, 32, 0, 104, 97, 115, 32, 0, 98, 97, 99, 107, 32, 0, 103, 114, 101, 101, 100, 121, 0, 98, 101, 115, 116, 0]) (v := 116) rfl w82 (by omega) (by omega) rfl ?_
  refine E_if (t := 121) (b := false) rfl rfl (by decide) ?_
  refine E_iinc (y := nI 19) (L2 := [some (.ref 65), some (.int (nI 19)), some (.int (nI (max (max (max a (a + mr0 e n a)) (a + mr1 e n a)) (a + mr2 e n a)))), some (.int (nI 2)), some (.int (nI (a + mr2 e n a))), some (.int c2)]) rfl rfl (by decide) rfl ?_
  refine E_goto (t := 106) rfl rfl ?_
  refine E_aload_n rfl rfl ?_
  refine E_getfield (v := .ref 82) rfl w65 rfl (by decide) rfl ?_
  refine E_iload_n rfl rfl ?_
  refine E_ialN (l := [112, 105, 101, 99, 101, 32, 0, 112, 101, 114, 115, 111, 110, 32, 0, 99, 111, 115, 116, 32, 0, 104, 97, 115, 32, 0, 98, 97, 99, 107, 32, 0, 103, 114, 101, 101, 100, 121, 0, 98, 101, 115, 116, 0]) (v := 32) rfl w82 (by omega) (by omega) rfl ?_
  refine E_if (t := 121) (b := false) rfl rfl (by decide) ?_
  refine E_iinc (y := nI 20) (L2 := [some (.ref 65), some (.int (nI 20)), some (.int (nI (max (max (max a (a + mr0 e n a)) (a + mr1 e n a)) (a + mr2 e n a)))), some (.int (nI 2)), some (.int (nI (a + mr2 e n a))), some (.int c2)]) rfl rfl (by decide) rfl ?_
  refine E_goto (t := 106) rfl rfl ?_
  refine E_aload_n rfl rfl ?_
  refine E_getfield (v := .ref 82) rfl w65 rfl (by decide) rfl ?_
  refine E_iload_n rfl rfl ?_
  refine E_ialN (l := [112, 105, 101, 99, 101, 32, 0, 112, 101, 114, 115, 111, 110, 32, 0, 99, 111, 115, 116, 32, 0, 104, 97, 115, 32, 0, 98, 97, 99, 107, 32, 0, 103, 114, 101, 101, 100, 121, 0, 98, 101, 115, 116, 0]) (v := 0) rfl w82 (by omega) (by omega) rfl ?_
  refine E_if (t := 121) (b := true) rfl rfl (by decide) ?_
  refine E_iinc (y := nI 21) (L2 := [some (.ref 65), some (.int (nI 21)), some (.int (nI (max (max (max a (a + mr0 e n a)) (a + mr1 e n a)) (a + mr2 e n a)))), some (.int (nI 2)), some (.int (nI (a + mr2 e n a))), some (.int c2)]) rfl rfl (by decide) rfl ?_
  refine E_iinc (y := nI 3) (L2 := [some (.ref 65), some (.int (nI 21)), some (.int (nI (max (max (max a (a + mr0 e n a)) (a + mr1 e n a)) (a + mr2 e n a)))), some (.int (nI 3)), some (.int (nI (a + mr2 e n a))), some (.int c2)]) rfl rfl (by decide) rfl ?_
  refine E_goto (t := 9) rfl rfl ?_
  refine E_iload_n rfl rfl ?_
  refine E_bipush (x := nI 7) rfl (by decide) ?_
  refine E_ic (t := 130) (b := false) rfl rfl (by decide) ?_
  refine E_aload_n rfl rfl ?_
  refine E_getfield (v := .int (nI a)) rfl w65 rfl (by decide) rfl ?_
  refine E_istore (L2 := [some (.ref 65), some (.int (nI 21)), some (.int (nI (max (max (max a (a + mr0 e n a)) (a + mr1 e n a)) (a + mr2 e n a)))), some (.int (nI 3)), some (.int (nI a)), some (.int c2)]) rfl rfl ?_
  refine E_iload_n rfl rfl ?_
  refine E_istore (L2 := [some (.ref 65), some (.int (nI 21)), some (.int (nI (max (max (max a (a + mr0 e n a)) (a + mr1 e n a)) (a + mr2 e n a)))), some (.int (nI 3)), some (.int (nI a)), some (.int (nI 21))]) rfl rfl ?_
  refine mw_p3 hj hn ha l_ce hce (f0 := max (max (max a (a + mr0 e n a)) (a + mr1 e n a)) (a + mr2 e n a)) (by omega) (by omega) (fun c3 => ?_)
  refine E_aload_n rfl rfl ?_
  refine E_getfield (v := .ref 82) rfl w65 rfl (by decide) rfl ?_
  refine E_iload_n rfl rfl ?_
  refine E_ialN (l := [112, 105, 101, 99, 101, 32, 0, 112, 101, 114, 115, 111, 110, 32, 0, 99, 111, 115, 116, 32, 0, 104, 97, 115, 32, 0, 98, 97, 99, 107, 32, 0, 103, 114, 101, 101, 100, 121, 0, 98, 101, 115, 116, 0]) (v := 104) rfl w82 (by omega) (by omega) rfl ?_
  refine E_if (t := 121) (b := false) rfl rfl (by decide) ?_
  refine E_iinc (y := nI 22) (L2 := [some (.ref 65), some (.int (nI 22)), some (.int (nI (max (max (max (max a (a + mr0 e n a)) (a + mr1 e n a)) (a + mr2 e n a)) (a + mr3 e n a)))), some (.int (nI 3)), some (.int (nI (a + mr3 e n a))), some (.int c3)]) rfl rfl (by decide) rfl ?_
  refine E_goto (t := 106) rfl rfl ?_
  refine E_aload_n rfl rfl ?_
  refine E_getfield (v := .ref 82) rfl w65 rfl (by decide) rfl ?_
  refine E_iload_n rfl rfl ?_
  refine E_ialN (l := [112, 105, 101, 99, 101, 32, 0, 112, 101, 114, 115, 111, 110, 32, 0, 99, 111, 115, 116, 32, 0, 104, 97, 115, 32, 0, 98, 97, 99, 107, 32, 0, 103, 114, 101, 101, 100, 121, 0, 98, 101, 115, 116, 0]) (v := 97) rfl w82 (by omega) (by omega) rfl ?_
  refine E_if (t := 121) (b := false) rfl rfl (by decide) ?_
  refine E_iinc (y := nI 23) (L2 := [some (.ref 65), some (.int (nI 23)), some (.int (nI (max (max (max (max a (a + mr0 e n a)) (a + mr1 e n a)) (a + mr2 e n a)) (a + mr3 e n a)))), some (.int (nI 3)), some (.int (nI (a + mr3 e n a))), some (.int c3)]) rfl rfl (by decide) rfl ?_
  refine E_goto (t := 106) rfl rfl ?_
  refine E_aload_n rfl rfl ?_
  refine E_getfield (v := .ref 82) rfl w65 rfl (by decide) rfl ?_
  refine E_iload_n rfl rfl ?_
  refine E_ialN (l := [112, 105, 101, 99, 101, 32, 0, 112, 101, 114, 115, 111, 110, 32, 0, 99, 111, 115, 116, 32, 0, 104, 97, 115, 32, 0, 98, 97, 99, 107, 32, 0, 103, 114, 101, 101, 100, 121, 0, 98, 101, 115, 116, 0]) (v := 115) rfl w82 (by omega) (by omega) rfl ?_
  refine E_if (t := 121) (b := false) rfl rfl (by decide) ?_
  refine E_iinc (y := nI 24) (L2 := [some (.ref 65), some (.int (nI 24)), some (.int (nI (max (max (max (max a (a + mr0 e n a)) (a + mr1 e n a)) (a + mr2 e n a)) (a + mr3 e n a)))), some (.int (nI 3)), some (.int (nI (a + mr3 e n a))), some (.int c3)]) rfl rfl (by decide) rfl ?_
  refine E_goto (t := 106) rfl rfl ?_
  refine E_aload_n rfl rfl ?_
  refine E_getfield (v := .ref 82) rfl w65 rfl (by decide) rfl ?_
  refine E_iload_n rfl rfl ?_
  refine E_ialN (l := [112, 105, 101, 99, 101, 32, 0, 112, 101, 114, 115, 111, 110, 32, 0, 99, 111, 115, 116, 32, 0, 104, 97, 115, 32, 0, 98, 97, 99, 107, 32, 0, 103, 114, 101, 101, 100, 121, 0, 98, 101, 115, 116, 0]) (v := 32) rfl w82 (by omega) (by omega) rfl ?_
  refine E_if (t := 121) (b := false) rfl rfl (by decide) ?_
  refine E_iinc (y := nI 25) (L2 := [some (.ref 65), some (.int (nI 25)), some (.int (nI (max (max (max (max a (a + mr0 e n a)) (a + mr1 e n a)) (a + mr2 e n a)) (a + mr3 e n a)))), some (.int (nI 3)), some (.int (nI (a + mr3 e n a))), some (.int c3)]) rfl rfl (by decide) rfl ?_
  refine E_goto (t := 106) rfl rfl ?_
  refine E_aload_n rfl rfl ?_
  refine E_getfield (v := .ref 82) rfl w65 rfl (by decide) rfl ?_
  refine E_iload_n rfl rfl ?_
  refine E_ialN (l := [112, 105, 101, 99, 101, 32, 0, 112, 101, 114, 115, 111, 110, 32, 0, 99, 111, 115, 116, 32, 0, 104, 97, 115, 32, 0, 98, 97, 99, 107, 32, 0, 103, 114, 101, 101, 100, 121, 0, 98, 101, 115, 116, 0]) (v := 0) rfl w82 (by omega) (by omega) rfl ?_
  refine E_if (t := 121) (b := true) rfl rfl (by decide) ?_
  refine E_iinc (y := nI 26) (L2 := [some (.ref 65), some (.int (nI 26)), some (.int (nI (max (max (max (max a (a + mr0 e n a)) (a + mr1 e n a)) (a + mr2 e n a)) (a + mr3 e n a)))), some (.int (nI 3)), some (.int (nI (a + mr3 e n a))), some (.int c3)]) rfl rfl (by decide) rfl ?_
  refine E_iinc (y := nI 4) (L2 := [some (.ref 65), some (.int (nI 26)), some (.int (nI (max (max (max (max a (a + mr0 e n a)) (a + mr1 e n a)) (a + mr2 e n a)) (a + mr3 e n a)))), some (.int (nI 4)), some (.int (nI (a + mr3 e n a))), some (.int c3)]) rfl rfl (by decide) rfl ?_
  refine E_goto (t := 9) rfl rfl ?_
  refine E_iload_n rfl rfl ?_
  refine E_bipush (x := nI 7) rfl (by decide) ?_
  refine E_ic (t := 130) (b := false) rfl rfl (by decide) ?_
  refine E_aload_n rfl rfl ?_
  refine E_getfield (v := .int (nI a)) rfl w65 rfl (by decide) rfl ?_
  refine E_istore (L2 := [some (.ref 65), some (.int (nI 26)), some (.int (nI (max (max (max (max a (a + mr0 e n a)) (a + mr1 e n a)) (a + mr2 e n a)) (a + mr3 e n a)))), some (.int (nI 4)), some (.int (nI a)), some (.int c3)]) rfl rfl ?_
  refine E_iload_n rfl rfl ?_
  refine E_istore (L2 := [some (.ref 65), some (.int (nI 26)), some (.int (nI (max (max (max (max a (a + mr0 e n a)) (a + mr1 e n a)) (a + mr2 e n a)) (a + mr3 e n a)))), some (.int (nI 4)), some (.int (nI a)), some (.int (nI 26))]) rfl rfl ?_
  refine mw_p4 hj hn ha l_ce hce (f0 := max (max (max (max a (a + mr0 e n a)) (a + mr1 e n a)) (a + mr2 e n a)) (a + mr3 e n a)) (by omega) (by omega) (fun c4 => ?_)
  refine E_aload_n rfl rfl ?_
  refine E_getfield (v := .ref 82) rfl w65 rfl (by decide) rfl ?_
  refine E_iload_n rfl rfl ?_
  refine E_ialN (l := [112, 105, 101, 99, 101, 32, 0, 112, 101, 114, 115, 111, 110, 32, 0, 99, 111, 115, 116, 32, 0, 104, 97, 115, 32, 0, 98, 97, 99, 107, 32, 0, 103, 114, 101, 101, 100, 121, 0, 98, 101, 115, 116, 0]) (v := 98) rfl w82 (by omega) (by omega) rfl ?_
  refine E_if (t := 121) (b := false) rfl rfl (by decide) ?_
  refine E_iinc (y := nI 27) (L2 := [some (.ref 65), some (.int (nI 27)), some (.int (nI (max (max (max (max (max a (a + mr0 e n a)) (a + mr1 e n a)) (a + mr2 e n a)) (a + mr3 e n a)) (a + mr4 e n a)))), some (.int (nI 4)), some (.int (nI (a + mr4 e n a))), some (.int c4)]) rfl rfl (by decide) rfl ?_
  refine E_goto (t := 106) rfl rfl ?_
  refine E_aload_n rfl rfl ?_
  refine E_getfield (v := .ref 82) rfl w65 rfl (by decide) rfl ?_
  refine E_iload_n rfl rfl ?_
  refine E_ialN (l := [112, 105, 101, 99, 101, 32, 0, 112, 101, 114, 115, 111, 110, 32, 0, 99, 111, 115, 116, 32, 0, 104, 97, 115, 32, 0, 98, 97, 99, 107, 32, 0, 103, 114, 101, 101, 100, 121, 0, 98, 101, 115, 116, 0]) (v := 97) rfl w82 (by omega) (by omega) rfl ?_
  refine E_if (t := 121) (b := false) rfl rfl (by decide) ?_
  refine E_iinc (y := nI 28) (L2 := [some (.ref 65), some (.int (nI 28)), some (.int (nI (max (max (max (max (max a (a + mr0 e n a)) (a + mr1 e n a)) (a + mr2 e n a)) (a + mr3 e n a)) (a + mr4 e n a)))), some (.int (nI 4)), some (.int (nI (a + mr4 e n a))), some (.int c4)]) rfl rfl (by decide) rfl ?_
  refine E_goto (t := 106) rfl rfl ?_
  refine E_aload_n rfl rfl ?_
  refine E_getfield (v := .ref 82) rfl w65 rfl (by decide) rfl ?_
  refine E_iload_n rfl rfl ?_
  refine E_ialN (l := [112, 105, 101, 99, 101, 32, 0, 112, 101, 114, 115, 111, 110, 32, 0, 99, 111, 115, 116, 32, 0, 104, 97, 115, 32, 0, 98, 97, 99, 107, 32, 0, 103, 114, 101, 101, 100, 121, 0, 98, 101, 115, 116, 0]) (v := 99) rfl w82 (by omega) (by omega) rfl ?_
  refine E_if (t := 121) (b := false) rfl rfl (by decide) ?_
  refine E_iinc (y := nI 29) (L2 := [some (.ref 65), some (.int (nI 29)), some (.int (nI (max (max (max (max (max a (a + mr0 e n a)) (a + mr1 e n a)) (a + mr2 e n a)) (a + mr3 e n a)) (a + mr4 e n a)))), some (.int (nI 4)), some (.int (nI (a + mr4 e n a))), some (.int c4)]) rfl rfl (by decide) rfl ?_
  refine E_goto (t := 106) rfl rfl ?_
  refine E_aload_n rfl rfl ?_
  refine E_getfield (v := .ref 82) rfl w65 rfl (by decide) rfl ?_
  refine E_iload_n rfl rfl ?_
  refine E_ialN (l := [112, 105, 101, 99, 101, 32, 0, 112, 101, 114, 115, 111, 110, 32, 0, 99, 111, 115, 116, 32, 0, 104, 97, 115, 32, 0, 98, 97, 99, 107, 32, 0, 103, 114, 101, 101, 100, 121, 0, 98, 101, 115, 116, 0]) (v := 107) rfl w82 (by omega) (by omega) rfl ?_
  refine E_if (t := 121) (b := false) rfl rfl (by decide) ?_
  refine E_iinc (y := nI 30) (L2 := [some (.ref 65), some (.int (nI 30)), some (.int (nI (max (max (max (max (max a (a + mr0 e n a)) (a + mr1 e n a)) (a + mr2 e n a)) (a + mr3 e n a)) (a + mr4 e n a)))), some (.int (nI 4)), some (.int (nI (a + mr4 e n a))), some (.int c4)]) rfl rfl (by decide) rfl ?_
  refine E_goto (t := 106) rfl rfl ?_
  refine E_aload_n rfl rfl ?_
  refine E_getfield (v := .ref 82) rfl w65 rfl (by decide) rfl ?_
  refine E_iload_n rfl rfl ?_
  refine E_ialN (l := [112, 105, 101, 99, 101, 32, 0, 112, 101, 114, 115, 111, 110, 32, 0, 99, 111, 115, 116, 32, 0, 104, 97, 115, 32, 0, 98, 97, 99, 107, 32, 0, 103, 114, 101, 101, 100, 121, 0, 98, 101, 115, 116, 0]) (v := 32) rfl w82 (by omega) (by omega) rfl ?_
  refine E_if (t := 121) (b := false) rfl rfl (by decide) ?_
  refine E_iinc (y := nI 31) (L2 := [some (.ref 65), some (.int (nI 31)), some (.int (nI (max (max (max (max (max a (a + mr0 e n a)) (a + mr1 e n a)) (a + mr2 e n a)) (a + mr3 e n a)) (a + mr4 e n a)))), some (.int (nI 4)), some (.int (nI (a + mr4 e n a))), some (.int c4)]) rfl rfl (by decide) rfl ?_
  refine E_goto (t := 106) rfl rfl ?_
  refine E_aload_n rfl rfl ?_
  refine E_getfield (v := .ref 82) rfl w65 rfl (by decide) rfl ?_
  refine E_iload_n rfl rfl ?_
  refine E_ialN (l := [112, 105, 101, 99, 101, 32, 0, 112, 101, 114, 115, 111, 110, 32, 0, 99, 111, 115, 116, 32, 0, 104, 97, 115, 32, 0, 98, 97, 99, 107, 32, 0, 103, 114, 101, 101, 100, 121, 0, 98, 101, 115, 116, 0]) (v := 0) rfl w82 (by omega) (by omega) rfl ?_
  refine E_if (t := 121) (b := true) rfl rfl (by decide) ?_
  refine E_iinc (y := nI 32) (L2 := [some (.ref 65), some (.int (nI 32)), some (.int (nI (max (max (max (max (max a (a + mr0 e n a)) (a + mr1 e n a)) (a + mr2 e n a)) (a + mr3 e n a)) (a + mr4 e n a)))), some (.int (nI 4)), some (.int (nI (a + mr4 e n a))), some (.int c4)]) rfl rfl (by decide) rfl ?_
  refine E_iinc (y := nI 5) (L2 := [some (.ref 65), some (.int (nI 32)), some (.int (nI (max (max (max (max (max a (a + mr0 e n a)) (a + mr1 e n a)) (a + mr2 e n a)) (a + mr3 e n a)) (a + mr4 e n a)))), some (.int (nI 5)), some (.int (nI (a + mr4 e n a))), some (.int c4)]) rfl rfl (by decide) rfl ?_
  refine E_goto (t := 9) rfl rfl ?_
  refine E_iload_n rfl rfl ?_
  refine E_bipush (x := nI 7) rfl (by decide) ?_
  refine E_ic (t := 130) (b := false) rfl rfl (by decide) ?_
  refine E_aload_n rfl rfl ?_
  refine E_getfield (v := .int (nI a)) rfl w65 rfl (by decide) rfl ?_
  refine E_istore (L2 := [some (.ref 65), some (.int (nI 32)), some (.int (nI (max (max (max (max (max a (a + mr0 e n a)) (a + mr1 e n a)) (a + mr2 e n a)) (a + mr3 e n a)) (a + mr4 e n a)))), some (.int (nI 5)), some (.int (nI a)), some (.int c4)]) rfl rfl ?_
  refine E_iload_n rfl rfl ?_
  refine E_istore (L2 := [some (.ref 65), some (.int (nI 32)), some (.int (nI (max (max (max (max (max a (a + mr0 e n a)) (a + mr1 e n a)) (a + mr2 e n a)) (a + mr3 e n a)) (a + mr4 e n a)))), some (.int (nI 5)), some (.int (nI a)), some (.int (nI 32))]) rfl rfl ?_
  refine mw_p5 hj hn ha l_ce hce (f0 := max (max (max (max (max a (a + mr0 e n a)) (a + mr1 e n a)) (a + mr2 e n a)) (a + mr3 e n a)) (a + mr4 e n a)) (by omega) (by omega) (fun c5 => ?_)
  refine E_aload_n rfl rfl ?_
  refine E_getfield (v := .ref 82) rfl w65 rfl (by decide) rfl ?_
  refine E_iload_n rfl rfl ?_
  refine E_ialN (l := [112, 105, 101, 99, 101, 32, 0, 112, 101, 114, 115, 111, 110, 32, 0, 99, 111, 115, 116, 32, 0, 104, 97, 115, 32, 0, 98, 97, 99, 107, 32, 0, 103, 114, 101, 101, 100, 121, 0, 98, 101, 115, 116, 0]) (v := 103) rfl w82 (by omega) (by omega) rfl ?_
  refine E_if (t := 121) (b := false) rfl rfl (by decide) ?_
  refine E_iinc (y := nI 33) (L2 := [some (.ref 65), some (.int (nI 33)), some (.int (nI (max (max (max (max (max (max a (a + mr0 e n a)) (a + mr1 e n a)) (a + mr2 e n a)) (a + mr3 e n a)) (a + mr4 e n a)) (a + mr5 e n a)))), some (.int (nI 5)), some (.int (nI (a + mr5 e n a))), some (.int c5)]) rfl rfl (by decide) rfl ?_
  refine E_goto (t := 106) rfl rfl ?_
  refine E_aload_n rfl rfl ?_
  refine E_getfield (v := .ref 82) rfl w65 rfl (by decide) rfl ?_
  refine E_iload_n rfl rfl ?_
  refine E_ialN (l := [112, 105, 101, 99, 101, 32, 0, 112, 101, 114, 115, 111, 110, 32, 0, 99, 111, 115, 116, 32, 0, 104, 97, 115, 32, 0, 98, 97, 99, 107, 32, 0, 103, 114, 101, 101, 100, 121, 0, 98, 101, 115, 116, 0]) (v := 114) rfl w82 (by omega) (by omega) rfl ?_
  refine E_if (t := 121) (b := false) rfl rfl (by decide) ?_
  refine E_iinc (y := nI 34) (L2 := [some (.ref 65), some (.int (nI 34)), some (.int (nI (max (max (max (max (max (max a (a + mr0 e n a)) (a + mr1 e n a)) (a + mr2 e n a)) (a + mr3 e n a)) (a + mr4 e n a)) (a + mr5 e n a)))), some (.int (nI 5)), some (.int (nI (a + mr5 e n a))), some (.int c5)]) rfl rfl (by decide) rfl ?_
  refine E_goto (t := 106) rfl rfl ?_
  refine E_aload_n rfl rfl ?_
  refine E_getfield (v := .ref 82) rfl w65 rfl (by decide) rfl ?_
  refine E_iload_n rfl rfl ?_
  refine E_ialN (l := [112, 105, 101, 99, 101, 32, 0, 112, 101, 114, 115, 111, 110, 32, 0, 99, 111, 115, 116, 32, 0, 104, 97, 115, 32, 0, 98, 97, 99, 107, 32, 0, 103, 114, 101, 101, 100, 121, 0, 98, 101, 115, 116, 0]) (v := 101) rfl w82 (by omega) (by omega) rfl ?_
  refine E_if (t := 121) (b := false) rfl rfl (by decide) ?_
  refine E_iinc (y := nI 35) (L2 := [some (.ref 65), some (.int (nI 35)), some (.int (nI (max (max (max (max (max (max a (a + mr0 e n a)) (a + mr1 e n a)) (a + mr2 e n a)) (a + mr3 e n a)) (a + mr4 e n a)) (a + mr5 e n a)))), some (.int (nI 5)), some (.int (nI (a + mr5 e n a))), some (.int c5)]) rfl rfl (by decide) rfl ?_
  refine E_goto (t := 106) rfl rfl ?_
  refine E_aload_n rfl rfl ?_
  refine E_getfield (v := .ref 82) rfl w65 rfl (by decide) rfl ?_
  refine E_iload_n rfl rfl ?_
  refine E_ialN (l := [112, 105, 101, 99, 101, 32, 0, 112, 101, 114, 115, 111, 110, 32, 0, 99, 111, 115, 116, 32, 0, 104, 97, 115, 32, 0, 98, 97, 99, 107, 32, 0, 103, 114, 101, 101, 100, 121, 0, 98, 101, 115, 116, 0]) (v := 101) rfl w82 (by omega) (by omega) rfl ?_
  refine E_if (t := 121) (b := false) rfl rfl (by decide) ?_
  refine E_iinc (y := nI 36) (L2 := [some (.ref 65), some (.int (nI 36)), some (.int (nI (max (max (max (max (max (max a (a + mr0 e n a)) (a + mr1 e n a)) (a + mr2 e n a)) (a + mr3 e n a)) (a + mr4 e n a)) (a + mr5 e n a)))), some (.int (nI 5)), some (.int (nI (a + mr5 e n a))), some (.int c5)]) rfl rfl (by decide) rfl ?_
  refine E_goto (t := 106) rfl rfl ?_
  refine E_aload_n rfl rfl ?_
  refine E_getfield (v := .ref 82) rfl w65 rfl (by decide) rfl ?_
  refine E_iload_n rfl rfl ?_
  refine E_ialN (l := [112, 105, 101, 99, 101, 32, 0, 112, 101, 114, 115, 111, 110, 32, 0, 99, 111, 115, 116, 32, 0, 104, 97, 115, 32, 0, 98, 97, 99, 107, 32, 0, 103, 114, 101, 101, 100, 121, 0, 98, 101, 115, 116, 0]) (v := 100) rfl w82 (by omega) (by omega) rfl ?_
  refine E_if (t := 121) (b := false) rfl rfl (by decide) ?_
  refine E_iinc (y := nI 37) (L2 := [some (.ref 65), some (.int (nI 37)), some (.int (nI (max (max (max (max (max (max a (a + mr0 e n a)) (a + mr1 e n a)) (a + mr2 e n a)) (a + mr3 e n a)) (a + mr4 e n a)) (a + mr5 e n a)))), some (.int (nI 5)), some (.int (nI (a + mr5 e n a))), some (.int c5)]) rfl rfl (by decide) rfl ?_
  refine E_goto (t := 106) rfl rfl ?_
  refine E_aload_n rfl rfl ?_
  refine E_getfield (v := .ref 82) rfl w65 rfl (by decide) rfl ?_
  refine E_iload_n rfl rfl ?_
  refine E_ialN (l := [112, 105, 101, 99, 101, 32, 0, 112, 101, 114, 115, 111, 110, 32, 0, 99, 111, 115, 116, 32, 0, 104, 97, 115, 32, 0, 98, 97, 99, 107, 32, 0, 103, 114, 101, 101, 100, 121, 0, 98, 101, 115, 116, 0]) (v := 121) rfl w82 (by omega) (by omega) rfl ?_
  refine E_if (t := 121) (b := false) rfl rfl (by decide) ?_
  refine E_iinc (y := nI 38) (L2 := [some (.ref 65), some (.int (nI 38)), some (.int (nI (max (max (max (max (max (max a (a + mr0 e n a)) (a + mr1 e n a)) (a + mr2 e n a)) (a + mr3 e n a)) (a + mr4 e n a)) (a + mr5 e n a)))), some (.int (nI 5)), some (.int (nI (a + mr5 e n a))), some (.int c5)]) rfl rfl (by decide) rfl ?_
  refine E_goto (t := 106) rfl rfl ?_
  refine E_aload_n rfl rfl ?_
  refine E_getfield (v := .ref 82) rfl w65 rfl (by decide) rfl ?_
  refine E_iload_n rfl rfl ?_
  refine E_ialN (l := [112, 105, 101, 99, 101, 32, 0, 112, 101, 114, 115, 111, 110, 32, 0, 99, 111, 115, 116, 32, 0, 104, 97, 115, 32, 0, 98, 97, 99, 107, 32, 0, 103, 114, 101, 101, 100, 121, 0, 98, 101, 115, 116, 0]) (v := 0) rfl w82 (by omega) (by omega) rfl ?_
  refine E_if (t := 121) (b := true) rfl rfl (by decide) ?_
  refine E_iinc (y := nI 39) (L2 := [some (.ref 65), some (.int (nI 39)), some (.int (nI (max (max (max (max (max (max a (a + mr0 e n a)) (a + mr1 e n a)) (a + mr2 e n a)) (a + mr3 e n a)) (a + mr4 e n a)) (a + mr5 e n a)))), some (.int (nI 5)), some (.int (nI (a + mr5 e n a))), some (.int c5)]) rfl rfl (by decide) rfl ?_
  refine E_iinc (y := nI 6) (L2 := [some (.ref 65), some (.int (nI 39)), some (.int (nI (max (max (max (max (max (max a (a + mr0 e n a)) (a + mr1 e n a)) (a + mr2 e n a)) (a + mr3 e n a)) (a + mr4 e n a)) (a + mr5 e n a)))), some (.int (nI 6)), some (.int (nI (a + mr5 e n a))), some (.int c5)]) rfl rfl (by decide) rfl ?_
  refine E_goto (t := 9) rfl rfl ?_
  refine E_iload_n rfl rfl ?_
  refine E_bipush (x := nI 7) rfl (by decide) ?_
  refine E_ic (t := 130) (b := false) rfl rfl (by decide) ?_
  refine E_aload_n rfl rfl ?_
  refine E_getfield (v := .int (nI a)) rfl w65 rfl (by decide) rfl ?_
  refine E_istore (L2 := [some (.ref 65), some (.int (nI 39)), some (.int (nI (max (max (max (max (max (max a (a + mr0 e n a)) (a + mr1 e n a)) (a + mr2 e n a)) (a + mr3 e n a)) (a + mr4 e n a)) (a + mr5 e n a)))), some (.int (nI 6)), some (.int (nI a)), some (.int c5)]) rfl rfl ?_
  refine E_iload_n rfl rfl ?_
  refine E_istore (L2 := [some (.ref 65), some (.int (nI 39)), some (.int (nI (max (max (max (max (max (max a (a + mr0 e n a)) (a + mr1 e n a)) (a + mr2 e n a)) (a + mr3 e n a)) (a + mr4 e n a)) (a + mr5 e n a)))), some (.int (nI 6)), some (.int (nI a)), some (.int (nI 39))]) rfl rfl ?_
  refine mw_p6 hj hn ha l_ce hce (f0 := max (max (max (max (max (max a (a + mr0 e n a)) (a + mr1 e n a)) (a + mr2 e n a)) (a + mr3 e n a)) (a + mr4 e n a)) (a + mr5 e n a)) (by omega) (by omega) (fun c6 => ?_)
  refine E_aload_n rfl rfl ?_
  refine E_getfield (v := .ref 82) rfl w65 rfl (by decide) rfl ?_
  refine E_iload_n rfl rfl ?_
  refine E_ialN (l := [112, 105, 101, 99, 101, 32, 0, 112, 101, 114, 115, 111, 110, 32, 0, 99, 111, 115, 116, 32, 0, 104, 97, 115, 32, 0, 98, 97, 99, 107, 32, 0, 103, 114, 101, 101, 100, 121, 0, 98, 101, 115, 116, 0]) (v := 98) rfl w82 (by omega) (by omega) rfl ?_
  refine E_if (t := 121) (b := false) rfl rfl (by decide) ?_
  refine E_iinc (y := nI 40) (L2 := [some (.ref 65), some (.int (nI 40)), some (.int (nI (max (max (max (max (max (max (max a (a + mr0 e n a)) (a + mr1 e n a)) (a + mr2 e n a)) (a + mr3 e n a)) (a + mr4 e n a)) (a + mr5 e n a)) (a + mr6 e n a)))), some (.int (nI 6)), some (.int (nI (a + mr6 e n a))), some (.int c6)]) rfl rfl (by decide) rfl ?_
  refine E_goto (t := 106) rfl rfl ?_
  refine E_aload_n rfl rfl ?_
  refine E_getfield (v := .ref 82) rfl w65 rfl (by decide) rfl ?_
  refine E_iload_n rfl rfl ?_
  refine E_ialN (l := [112, 105, 101, 99, 101, 32, 0, 112, 101, 114, 115, 111, 110, 32, 0, 99, 111, 115, 116, 32, 0, 104, 97, 115, 32, 0, 98, 97, 99, 107, 32, 0, 103, 114, 101, 101, 100, 121, 0, 98, 101, 115, 116, 0]) (v := 101) rfl w82 (by omega) (by omega) rfl ?_
  refine E_if (t := 121) (b := false) rfl rfl (by decide) ?_
  refine E_iinc (y := nI 41) (L2 := [some (.ref 65), some (.int (nI 41)), some (.int (nI (max (max (max (max (max (max (max a (a + mr0 e n a)) (a + mr1 e n a)) (a + mr2 e n a)) (a + mr3 e n a)) (a + mr4 e n a)) (a + mr5 e n a)) (a + mr6 e n a)))), some (.int (nI 6)), some (.int (nI (a + mr6 e n a))), some (.int c6)]) rfl rfl (by decide) rfl ?_
  refine E_goto (t := 106) rfl rfl ?_
  refine E_aload_n rfl rfl ?_
  refine E_getfield (v := .ref 82) rfl w65 rfl (by decide) rfl ?_
  refine E_iload_n rfl rfl ?_
  refine E_ialN (l := [112, 105, 101, 99, 101, 32, 0, 112, 101, 114, 115, 111, 110, 32, 0, 99, 111, 115, 116, 32, 0, 104, 97, 115, 32, 0, 98, 97, 99, 107, 32, 0, 103, 114, 101, 101, 100, 121, 0, 98, 101, 115, 116, 0]) (v := 115) rfl w82 (by omega) (by omega) rfl ?_
  refine E_if (t := 121) (b := false) rfl rfl (by decide) ?_
  refine E_iinc (y := nI 42) (L2 := [some (.ref 65), some (.int (nI 42)), some (.int (nI (max (max (max (max (max (max (max a (a + mr0 e n a)) (a + mr1 e n a)) (a + mr2 e n a)) (a + mr3 e n a)) (a + mr4 e n a)) (a + mr5 e n a)) (a + mr6 e n a)))), some (.int (nI 6)), some (.int (nI (a + mr6 e n a))), some (.int c6)]) rfl rfl (by decide) rfl ?_
  refine E_goto (t := 106) rfl rfl ?_
  refine E_aload_n rfl rfl ?_
  refine E_getfield (v := .ref 82) rfl w65 rfl (by decide) rfl ?_
  refine E_iload_n rfl rfl ?_
  refine E_ialN (l := [112, 105, 101, 99, 101, 32, 0, 112, 101, 114, 115, 111, 110, 32, 0, 99, 111, 115, 116, 32, 0, 104, 97, 115, 32, 0, 98, 97, 99, 107, 32, 0, 103, 114, 101, 101, 100, 121, 0, 98, 101, 115, 116, 0]) (v := 116) rfl w82 (by omega) (by omega) rfl ?_
  refine E_if (t := 121) (b := false) rfl rfl (by decide) ?_
  refine E_iinc (y := nI 43) (L2 := [some (.ref 65), some (.int (nI 43)), some (.int (nI (max (max (max (max (max (max (max a (a + mr0 e n a)) (a + mr1 e n a)) (a + mr2 e n a)) (a + mr3 e n a)) (a + mr4 e n a)) (a + mr5 e n a)) (a + mr6 e n a)))), some (.int (nI 6)), some (.int (nI (a + mr6 e n a))), some (.int c6)]) rfl rfl (by decide) rfl ?_
  refine E_goto (t := 106) rfl rfl ?_
  refine E_aload_n rfl rfl ?_
  refine E_getfield (v := .ref 82) rfl w65 rfl (by decide) rfl ?_
  refine E_iload_n rfl rfl ?_
  refine E_ialN (l := [112, 105, 101, 99, 101, 32, 0, 112, 101, 114, 115, 111, 110, 32, 0, 99, 111, 115, 116, 32, 0, 104, 97, 115, 32, 0, 98, 97, 99, 107, 32, 0, 103, 114, 101, 101, 100, 121, 0, 98, 101, 115, 116, 0]) (v := 0) rfl w82 (by omega) (by omega) rfl ?_
  refine E_if (t := 121) (b := true) rfl rfl (by decide) ?_
  refine E_iinc (y := nI 44) (L2 := [some (.ref 65), some (.int (nI 44)), some (.int (nI (max (max (max (max (max (max (max a (a + mr0 e n a)) (a + mr1 e n a)) (a + mr2 e n a)) (a + mr3 e n a)) (a + mr4 e n a)) (a + mr5 e n a)) (a + mr6 e n a)))), some (.int (nI 6)), some (.int (nI (a + mr6 e n a))), some (.int c6)]) rfl rfl (by decide) rfl ?_
  refine E_iinc (y := nI 7) (L2 := [some (.ref 65), some (.int (nI 44)), some (.int (nI (max (max (max (max (max (max (max a (a + mr0 e n a)) (a + mr1 e n a)) (a + mr2 e n a)) (a + mr3 e n a)) (a + mr4 e n a)) (a + mr5 e n a)) (a + mr6 e n a)))), some (.int (nI 7)), some (.int (nI (a + mr6 e n a))), some (.int c6)]) rfl rfl (by decide) rfl ?_
  refine E_goto (t := 9) rfl rfl ?_
  refine E_iload_n rfl rfl ?_
  refine E_bipush (x := nI 7) rfl (by decide) ?_
  refine E_ic (t := 130) (b := true) rfl rfl (by decide) ?_
  refine E_aload_n rfl rfl ?_
  refine E_iload_n rfl rfl ?_
  refine E_putfield (cs2 := (ww im lf s d k ls rf rz ra rn rq lt m1 m2 m3 m4 bd fc hd sz el q (fUp (fUp (fUp (fUp (fUp (fUp g 27 (nI (160 * j))) 29 (nI n)) 6 (-1)) 28 (nI a)) 30 x30) 31 (nI (max (max (max (max (max (max (max a (a + mr0 e n a)) (a + mr1 e n a)) (a + mr2 e n a)) (a + mr3 e n a)) (a + mr4 e n a)) (a + mr5 e n a)) (a + mr6 e n a)))) fm hm so si sh ce ca td wa kp la bf oo bo pw ow tr)) rfl w65 rfl (by decide) (Nat.le_of_ble_eq_true rfl) rfl rfl rfl (w_pt65_31.trans (by rw [gn31])) ?_
  refine E_iconst (x := (-1)) rfl (by decide) ?_
  exact E_iret rfl rfl
set_option maxHeartbeats 1000000 in
theorem m_wd1b {e : List Int64} {n a j : Nat} {x30 x31 : Int32} {q : ab_q} (hj : j < 8) (hn : n ≤ 160) (ha : a ≤ n) (l_ce : ce.length = 1280) (hce : ∀ p, p < 160 → e.getD p 0 = ce.getD (160 * j + p) 0) (hw : wd e n a = 1) (hb : chB e n (a + 6) 32 = true) : Ev ab_Z0 1 158 [.ref 65] (ww im lf s d k ls rf rz ra rn rq lt m1 m2 m3 m4 bd fc hd sz el q (fUp (fUp (fUp (fUp (fUp (fUp g 27 (nI (160 * j))) 29 (nI n)) 6 (-1)) 28 (nI a)) 30 x30) 31 x31) fm hm so si sh ce ca td wa kp la bf oo bo pw ow tr) (some (.int (nI 1)), (ww im lf s d k ls rf rz ra rn rq lt m1 m2 m3 m4 bd fc hd sz el q (fUp (fUp (fUp (fUp (fUp (fUp g 27 (nI (160 * j))) 29 (nI n)) 6 (-1)) 28 (nI (a + 7))) 30 x30) 31 x31) fm hm so si sh ce ca td wa kp la bf oo bo pw ow tr)) := by
  have : ([112, 105, 101, 99, 101, 32, 0, 112, 101, 114, 115, 111, 110, 32, 0, 99, 111, 115, 116, 32, 0, 104, 97, 115, 32, 0, 98, 97, 99, 107, 32, 0, 103, 114, 101, 101, 100, 121, 0, 98, 101, 115, 116, 0] : List Nat).length = 44 := rfl
  have hwc := wd_c e n a
  have hs0 := mrS_0 e n a
  have hl0 := mr0_le e n a
  have hs1 := mrS_1 e n a
  have hl1 := mr1_le e n a
  have hs2 := mrS_2 e n a
  have hl2 := mr2_le e n a
  have hs3 := mrS_3 e n a
  have hl3 := mr3_le e n a
  have hs4 := mrS_4 e n a
  have hl4 := mr4_le e n a
  have hs5 := mrS_5 e n a
  have hl5 := mr5_le e n a
  have hs6 := mrS_6 e n a
  have hl6 := mr6_le e n a
  have hu0 : mr0 e n a = mj0 e n a := by rw [hs0]; exact if_neg (fun z => by omega)
  have hj0_ := mj0_le e n a
  have hu1 : mr1 e n a = 7 := by rw [hs1]; exact if_pos ⟨by omega, hb⟩
  refine Ef.in (md := mX6_word) (L := [some (.ref 65), none, none, none, none, none]) rfl (Nat.le_of_ble_eq_true rfl) rfl ?_
  refine E_iconst (x := nI 0) rfl (by decide) ?_
  refine E_istore_n (L2 := [some (.ref 65), some (.int (nI 0)), none, none, none, none]) rfl rfl ?_
  refine E_aload_n rfl rfl ?_
  refine E_getfield (v := .int (nI a)) rfl w65 rfl (by decide) rfl ?_
  refine E_istore_n (L2 := [some (.ref 65), some (.int (nI 0)), some (.int (nI a)), none, none, none]) rfl rfl ?_
  refine E_iconst (x := nI 0) rfl (by decide) ?_
  refine E_istore_n (L2 := [some (.ref 65), some (.int (nI 0)), some (.int (nI a)), some (.int (nI 0)), none, none]) rfl rfl ?_
  refine E_iload_n rfl rfl ?_
  refine E_bipush (x := nI 7) rfl (by decide) ?_
  refine E_ic (t := 130) (b := false) rfl rfl (by decide) ?_
  refine E_aload_n rfl rfl ?_
  refine E_getfield (v := .int (nI a)) rfl w65 rfl (by decide) rfl ?_
  refine E_istore (L2 := [some (.ref 65), some (.int (nI 0)), some (.int (nI a)), some (.int (nI 0)), some (.int (nI a)), none]) rfl rfl ?_
  refine E_iload_n rfl rfl ?_
  refine E_istore (L2 := [some (.ref 65), some (.int (nI 0)), some (.int (nI a)), some (.int (nI 0)), some (.int (nI a)), some (.int (nI 0))]) rfl rfl ?_
  refine mw_p0 hj hn ha l_ce hce (f0 := a) (by omega) (by omega) (fun c0 => ?_)
  refine E_aload_n rfl rfl ?_
  refine E_getfield (v := .ref 82) rfl w65 rfl (by decide) rfl ?_
  refine E_iload_n rfl rfl ?_
  refine E_ialN (l := [112, 105, 101, 99, 101, 32, 0, 112, 101, 114, 115, 111, 110, 32, 0, 99, 111, 115, 116, 32, 0, 104, 97, 115, 32, 0, 98, 97, 99, 107, 32, 0, 103, 114, 101, 101, 100, 121, 0, 98, 101, 115, 116, 0]) (v := 112) rfl w82 (by omega) (by omega) rfl ?_
  refine E_if (t := 121) (b := false) rfl rfl (by decide) ?_
  refine E_iinc (y := nI 1) (L2 := [some (.ref 65), some (.int (nI 1)), some (.int (nI (max a (a + mr0 e n a)))), some (.int (nI 0)), some (.int (nI (a + mr0 e n a))), some (.int c0)]) rfl rfl (by decide) rfl ?_
  refine E_goto (t := 106) rfl rfl ?_
  refine E_aload_n rfl rfl ?_
  refine E_getfield (v := .ref 82) rfl w65 rfl (by decide) rfl ?_
  refine E_iload_n rfl rfl ?_
  refine E_ialN (l := [112, 105, 101, 99, 101, 32, 0, 112, 101, 114, 115, 111, 110, 32, 0, 99, 111, 115, 116, 32, 0, 104, 97, 115, 32, 0, 98, 97, 99, 107, 32, 0, 103, 114, 101, 101, 100, 121, 0, 98, 101, 115, 116, 0]) (v := 105) rfl w82 (by omega) (by omega) rfl ?_
  refine E_if (t := 121) (b := false) rfl rfl (by decide) ?_
  refine E_iinc (y := nI 2) (L2 := [some (.ref 65), some (.int (nI 2)), some (.int (nI (max a (a + mr0 e n a)))), some (.int (nI 0)), some (.int (nI (a + mr0 e n a))), some (.int c0)]) rfl rfl (by decide) rfl ?_
  refine E_goto (t := 106) rfl rfl ?_
  refine E_aload_n rfl rfl ?_
  refine E_getfield (v := .ref 82) rfl w65 rfl (by decide) rfl ?_
  refine E_iload_n rfl rfl ?_
  refine E_ialN (l := [112, 105, 101, 99, 101, 32, 0, 112, 101, 114, 115, 111, 110, 32, 0, 99, 111, 115, 116, 32, 0, 104, 97, 115, 32, 0, 98, 97, 99, 107, 32, 0, 103, 114, 101, 101, 100, 121, 0, 98, 101, 115, 116, 0]) (v := 101) rfl w82 (by omega) (by omega) rfl ?_
  refine E_if (t := 121) (b := false) rfl rfl (by decide) ?_
  refine E_iinc (y := nI 3) (L2 := [some (.ref 65), some (.int (nI 3)), some (.int (nI (max a (a + mr0 e n a)))), some (.int (nI 0)), some (.int (nI (a + mr0 e n a))), some (.int c0)]) rfl rfl (by decide) rfl ?_
  refine E_goto (t := 106) rfl rfl ?_
  refine E_aload_n rfl rfl ?_
  refine E_getfield (v := .ref 82) rfl w65 rfl (by decide) rfl ?_
  refine E_iload_n rfl rfl ?_
  refine E_ialN (l := [112, 105, 101, 99, 101, 32, 0, 112, 101, 114, 115, 111, 110, 32, 0, 99, 111, 115, 116, 32, 0, 104, 97, 115, 32, 0, 98, 97, 99, 107, 32, 0, 103, 114, 101, 101, 100, 121, 0, 98, 101, 115, 116, 0]) (v := 99) rfl w82 (by omega) (by omega) rfl ?_
  refine E_if (t := 121) (b := false) rfl rfl (by decide) ?_
  refine E_iinc (y := nI 4) (L2 := [some (.ref 65), some (.int (nI 4)), some (.int (nI (max a (a + mr0 e n a)))), some (.int (nI 0)), some (.int (nI (a + mr0 e n a))), some (.int c0)]) rfl rfl (by decide) rfl ?_
  refine E_goto (t := 106) rfl rfl ?_
  refine E_aload_n rfl rfl ?_
  refine E_getfield (v := .ref 82) rfl w65 rfl (by decide) rfl ?_
  refine E_iload_n rfl rfl ?_
  refine E_ialN (l := [112, 105, 101, 99, 101, 32, 0, 112, 101, 114, 115, 111, 110, 32, 0, 99, 111, 115, 116, 32, 0, 104, 97, 115, 32, 0, 98, 97, 99, 107, 32, 0, 103, 114, 101, 101, 100, 121, 0, 98, 101, 115, 116, 0]) (v := 101) rfl w82 (by omega) (by omega) rfl ?_
  refine E_if (t := 121) (b := false) rfl rfl (by decide) ?_
  refine E_iinc (y := nI 5) (L2 := [some (.ref 65), some (.int (nI 5)), some (.int (nI (max a (a + mr0 e n a)))), some (.int (nI 0)), some (.int (nI (a + mr0 e n a))), some (.int c0)]) rfl rfl (by decide) rfl ?_
  refine E_goto (t := 106) rfl rfl ?_
  refine E_aload_n rfl rfl ?_
  refine E_getfield (v := .ref 82) rfl w65 rfl (by decide) rfl ?_
  refine E_iload_n rfl rfl ?_
  refine E_ialN (l := [112, 105, 101, 99, 101, 32, 0, 112, 101, 114, 115, 111, 110, 32, 0, 99, 111, 115, 116, 32, 0, 104, 97, 115, 32, 0, 98, 97, 99, 107, 32, 0, 103, 114, 101, 101, 100, 121, 0, 98, 101, 115, 116, 0]) (v := 32) rfl w82 (by omega) (by omega) rfl ?_
  refine E_if (t := 121) (b := false) rfl rfl (by decide) ?_
  refine E_iinc (y := nI 6) (L2 := [some (.ref 65), some (.int (nI 6)), some (.int (nI (max a (a + mr0 e n a)))), some (.int (nI 0)), some (.int (nI (a + mr0 e n a))), some (.int c0)]) rfl rfl (by decide) rfl ?_
  refine E_goto (t := 106) rfl rfl ?_
  refine E_aload_n rfl rfl ?_
  refine E_getfield (v := .ref 82) rfl w65 rfl (by decide) rfl ?_
  refine E_iload_n rfl rfl ?_
  refine E_ialN (l := [112, 105, 101, 99, 101, 32, 0, 112, 101, 114, 115, 111, 110, 32, 0, 99, 111, 115, 116, 32, 0, 104, 97, 115, 32, 0, 98, 97, 99, 107, 32, 0, 103, 114, 101, 101, 100, 121, 0, 98, 101, 115, 116, 0]) (v := 0) rfl w82 (by omega) (by omega) rfl ?_
  refine E_if (t := 121) (b := true) rfl rfl (by decide) ?_
  refine E_iinc (y := nI 7) (L2 := [some (.ref 65), some (.int (nI 7)), some (.int (nI (max a (a + mr0 e n a)))), some (.int (nI 0)), some (.int (nI (a + mr0 e n a))), some (.int c0)]) rfl rfl (by decide) rfl ?_
  refine E_iinc (y := nI 1) (L2 := [some (.ref 65), some (.int (nI 7)), some (.int (nI (max a (a + mr0 e n a)))), some (.int (nI 1)), some (.int (nI (a + mr0 e n a))), some (.int c0)]) rfl rfl (by decide) rfl ?_
  refine E_goto (t := 9) rfl rfl ?_
  refine E_iload_n rfl rfl ?_
  refine E_bipush (x := nI 7) rfl (by decide) ?_
  refine E_ic (t := 130) (b := false) rfl rfl (by decide) ?_
  refine E_aload_n rfl rfl ?_
  refine E_getfield (v := .int (nI a)) rfl w65 rfl (by decide) rfl ?_
  refine E_istore (L2 := [some (.ref 65), some (.int (nI 7)), some (.int (nI (max a (a + mr0 e n a)))), some (.int (nI 1)), some (.int (nI a)), some (.int c0)]) rfl rfl ?_
  refine E_iload_n rfl rfl ?_
  refine E_istore (L2 := [some (.ref 65), some (.int (nI 7)), some (.int (nI (max a (a + mr0 e n a)))), some (.int (nI 1)), some (.int (nI a)), some (.int (nI 7))]) rfl rfl ?_
  refine mw_f1 hj hn ha l_ce hce (by omega) ?_
  refine E_aload_n rfl rfl ?_
  refine E_iload rfl rfl ?_
  refine E_putfield (cs2 := (ww im lf s d k ls rf rz ra rn rq lt m1 m2 m3 m4 bd fc hd sz el q (fUp (fUp (fUp (fUp (fUp (fUp g 27 (nI (160 * j))) 29 (nI n)) 6 (-1)) 28 (nI (a + 7))) 30 x30) 31 x31) fm hm so si sh ce ca td wa kp la bf oo bo pw ow tr)) rfl w65 rfl (by decide) (Nat.le_of_ble_eq_true rfl) rfl rfl rfl (w_pt65_28.trans (by rw [gn28])) ?_
  refine E_iload_n rfl rfl ?_
  exact E_iret rfl rfl
set_option maxHeartbeats 1000000 in
theorem m_wd1n {e : List Int64} {n a j : Nat} {x30 x31 : Int32} {q : ab_q} (hj : j < 8) (hn : n ≤ 160) (ha : a ≤ n) (l_ce : ce.length = 1280) (hce : ∀ p, p < 160 → e.getD p 0 = ce.getD (160 * j + p) 0) (hw : wd e n a = 1) (hb : chB e n (a + 6) 32 = false) : Ev ab_Z0 1 158 [.ref 65] (ww im lf s d k ls rf rz ra rn rq lt m1 m2 m3 m4 bd fc hd sz el q (fUp (fUp (fUp (fUp (fUp (fUp g 27 (nI (160 * j))) 29 (nI n)) 6 (-1)) 28 (nI a)) 30 x30) 31 x31) fm hm so si sh ce ca td wa kp la bf oo bo pw ow tr) (some (.int (-1)), (ww im lf s d k ls rf rz ra rn rq lt m1 m2 m3 m4 bd fc hd sz el q (fUp (fUp (fUp (fUp (fUp (fUp g 27 (nI (160 * j))) 29 (nI n)) 6 (-1)) 28 (nI a)) 30 x30) 31 (nI (a + 6))) fm hm so si sh ce ca td wa kp la bf oo bo pw ow tr)) := by
  have : ([112, 105, 101, 99, 101, 32, 0, 112, 101, 114, 115, 111, 110, 32, 0, 99, 111, 115, 116, 32, 0, 104, 97, 115, 32, 0, 98, 97, 99, 107, 32, 0, 103, 114, 101, 101, 100, 121, 0, 98, 101, 115, 116, 0] : List Nat).length = 44 := rfl
  have hwc := wd_c e n a
  have hs0 := mrS_0 e n a
  have hl0 := mr0_le e n a
  have hs1 := mrS_1 e n a
  have hl1 := mr1_le e n a
  have hs2 := mrS_2 e n a
  have hl2 := mr2_le e n a
  have hs3 := mrS_3 e n a
  have hl3 := mr3_le e n a
  have hs4 := mrS_4 e n a
  have hl4 := mr4_le e n a
  have hs5 := mrS_5 e n a
  have hl5 := mr5_le e n a
  have hs6 := mrS_6 e n a
  have hl6 := mr6_le e n a
  have hu0 : mr0 e n a = mj0 e n a := by rw [hs0]; exact if_neg (fun z => by omega)
  have hj0_ := mj0_le e n a
  have hu1 : mr1 e n a = 6 := by rw [hs1]; rw [if_neg (fun z => by rw [hb] at z; exact absurd z.2 (by decide))]; omega
  have hx2 := ex_1_2 (e := e) (n := n) (a := a) (by omega)
  have hu2 : mr2 e n a = mj2 e n a := by rw [hs2]; exact if_neg (fun z => by omega)
  have hx3 := ex_1_3 (e := e) (n := n) (a := a) (by omega)
  have hu3 : mr3 e n a = mj3 e n a := by rw [hs3]; exact if_neg (fun z => by omega)
  have hx4 := ex_1_4 (e := e) (n := n) (a := a) (by omega)
  have hu4 : mr4 e n a = mj4 e n a := by rw [hs4]; exact if_neg (fun z => by omega)
  have hx5 := ex_1_5 (e := e) (n := n) (a := a) (by omega)
  have hu5 : mr5 e n a = mj5 e n a := rfl
  have hx6 := ex_1_6 (e := e) (n := n) (a := a) (by omega)
  have hu6 : mr6 e n a = mj6 e n a := rfl
  have hx0 := ex_1_0 (e := e) (n := n) (a := a) (by omega)
  have hfar : max (max (max (max (max (max (max a (a + mr0 e n a)) (a + mr1 e n a)) (a + mr2 e n a)) (a + mr3 e n a)) (a + mr4 e n a)) (a + mr5 e n a)) (a + mr6 e n a) = a + 6 := by omega
  rw [← hfar]
  refine Ef.in (md := mX6_word) (L := [some (.ref 65), none, none, none, none, none]) rfl (Nat.le_of_ble_eq_true rfl) rfl ?_
  refine E_iconst (x := nI 0) rfl (by decide) ?_
  refine E_istore_n (L2 := [some (.ref 65), some (.int (nI 0)), none, none, none, none]) rfl rfl ?_
  refine E_aload_n rfl rfl ?_
  refine E_getfield (v := .int (nI a)) rfl w65 rfl (by decide) rfl ?_
  refine E_istore_n (L2 := [some (.ref 65), some (.int (nI 0)), some (.int (nI a)), none, none, none]) rfl rfl ?_
  refine E_iconst (x := nI 0) rfl (by decide) ?_
  refine E_istore_n (L2 := [some (.ref 65), some (.int (nI 0)), some (.int (nI a)), some (.int (nI 0)), none, none]) rfl rfl ?_
  refine E_iload_n rfl rfl ?_
  refine E_bipush (x := nI 7) rfl (by decide) ?_
  refine E_ic (t := 130) (b := false) rfl rfl (by decide) ?_
  refine E_aload_n rfl rfl ?_
  refine E_getfield (v := .int (nI a)) rfl w65 rfl (by decide) rfl ?_
  refine E_istore (L2 := [some (.ref 65), some (.int (nI 0)), some (.int (nI a)), some (.int (nI 0)), some (.int (nI a)), none]) rfl rfl ?_
  refine E_iload_n rfl rfl ?_
  refine E_istore (L2 := [some (.ref 65), some (.int (nI 0)), some (.int (nI a)), some (.int (nI 0)), some (.int (nI a)), some (.int (nI 0))]) rfl rfl ?_
  refine mw_p0 hj hn ha l_ce hce (f0 := a) (by omega) (by omega) (fun c0 => ?_)
  refine E_aload_n rfl rfl ?_
  refine E_getfield (v := .ref 82) rfl w65 rfl (by decide) rfl ?_
  refine E_iload_n rfl rfl ?_
  refine E_ialN (l := [112, 105, 101, 99, 101, 32, 0, 112, 101, 114, 115, 111, 110, 32, 0, 99, 111, 115, 116, 32, 0, 104, 97, 115, 32, 0, 98, 97, 99, 107, 32, 0, 103, 114, 101, 101, 100, 121, 0, 98, 101, 115, 116, 0]) (v := 112) rfl w82 (by omega) (by omega) rfl ?_
  refine E_if (t := 121) (b := false) rfl rfl (by decide) ?_
  refine E_iinc (y := nI 1) (L2 := [some (.ref 65), some (.int (nI 1)), some (.int (nI (max a (a + mr0 e n a)))), some (.int (nI 0)), some (.int (nI (a + mr0 e n a))), some (.int c0)]) rfl rfl (by decide) rfl ?_
  refine E_goto (t := 106) rfl rfl ?_
  refine E_aload_n rfl rfl ?_
  refine E_getfield (v := .ref 82) rfl w65 rfl (by decide) rfl ?_
  refine E_iload_n rfl rfl ?_
  refine E_ialN (l := [112, 105, 101, 99, 101, 32, 0, 112, 101, 114, 115, 111, 110, 32, 0, 99, 111, 115, 116, 32, 0, 104, 97, 115, 32, 0, 98, 97, 99, 107, 32, 0, 103, 114, 101, 101, 100, 121, 0, 98, 101, 115, 116, 0]) (v := 105) rfl w82 (by omega) (by omega) rfl ?_
  refine E_if (t := 121) (b := false) rfl rfl (by decide) ?_
  refine E_iinc (y := nI 2) (L2 := [some (.ref 65), some (.int (nI 2)), some (.int (nI (max a (a + mr0 e n a)))), some (.int (nI 0)), some (.int (nI (a + mr0 e n a))), some (.int c0)]) rfl rfl (by decide) rfl ?_
  refine E_goto (t := 106) rfl rfl ?_
  refine E_aload_n rfl rfl ?_
  refine E_getfield (v := .ref 82) rfl w65 rfl (by decide) rfl ?_
  refine E_iload_n rfl rfl ?_
  refine E_ialN (l := [112, 105, 101, 99, 101, 32, 0, 112, 101, 114, 115, 111, 110, 32, 0, 99, 111, 115, 116, 32, 0, 104, 97, 115, 32, 0, 98, 97, 99, 107, 32, 0, 103, 114, 101, 101, 100, 121, 0, 98, 101, 115, 116, 0]) (v := 101) rfl w82 (by omega) (by omega) rfl ?_
  refine E_if (t := 121) (b := false) rfl rfl (by decide) ?_
  refine E_iinc (y := nI 3) (L2 := [some (.ref 65), some (.int (nI 3)), some (.int (nI (max a (a + mr0 e n a)))), some (.int (nI 0)), some (.int (nI (a + mr0 e n a))), some (.int c0)]) rfl rfl (by decide) rfl ?_
  refine E_goto (t := 106) rfl rfl ?_
  refine E_aload_n rfl rfl ?_
  refine E_getfield (v := .ref 82) rfl w65 rfl (by decide) rfl ?_
  refine E_iload_n rfl rfl ?_
  refine E_ialN (l := [112, 105, 101, 99, 101, 32, 0, 112, 101, 114, 115, 111, 110, 32, 0, 99, 111, 115, 116, 32, 0, 104, 97, 115, 32, 0, 98, 97, 99, 107, 32, 0, 103, 114, 101, 101, 100, 121, 0, 98, 101, 115, 116, 0]) (v := 99) rfl w82 (by omega) (by omega) rfl ?_
  refine E_if (t := 121) (b := false) rfl rfl (by decide) ?_
  refine E_iinc (y := nI 4) (L2 := [some (.ref 65), some (.int (nI 4)), some (.int (nI (max a (a + mr0 e n a)))), some (.int (nI 0)), some (.int (nI (a + mr0 e n a))), some (.int c0)]) rfl rfl (by decide) rfl ?_
  refine E_goto (t := 106) rfl rfl ?_
  refine E_aload_n rfl rfl ?_
  refine E_getfield (v := .ref 82) rfl w65 rfl (by decide) rfl ?_
  refine E_iload_n rfl rfl ?_
  refine E_ialN (l := [112, 105, 101, 99, 101, 32, 0, 112, 101, 114, 115, 111, 110, 32, 0, 99, 111, 115, 116, 32, 0, 104, 97, 115, 32, 0, 98, 97, 99, 107, 32, 0, 103, 114, 101, 101, 100, 121, 0, 98, 101, 115, 116, 0]) (v := 101) rfl w82 (by omega) (by omega) rfl ?_
  refine E_if (t := 121) (b := false) rfl rfl (by decide) ?_
  refine E_iinc (y := nI 5) (L2 := [some (.ref 65), some (.int (nI 5)), some (.int (nI (max a (a + mr0 e n a)))), some (.int (nI 0)), some (.int (nI (a + mr0 e n a))), some (.int c0)]) rfl rfl (by decide) rfl ?_
  refine E_goto (t := 106) rfl rfl ?_
  refine E_aload_n rfl rfl ?_
  refine E_getfield (v := .ref 82) rfl w65 rfl (by decide) rfl ?_
  refine E_iload_n rfl rfl ?_
  refine E_ialN (l := [112, 105, 101, 99, 101, 32, 0, 112, 101, 114, 115, 111, 110, 32, 0, 99, 111, 115, 116, 32, 0, 104, 97, 115, 32, 0, 98, 97, 99, 107, 32, 0, 103, 114, 101, 101, 100, 121, 0, 98, 101, 115, 116, 0]) (v := 32) rfl w82 (by omega) (by omega) rfl ?_
  refine E_if (t := 121) (b := false) rfl rfl (by decide) ?_
  refine E_iinc (y := nI 6) (L2 := [some (.ref 65), some (.int (nI 6)), some (.int (nI (max a (a + mr0 e n a)))), some (.int (nI 0)), some (.int (nI (a + mr0 e n a))), some (.int c0)]) rfl rfl (by decide) rfl ?_
  refine E_goto (t := 106) rfl rfl ?_
  refine E_aload_n rfl rfl ?_
  refine E_getfield (v := .ref 82) rfl w65 rfl (by decide) rfl ?_
  refine E_iload_n rfl rfl ?_
  refine E_ialN (l := [112, 105, 101, 99, 101, 32, 0, 112, 101, 114, 115, 111, 110, 32, 0, 99, 111, 115, 116, 32, 0, 104, 97, 115, 32, 0, 98, 97, 99, 107, 32, 0, 103, 114, 101, 101, 100, 121, 0, 98, 101, 115, 116, 0]) (v := 0) rfl w82 (by omega) (by omega) rfl ?_
  refine E_if (t := 121) (b := true) rfl rfl (by decide) ?_
  refine E_iinc (y := nI 7) (L2 := [some (.ref 65), some (.int (nI 7)), some (.int (nI (max a (a + mr0 e n a)))), some (.int (nI 0)), some (.int (nI (a + mr0 e n a))), some (.int c0)]) rfl rfl (by decide) rfl ?_
  refine E_iinc (y := nI 1) (L2 := [some (.ref 65), some (.int (nI 7)), some (.int (nI (max a (a + mr0 e n a)))), some (.int (nI 1)), some (.int (nI (a + mr0 e n a))), some (.int c0)]) rfl rfl (by decide) rfl ?_
  refine E_goto (t := 9) rfl rfl ?_
  refine E_iload_n rfl rfl ?_
  refine E_bipush (x := nI 7) rfl (by decide) ?_
  refine E_ic (t := 130) (b := false) rfl rfl (by decide) ?_
  refine E_aload_n rfl rfl ?_
  refine E_getfield (v := .int (nI a)) rfl w65 rfl (by decide) rfl ?_
  refine E_istore (L2 := [some (.ref 65), some (.int (nI 7)), some (.int (nI (max a (a + mr0 e n a)))), some (.int (nI 1)), some (.int (nI a)), some (.int c0)]) rfl rfl ?_
  refine E_iload_n rfl rfl ?_
  refine E_istore (L2 := [some (.ref 65), some (.int (nI 7)), some (.int (nI (max a (a + mr0 e n a)))), some (.int (nI 1)), some (.int (nI a)), some (.int (nI 7))]) rfl rfl ?_
  refine mw_p1 hj hn ha l_ce hce (f0 := max a (a + mr0 e n a)) (by omega) (by omega) (fun c1 => ?_)
  refine E_aload_n rfl rfl ?_
  refine E_getfield (v := .ref 82) rfl w65 rfl (by decide) rfl ?_
  refine E_iload_n rfl rfl ?_
  refine E_ialN (l := [112, 105, 101, 99, 101, 32, 0, 112, 101, 114, 115, 111, 110, 32, 0, 99, 111, 115, 116, 32, 0, 104, 97, 115, 32, 0, 98, 97, 99, 107, 32, 0, 103, 114, 101, 101, 100, 121, 0, 98, 101, 115, 116, 0]) (v := 112) rfl w82 (by omega) (by omega) rfl ?_
  refine E_if (t := 121) (b := false) rfl rfl (by decide) ?_
  refine E_iinc (y := nI 8) (L2 := [some (.ref 65), some (.int (nI 8)), some (.int (nI (max (max a (a + mr0 e n a)) (a + mr1 e n a)))), some (.int (nI 1)), some (.int (nI (a + mr1 e n a))), some (.int c1)]) rfl rfl (by decide) rfl ?_
  refine E_goto (t := 106) rfl rfl ?_
  refine E_aload_n rfl rfl ?_
  refine E_getfield (v := .ref 82) rfl w65 rfl (by decide) rfl ?_
  refine E_iload_n rfl rfl ?_
  refine E_ialN (l := [112, 105, 101, 99, 101, 32, 0, 112, 101, 114, 115, 111, 110, 32, 0, 99, 111, 115, 116, 32, 0, 104, 97, 115, 32, 0, 98, 97, 99, 107, 32, 0, 103, 114, 101, 101, 100, 121, 0, 98, 101, 115, 116, 0]) (v := 101) rfl w82 (by omega) (by omega) rfl ?_
  refine E_if (t := 121) (b := false) rfl rfl (by decide) ?_
  refine E_iinc (y := nI 9) (L2 := [some (.ref 65), some (.int (nI 9)), some (.int (nI (max (max a (a + mr0 e n a)) (a + mr1 e n a)))), some (.int (nI 1)), some (.int (nI (a + mr1 e n a))), some (.int c1)]) rfl rfl (by decide) rfl ?_
  refine E_goto (t := 106) rfl rfl ?_
  refine E_aload_n rfl rfl ?_
  refine E_getfield (v := .ref 82) rfl w65 rfl (by decide) rfl ?_
  refine E_iload_n rfl rfl ?_
  refine E_ialN (l := [112, 105, 101, 99, 101, 32, 0, 112, 101, 114, 115, 111, 110, 32, 0, 99, 111, 115, 116, 32, 0, 104, 97, 115, 32, 0, 98, 97, 99, 107, 32, 0, 103, 114, 101, 101, 100, 121, 0, 98, 101, 115, 116, 0]) (v := 114) rfl w82 (by omega) (by omega) rfl ?_
  refine E_if (t := 121) (b := false) rfl rfl (by decide) ?_
  refine E_iinc (y := nI 10) (L2 := [some (.ref 65), some (.int (nI 10)), some (.int (nI (max (max a (a + mr0 e n a)) (a + mr1 e n a)))), some (.int (nI 1)), some (.int (nI (a + mr1 e n a))), some (.int c1)]) rfl rfl (by decide) rfl ?_
  refine E_goto (t := 106) rfl rfl ?_
  refine E_aload_n rfl rfl ?_
  refine E_getfield (v := .ref 82) rfl w65 rfl (by decide) rfl ?_
  refine E_iload_n rfl rfl ?_
  refine E_ialN (l := [112, 105, 101, 99, 101, 32, 0, 112, 101, 114, 115, 111, 110, 32, 0, 99, 111, 115, 116, 32, 0, 104, 97, 115, 32, 0, 98, 97, 99, 107, 32, 0, 103, 114, 101, 101, 100, 121, 0, 98, 101, 115, 116, 0]) (v := 115) rfl w82 (by omega) (by omega) rfl ?_
  refine E_if (t := 121) (b := false) rfl rfl (by decide) ?_
  refine E_iinc (y := nI 11) (L2 := [some (.ref 65), some (.int (nI 11)), some (.int (nI (max (max a (a + mr0 e n a)) (a + mr1 e n a)))), some (.int (nI 1)), some (.int (nI (a + mr1 e n a))), some (.int c1)]) rfl rfl (by decide) rfl ?_
  refine E_goto (t := 106) rfl rfl ?_
  refine E_aload_n rfl rfl ?_
  refine E_getfield (v := .ref 82) rfl w65 rfl (by decide) rfl ?_
  refine E_iload_n rfl rfl ?_
  refine E_ialN (l := [112, 105, 101, 99, 101, 32, 0, 112, 101, 114, 115, 111, 110, 32, 0, 99, 111, 115, 116, 32, 0, 104, 97, 115, 32, 0, 98, 97, 99, 107, 32, 0, 103, 114, 101, 101, 100, 121, 0, 98, 101, 115, 116, 0]) (v := 111) rfl w82 (by omega) (by omega) rfl ?_
  refine E_if (t := 121) (b := false) rfl rfl (by decide) ?_
  refine E_iinc (y := nI 12) (L2 := [some (.ref 65), some (.int (nI 12)), some (.int (nI (max (max a (a + mr0 e n a)) (a + mr1 e n a)))), some (.int (nI 1)), some (.int (nI (a + mr1 e n a))), some (.int c1)]) rfl rfl (by decide) rfl ?_
  refine E_goto (t := 106) rfl rfl ?_
  refine E_aload_n rfl rfl ?_
  refine E_getfield (v := .ref 82) rfl w65 rfl (by decide) rfl ?_
  refine E_iload_n rfl rfl ?_
  refine E_ialN (l := [112, 105, 101, 99, 101, 32, 0, 112, 101, 114, 115, 111, 110, 32, 0, 99, 111, 115, 116, 32, 0, 104, 97, 115, 32, 0, 98, 97, 99, 107, 32, 0, 103, 114, 101, 101, 100, 121, 0, 98, 101, 115, 116, 0]) (v := 110) rfl w82 (by omega) (by omega) rfl ?_
  refine E_if (t := 121) (b := false) rfl rfl (by decide) ?_
  refine E_iinc (y := nI 13) (L2 := [some (.ref 65), some (.int (nI 13)), some (.int (nI (max (max a (a + mr0 e n a)) (a + mr1 e n a)))), some (.int (nI 1)), some (.int (nI (a + mr1 e n a))), some (.int c1)]) rfl rfl (by decide) rfl ?_
  refine E_goto (t := 106) rfl rfl ?_
  refine E_aload_n rfl rfl ?_
  refine E_getfield (v := .ref 82) rfl w65 rfl (by decide) rfl ?_
  refine E_iload_n rfl rfl ?_
  refine E_ialN (l := [112, 105, 101, 99, 101, 32, 0, 112, 101, 114, 115, 111, 110, 32, 0, 99, 111, 115, 116, 32, 0, 104, 97, 115, 32, 0, 98, 97, 99, 107, 32, 0, 103, 114, 101, 101, 100, 121, 0, 98, 101, 115, 116, 0]) (v := 32) rfl w82 (by omega) (by omega) rfl ?_
  refine E_if (t := 121) (b := false) rfl rfl (by decide) ?_
  refine E_iinc (y := nI 14) (L2 := [some (.ref 65), some (.int (nI 14)), some (.int (nI (max (max a (a + mr0 e n a)) (a + mr1 e n a)))), some (.int (nI 1)), some (.int (nI (a + mr1 e n a))), some (.int c1)]) rfl rfl (by decide) rfl ?_
  refine E_goto (t := 106) rfl rfl ?_
  refine E_aload_n rfl rfl ?_
  refine E_getfield (v := .ref 82) rfl w65 rfl (by decide) rfl ?_
  refine E_iload_n rfl rfl ?_
  refine E_ialN (l := [112, 105, 101, 99, 101, 32, 0, 112, 101, 114, 115, 111, 110, 32, 0, 99, 111, 115, 116, 32, 0, 104, 97, 115, 32, 0, 98, 97, 99, 107, 32, 0, 103, 114, 101, 101, 100, 121, 0, 98, 101, 115, 116, 0]) (v := 0) rfl w82 (by omega) (by omega) rfl ?_
  refine E_if (t := 121) (b := true) rfl rfl (by decide) ?_
  refine E_iinc (y := nI 15) (L2 := [some (.ref 65), some (.int (nI 15)), some (.int (nI (max (max a (a + mr0 e n a)) (a + mr1 e n a)))), some (.int (nI 1)), some (.int (nI (a + mr1 e n a))), some (.int c1)]) rfl rfl (by decide) rfl ?_
  refine E_iinc (y := nI 2) (L2 := [some (.ref 65), some (.int (nI 15)), some (.int (nI (max (max a (a + mr0 e n a)) (a + mr1 e n a)))), some (.int (nI 2)), some (.int (nI (a + mr1 e n a))), some (.int c1)]) rfl rfl (by decide) rfl ?_
  refine E_goto (t := 9) rfl rfl ?_
  refine E_iload_n rfl rfl ?_
  refine E_bipush (x := nI 7) rfl (by decide) ?_
  refine E_ic (t := 130) (b := false) rfl rfl (by decide) ?_
  refine E_aload_n rfl rfl ?_
  refine E_getfield (v := .int (nI a)) rfl w65 rfl (by decide) rfl ?_
  refine E_istore (L2 := [some (.ref 65), some (.int (nI 15)), some (.int (nI (max (max a (a + mr0 e n a)) (a + mr1 e n a)))), some (.int (nI 2)), some (.int (nI a)), some (.int c1)]) rfl rfl ?_
  refine E_iload_n rfl rfl ?_
  refine E_istore (L2 := [some (.ref 65), some (.int (nI 15)), some (.int (nI (max (max a (a + mr0 e n a)) (a + mr1 e n a)))), some (.int (nI 2)), some (.int (nI a)), some (.int (nI 15))]) rfl rfl ?_
  refine mw_p2 hj hn ha l_ce hce (f0 := max (max a (a + mr0 e n a)) (a + mr1 e n a)) (by omega) (by omega) (fun c2 => ?_)
  refine E_aload_n rfl rfl ?_
  refine E_getfield (v := .ref 82) rfl w65 rfl (by decide) rfl ?_
  refine E_iload_n rfl rfl ?_
  refine E_ialN (l := [112, 105, 101, 99, 101, 32, 0, 112, 101, 114, 115, 111, 110, 32, 0, 99, 111, 115, 116, 32, 0, 104, 97, 115, 32, 0, 98, 97, 99, 107, 32, 0, 103, 114, 101, 101, 100, 121, 0, 98, 101, 115, 116, 0]) (v := 99) rfl w82 (by omega) (by omega) rfl ?_
  refine E_if (t := 121) (b := false) rfl rfl (by decide) ?_
  refine E_iinc (y := nI 16) (L2 := [some (.ref 65), some (.int (nI 16)), some (.int (nI (max (max (max a (a + mr0 e n a)) (a + mr1 e n a)) (a + mr2 e n a)))), some (.int (nI 2)), some (.int (nI (a + mr2 e n a))), some (.int c2)]) rfl rfl (by decide) rfl ?_
  refine E_goto (t := 106) rfl rfl ?_
  refine E_aload_n rfl rfl ?_
  refine E_getfield (v := .ref 82) rfl w65 rfl (by decide) rfl ?_
  refine E_iload_n rfl rfl ?_
  refine E_ialN (l := [112, 105, 101, 99, 101, 32, 0, 112, 101, 114, 115, 111, 110, 32, 0, 99, 111, 115, 116, 32, 0, 104, 97, 115, 32, 0, 98, 97, 99, 107, 32, 0, 103, 114, 101, 101, 100, 121, 0, 98, 101, 115, 116, 0]) (v := 111) rfl w82 (by omega) (by omega) rfl ?_
  refine E_if (t := 121) (b := false) rfl rfl (by decide) ?_
  refine E_iinc (y := nI 17) (L2 := [some (.ref 65), some (.int (nI 17)), some (.int (nI (max (max (max a (a + mr0 e n a)) (a + mr1 e n a)) (a + mr2 e n a)))), some (.int (nI 2)), some (.int (nI (a + mr2 e n a))), some (.int c2)]) rfl rfl (by decide) rfl ?_
  refine E_goto (t := 106) rfl rfl ?_
  refine E_aload_n rfl rfl ?_
  refine E_getfield (v := .ref 82) rfl w65 rfl (by decide) rfl ?_
  refine E_iload_n rfl rfl ?_
  refine E_ialN (l := [112, 105, 101, 99, 101, 32, 0, 112, 101, 114, 115, 111, 110, 32, 0, 99, 111, 115, 116, 32, 0, 104, 97, 115, 32, 0, 98, 97, 99, 107, 32, 0, 103, 114, 101, 101, 100, 121, 0, 98, 101, 115, 116, 0]) (v := 115) rfl w82 (by omega) (by omega) rfl ?_
  refine E_if (t := 121) (b := false) rfl rfl (by decide) ?_
  refine E_iinc (y := nI 18) (L2 := [some (.ref 65), some (.int (nI 18)), some (.int (nI (max (max (max a (a + mr0 e n a)) (a + mr1 e n a)) (a + mr2 e n a)))), some (.int (nI 2)), some (.int (nI (a + mr2 e n a))), some (.int c2)]) rfl rfl (by decide) rfl ?_
  refine E_goto (t := 106) rfl rfl ?_
  refine E_aload_n rfl rfl ?_
  refine E_getfield (v := .ref 82) rfl w65 rfl (by decide) rfl ?_
  refine E_iload_n rfl rfl ?_
  refine E_ialN (l := [112, 105, 101, 99, 101, 32, 0, 112, 101, 114, 115, 111, 110, 32, 0, 99, 111, 115, 116, 32, 0, 104, 97, 115, 32, 0, 98, 97, 99, 107, 32, 0, 103, 114, 101, 101, 100, 121, 0, 98, 101, 115, 116, 0]) (v := 116) rfl w82 (by omega) (by omega) rfl ?_
  refine E_if (t := 121) (b := false) rfl rfl (by decide) ?_
  refine E_iinc (y := nI 19) (L2 := [some (.ref 65), some (.int (nI 19)), some (.int (nI (max (max (max a (a + mr0 e n a)) (a + mr1 e n a)) (a + mr2 e n a)))), some (.int (nI 2)), some (.int (nI (a + mr2 e n a))), some (.int c2)]) rfl rfl (by decide) rfl ?_
  refine E_goto (t := 106) rfl rfl ?_
  refine E_aload_n rfl rfl ?_
  refine E_getfield (v := .ref 82) rfl w65 rfl (by decide) rfl ?_
  refine E_iload_n rfl rfl ?_
  refine E_ialN (l := [112, 105, 101, 99, 101, 32, 0, 112, 101, 114, 115, 111, 110, 32, 0, 99, 111, 115, 116, 32, 0, 104, 97, 115, 32, 0, 98, 97, 99, 107, 32, 0, 103, 114, 101, 101, 100, 121, 0, 98, 101, 115, 116, 0]) (v := 32) rfl w82 (by omega) (by omega) rfl ?_
  refine E_if (t := 121) (b := false) rfl rfl (by decide) ?_
  refine E_iinc (y := nI 20) (L2 := [some (.ref 65), some (.int (nI 20)), some (.int (nI (max (max (max a (a + mr0 e n a)) (a + mr1 e n a)) (a + mr2 e n a)))), some (.int (nI 2)), some (.int (nI (a + mr2 e n a))), some (.int c2)]) rfl rfl (by decide) rfl ?_
  refine E_goto (t := 106) rfl rfl ?_
  refine E_aload_n rfl rfl ?_
  refine E_getfield (v := .ref 82) rfl w65 rfl (by decide) rfl ?_
  refine E_iload_n rfl rfl ?_
  refine E_ialN (l := [112, 105, 101, 99, 101, 32, 0, 112, 101, 114, 115, 111, 110, 32, 0, 99, 111, 115, 116, 32, 0, 104, 97, 115, 32, 0, 98, 97, 99, 107, 32, 0, 103, 114, 101, 101, 100, 121, 0, 98, 101, 115, 116, 0]) (v := 0) rfl w82 (by omega) (by omega) rfl ?_
  refine E_if (t := 121) (b := true) rfl rfl (by decide) ?_
  refine E_iinc (y := nI 21) (L2 := [some (.ref 65), some (.int (nI 21)), some (.int (nI (max (max (max a (a + mr0 e n a)) (a + mr1 e n a)) (a + mr2 e n a)))), some (.int (nI 2)), some (.int (nI (a + mr2 e n a))), some (.int c2)]) rfl rfl (by decide) rfl ?_
  refine E_iinc (y := nI 3) (L2 := [some (.ref 65), some (.int (nI 21)), some (.int (nI (max (max (max a (a + mr0 e n a)) (a + mr1 e n a)) (a + mr2 e n a)))), some (.int (nI 3)), some (.int (nI (a + mr2 e n a))), some (.int c2)]) rfl rfl (by decide) rfl ?_
  refine E_goto (t := 9) rfl rfl ?_
  refine E_iload_n rfl rfl ?_
  refine E_bipush (x := nI 7) rfl (by decide) ?_
  refine E_ic (t := 130) (b := false) rfl rfl (by decide) ?_
  refine E_aload_n rfl rfl ?_
  refine E_getfield (v := .int (nI a)) rfl w65 rfl (by decide) rfl ?_
  refine E_istore (L2 := [some (.ref 65), some (.int (nI 21)), some (.int (nI (max (max (max a (a + mr0 e n a)) (a + mr1 e n a)) (a + mr2 e n a)))), some (.int (nI 3)), some (.int (nI a)), some (.int c2)]) rfl rfl ?_
  refine E_iload_n rfl rfl ?_
  refine E_istore (L2 := [some (.ref 65), some (.int (nI 21)), some (.int (nI (max (max (max a (a + mr0 e n a)) (a + mr1 e n a)) (a + mr2 e n a)))), some (.int (nI 3)), some (.int (nI a)), some (.int (nI 21))]) rfl rfl ?_
  refine mw_p3 hj hn ha l_ce hce (f0 := max (max (max a (a + mr0 e n a)) (a + mr1 e n a)) (a + mr2 e n a)) (by omega) (by omega) (fun c3 => ?_)
  refine E_aload_n rfl rfl ?_
  refine E_getfield (v := .ref 82) rfl w65 rfl (by decide) rfl ?_
  refine E_iload_n rfl rfl ?_
  refine E_ialN (l := [112, 105, 101, 99, 101, 32, 0, 112, 101, 114, 115, 111, 110, 32, 0, 99, 111, 115, 116, 32, 0, 104, 97, 115, 32, 0, 98, 97, 99, 107, 32, 0, 103, 114, 101, 101, 100, 121, 0, 98, 101, 115, 116, 0]) (v := 104) rfl w82 (by omega) (by omega) rfl ?_
  refine E_if (t := 121) (b := false) rfl rfl (by decide) ?_
  refine E_iinc (y := nI 22) (L2 := [some (.ref 65), some (.int (nI 22)), some (.int (nI (max (max (max (max a (a + mr0 e n a)) (a + mr1 e n a)) (a + mr2 e n a)) (a + mr3 e n a)))), some (.int (nI 3)), some (.int (nI (a + mr3 e n a))), some (.int c3)]) rfl rfl (by decide) rfl ?_
  refine E_goto (t := 106) rfl rfl ?_
  refine E_aload_n rfl rfl ?_
  refine E_getfield (v := .ref 82) rfl w65 rfl (by decide) rfl ?_
  refine E_iload_n rfl rfl ?_
  refine E_ialN (l := [112, 105, 101, 99, 101, 32, 0, 112, 101, 114, 115, 111, 110, 32, 0, 99, 111, 115, 116, 32, 0, 104, 97, 115, 32, 0, 98, 97, 99, 107, 32, 0, 103, 114, 101, 101, 100, 121, 0, 98, 101, 115, 116, 0]) (v := 97) rfl w82 (by omega) (by omega) rfl ?_
  refine E_if (t := 121) (b := false) rfl rfl (by decide) ?_
  refine E_iinc (y := nI 23) (L2 := [some (.ref 65), some (.int (nI 23)), some (.int (nI (max (max (max (max a (a + mr0 e n a)) (a + mr1 e n a)) (a + mr2 e n a)) (a + mr3 e n a)))), some (.int (nI 3)), some (.int (nI (a + mr3 e n a))), some (.int c3)]) rfl rfl (by decide) rfl ?_
  refine E_goto (t := 106) rfl rfl ?_
  refine E_aload_n rfl rfl ?_
  refine E_getfield (v := .ref 82) rfl w65 rfl (by decide) rfl ?_
  refine E_iload_n rfl rfl ?_
  refine E_ialN (l := [112, 105, 101, 99, 101, 32, 0, 112, 101, 114, 115, 111, 110, 32, 0, 99, 111, 115, 116, 32, 0, 104, 97, 115, 32, 0, 98, 97, 99, 107, 32, 0, 103, 114, 101, 101, 100, 121, 0, 98, 101, 115, 116, 0]) (v := 115) rfl w82 (by omega) (by omega) rfl ?_
  refine E_if (t := 121) (b := false) rfl rfl (by decide) ?_
  refine E_iinc (y := nI 24) (L2 := [some (.ref 65), some (.int (nI 24)), some (.int (nI (max (max (max (max a (a + mr0 e n a)) (a + mr1 e n a)) (a + mr2 e n a)) (a + mr3 e n a)))), some (.int (nI 3)), some (.int (nI (a + mr3 e n a))), some (.int c3)]) rfl rfl (by decide) rfl ?_
  refine E_goto (t := 106) rfl rfl ?_
  refine E_aload_n rfl rfl ?_
  refine E_getfield (v := .ref 82) rfl w65 rfl (by decide) rfl ?_
  refine E_iload_n rfl rfl ?_
  refine E_ialN (l := [112, 105, 101, 99, 101, 32, 0, 112, 101, 114, 115, 111, 110, 32, 0, 99, 111, 115, 116, 32, 0, 104, 97, 115, 32, 0, 98, 97, 99, 107, 32, 0, 103, 114, 101, 101, 100, 121, 0, 98, 101, 115, 116, 0]) (v := 32) rfl w82 (by omega) (by omega) rfl ?_
  refine E_if (t := 121) (b := false) rfl rfl (by decide) ?_
  refine E_iinc (y := nI 25) (L2 := [some (.ref 65), some (.int (nI 25)), some (.int (nI (max (max (max (max a (a + mr0 e n a)) (a + mr1 e n a)) (a + mr2 e n a)) (a + mr3 e n a)))), some (.int (nI 3)), some (.int (nI (a + mr3 e n a))), some (.int c3)]) rfl rfl (by decide) rfl ?_
  refine E_goto (t := 106) rfl rfl ?_
  refine E_aload_n rfl rfl ?_
  refine E_getfield (v := .ref 82) rfl w65 rfl (by decide) rfl ?_
  refine E_iload_n rfl rfl ?_
  refine E_ialN (l := [112, 105, 101, 99, 101, 32, 0, 112, 101, 114, 115, 111, 110, 32, 0, 99, 111, 115, 116, 32, 0, 104, 97, 115, 32, 0, 98, 97, 99, 107, 32, 0, 103, 114, 101, 101, 100, 121, 0, 98, 101, 115, 116, 0]) (v := 0) rfl w82 (by omega) (by omega) rfl ?_
  refine E_if (t := 121) (b := true) rfl rfl (by decide) ?_
  refine E_iinc (y := nI 26) (L2 := [some (.ref 65), some (.int (nI 26)), some (.int (nI (max (max (max (max a (a + mr0 e n a)) (a + mr1 e n a)) (a + mr2 e n a)) (a + mr3 e n a)))), some (.int (nI 3)), some (.int (nI (a + mr3 e n a))), some (.int c3)]) rfl rfl (by decide) rfl ?_
  refine E_iinc (y := nI 4) (L2 := [some (.ref 65), some (.int (nI 26)), some (.int (nI (max (max (max (max a (a + mr0 e n a)) (a + mr1 e n a)) (a + mr2 e n a)) (a + mr3 e n a)))), some (.int (nI 4)), some (.int (nI (a + mr3 e n a))), some (.int c3)]) rfl rfl (by decide) rfl ?_
  refine E_goto (t := 9) rfl rfl ?_
  refine E_iload_n rfl rfl ?_
  refine E_bipush (x := nI 7) rfl (by decide) ?_
  refine E_ic (t := 130) (b := false) rfl rfl (by decide) ?_
  refine E_aload_n rfl rfl ?_
  refine E_getfield (v := .int (nI a)) rfl w65 rfl (by decide) rfl ?_
  refine E_istore (L2 := [some (.ref 65), some (.int (nI 26)), some (.int (nI (max (max (max (max a (a + mr0 e n a)) (a + mr1 e n a)) (a + mr2 e n a)) (a + mr3 e n a)))), some (.int (nI 4)), some (.int (nI a)), some (.int c3)]) rfl rfl ?_
  refine E_iload_n rfl rfl ?_
  refine E_istore (L2 := [some (.ref 65), some (.int (nI 26)), some (.int (nI (max (max (max (max a (a + mr0 e n a)) (a + mr1 e n a)) (a + mr2 e n a)) (a + mr3 e n a)))), some (.int (nI 4)), some (.int (nI a)), some (.int (nI 26))]) rfl rfl ?_
  refine mw_p4 hj hn ha l_ce hce (f0 := max (max (max (max a (a + mr0 e n a)) (a + mr1 e n a)) (a + mr2 e n a)) (a + mr3 e n a)) (by omega) (by omega) (fun c4 => ?_)
  refine E_aload_n rfl rfl ?_
  refine E_getfield (v := .ref 82) rfl w65 rfl (by decide) rfl ?_
  refine E_iload_n rfl rfl ?_
  refine E_ialN (l := [112, 105, 101, 99, 101, 32, 0, 112, 101, 114, 115, 111, 110, 32, 0, 99, 111, 115, 116, 32, 0, 104, 97, 115, 32, 0, 98, 97, 99, 107, 32, 0, 103, 114, 101, 101, 100, 121, 0, 98, 101, 115, 116, 0]) (v := 98) rfl w82 (by omega) (by omega) rfl ?_
  refine E_if (t := 121) (b := false) rfl rfl (by decide) ?_
  refine E_iinc (y := nI 27) (L2 := [some (.ref 65), some (.int (nI 27)), some (.int (nI (max (max (max (max (max a (a + mr0 e n a)) (a + mr1 e n a)) (a + mr2 e n a)) (a + mr3 e n a)) (a + mr4 e n a)))), some (.int (nI 4)), some (.int (nI (a + mr4 e n a))), some (.int c4)]) rfl rfl (by decide) rfl ?_
  refine E_goto (t := 106) rfl rfl ?_
  refine E_aload_n rfl rfl ?_
  refine E_getfield (v := .ref 82) rfl w65 rfl (by decide) rfl ?_
  refine E_iload_n rfl rfl ?_
  refine E_ialN (l := [112, 105, 101, 99, 101, 32, 0, 112, 101, 114, 115, 111, 110, 32, 0, 99, 111, 115, 116, 32, 0, 104, 97, 115, 32, 0, 98, 97, 99, 107, 32, 0, 103, 114, 101, 101, 100, 121, 0, 98, 101, 115, 116, 0]) (v := 97) rfl w82 (by omega) (by omega) rfl ?_
  refine E_if (t := 121) (b := false) rfl rfl (by decide) ?_
  refine E_iinc (y := nI 28) (L2 := [some (.ref 65), some (.int (nI 28)), some (.int (nI (max (max (max (max (max a (a + mr0 e n a)) (a + mr1 e n a)) (a + mr2 e n a)) (a + mr3 e n a)) (a + mr4 e n a)))), some (.int (nI 4)), some (.int (nI (a + mr4 e n a))), some (.int c4)]) rfl rfl (by decide) rfl ?_
  refine E_goto (t := 106) rfl rfl ?_
  refine E_aload_n rfl rfl ?_
  refine E_getfield (v := .ref 82) rfl w65 rfl (by decide) rfl ?_
  refine E_iload_n rfl rfl ?_
  refine E_ialN (l := [112, 105, 101, 99, 101, 32, 0, 112, 101, 114, 115, 111, 110, 32, 0, 99, 111, 115, 116, 32, 0, 104, 97, 115, 32, 0, 98, 97, 99, 107, 32, 0, 103, 114, 101, 101, 100, 121, 0, 98, 101, 115, 116, 0]) (v := 99) rfl w82 (by omega) (by omega) rfl ?_
  refine E_if (t := 121) (b := false) rfl rfl (by decide) ?_
  refine E_iinc (y := nI 29) (L2 := [some (.ref 65), some (.int (nI 29)), some (.int (nI (max (max (max (max (max a (a + mr0 e n a)) (a + mr1 e n a)) (a + mr2 e n a)) (a + mr3 e n a)) (a + mr4 e n a)))), some (.int (nI 4)), some (.int (nI (a + mr4 e n a))), some (.int c4)]) rfl rfl (by decide) rfl ?_
  refine E_goto (t := 106) rfl rfl ?_
  refine E_aload_n rfl rfl ?_
  refine E_getfield (v := .ref 82) rfl w65 rfl (by decide) rfl ?_
  refine E_iload_n rfl rfl ?_
  refine E_ialN (l := [112, 105, 101, 99, 101, 32, 0, 112, 101, 114, 115, 111, 110, 32, 0, 99, 111, 115, 116, 32, 0, 104, 97, 115, 32, 0, 98, 97, 99, 107, 32, 0, 103, 114, 101, 101, 100, 121, 0, 98, 101, 115, 116, 0]) (v := 107) rfl w82 (by omega) (by omega) rfl ?_
  refine E_if (t := 121) (b := false) rfl rfl (by decide) ?_
  refine E_iinc (y := nI 30) (L2 := [some (.ref 65), some (.int (nI 30)), some (.int (nI (max (max (max (max (max a (a + mr0 e n a)) (a + mr1 e n a)) (a + mr2 e n a)) (a + mr3 e n a)) (a + mr4 e n a)))), some (.int (nI 4)), some (.int (nI (a + mr4 e n a))), some (.int c4)]) rfl rfl (by decide) rfl ?_
  refine E_goto (t := 106) rfl rfl ?_
  refine E_aload_n rfl rfl ?_
  refine E_getfield (v := .ref 82) rfl w65 rfl (by decide) rfl ?_
  refine E_iload_n rfl rfl ?_
  refine E_ialN (l := [112, 105, 101, 99, 101, 32, 0, 112, 101, 114, 115, 111, 110, 32, 0, 99, 111, 115, 116, 32, 0, 104, 97, 115, 32, 0, 98, 97, 99, 107, 32, 0, 103, 114, 101, 101, 100, 121, 0, 98, 101, 115, 116, 0]) (v := 32) rfl w82 (by omega) (by omega) rfl ?_
  refine E_if (t := 121) (b := false) rfl rfl (by decide) ?_
  refine E_iinc (y := nI 31) (L2 := [some (.ref 65), some (.int (nI 31)), some (.int (nI (max (max (max (max (max a (a + mr0 e n a)) (a + mr1 e n a)) (a + mr2 e n a)) (a + mr3 e n a)) (a + mr4 e n a)))), some (.int (nI 4)), some (.int (nI (a + mr4 e n a))), some (.int c4)]) rfl rfl (by decide) rfl ?_
  refine E_goto (t := 106) rfl rfl ?_
  refine E_aload_n rfl rfl ?_
  refine E_getfield (v := .ref 82) rfl w65 rfl (by decide) rfl ?_
  refine E_iload_n rfl rfl ?_
  refine E_ialN (l := [112, 105, 101, 99, 101, 32, 0, 112, 101, 114, 115, 111, 110, 32, 0, 99, 111, 115, 116, 32, 0, 104, 97, 115, 32, 0, 98, 97, 99, 107, 32, 0, 103, 114, 101, 101, 100, 121, 0, 98, 101, 115, 116, 0]) (v := 0) rfl w82 (by omega) (by omega) rfl ?_
  refine E_if (t := 121) (b := true) rfl rfl (by decide) ?_
  refine E_iinc (y := nI 32) (L2 := [some (.ref 65), some (.int (nI 32)), some (.int (nI (max (max (max (max (max a (a + mr0 e n a)) (a + mr1 e n a)) (a + mr2 e n a)) (a + mr3 e n a)) (a + mr4 e n a)))), some (.int (nI 4)), some (.int (nI (a + mr4 e n a))), some (.int c4)]) rfl rfl (by decide) rfl ?_
  refine E_iinc (y := nI 5) (L2 := [some (.ref 65), some (.int (nI 32)), some (.int (nI (max (max (max (max (max a (a + mr0 e n a)) (a + mr1 e n a)) (a + mr2 e n a)) (a + mr3 e n a)) (a + mr4 e n a)))), some (.int (nI 5)), some (.int (nI (a + mr4 e n a))), some (.int c4)]) rfl rfl (by decide) rfl ?_
  refine E_goto (t := 9) rfl rfl ?_
  refine E_iload_n rfl rfl ?_
  refine E_bipush (x := nI 7) rfl (by decide) ?_
  refine E_ic (t := 130) (b := false) rfl rfl (by decide) ?_
  refine E_aload_n rfl rfl ?_
  refine E_getfield (v := .int (nI a)) rfl w65 rfl (by decide) rfl ?_
  refine E_istore (L2 := [some (.ref 65), some (.int (nI 32)), some (.int (nI (max (max (max (max (max a (a + mr0 e n a)) (a + mr1 e n a)) (a + mr2 e n a)) (a + mr3 e n a)) (a + mr4 e n a)))), some (.int (nI 5)), some (.int (nI a)), some (.int c4)]) rfl rfl ?_
  refine E_iload_n rfl rfl ?_
  refine E_istore (L2 := [some (.ref 65), some (.int (nI 32)), some (.int (nI (max (max (max (max (max a (a + mr0 e n a)) (a + mr1 e n a)) (a + mr2 e n a)) (a + mr3 e n a)) (a + mr4 e n a)))), some (.int (nI 5)), some (.int (nI a)), some (.int (nI 32))]) rfl rfl ?_
  refine mw_p5 hj hn ha l_ce hce (f0 := max (max (max (max (max a (a + mr0 e n a)) (a + mr1 e n a)) (a + mr2 e n a)) (a + mr3 e n a)) (a + mr4 e n a)) (by omega) (by omega) (fun c5 => ?_)
  refine E_aload_n rfl rfl ?_
  refine E_getfield (v := .ref 82) rfl w65 rfl (by decide) rfl ?_
  refine E_iload_n rfl rfl ?_
  refine E_ialN (l := [112, 105, 101, 99, 101, 32, 0, 112, 101, 114, 115, 111, 110, 32, 0, 99, 111, 115, 116, 32, 0, 104, 97, 115, 32, 0, 98, 97, 99, 107, 32, 0, 103, 114, 101, 101, 100, 121, 0, 98, 101, 115, 116, 0]) (v := 103) rfl w82 (by omega) (by omega) rfl ?_
  refine E_if (t := 121) (b := false) rfl rfl (by decide) ?_
  refine E_iinc (y := nI 33) (L2 := [some (.ref 65), some (.int (nI 33)), some (.int (nI (max (max (max (max (max (max a (a + mr0 e n a)) (a + mr1 e n a)) (a + mr2 e n a)) (a + mr3 e n a)) (a + mr4 e n a)) (a + mr5 e n a)))), some (.int (nI 5)), some (.int (nI (a + mr5 e n a))), some (.int c5)]) rfl rfl (by decide) rfl ?_
  refine E_goto (t := 106) rfl rfl ?_
  refine E_aload_n rfl rfl ?_
  refine E_getfield (v := .ref 82) rfl w65 rfl (by decide) rfl ?_
  refine E_iload_n rfl rfl ?_
  refine E_ialN (l := [112, 105, 101, 99, 101, 32, 0, 112, 101, 114, 115, 111, 110, 32, 0, 99, 111, 115, 116, 32, 0, 104, 97, 115, 32, 0, 98, 97, 99, 107, 32, 0, 103, 114, 101, 101, 100, 121, 0, 98, 101, 115, 116, 0]) (v := 114) rfl w82 (by omega) (by omega) rfl ?_
  refine E_if (t := 121) (b := false) rfl rfl (by decide) ?_
  refine E_iinc (y := nI 34) (L2 := [some (.ref 65), some (.int (nI 34)), some (.int (nI (max (max (max (max (max (max a (a + mr0 e n a)) (a + mr1 e n a)) (a + mr2 e n a)) (a + mr3 e n a)) (a + mr4 e n a)) (a + mr5 e n a)))), some (.int (nI 5)), some (.int (nI (a + mr5 e n a))), some (.int c5)]) rfl rfl (by decide) rfl ?_
  refine E_goto (t := 106) rfl rfl ?_
  refine E_aload_n rfl rfl ?_
  refine E_getfield (v := .ref 82) rfl w65 rfl (by decide) rfl ?_
  refine E_iload_n rfl rfl ?_
  refine E_ialN (l := [112, 105, 101, 99, 101, 32, 0, 112, 101, 114, 115, 111, 110, 32, 0, 99, 111, 115, 116, 32, 0, 104, 97, 115, 32, 0, 98, 97, 99, 107, 32, 0, 103, 114, 101, 101, 100, 121, 0, 98, 101, 115, 116, 0]) (v := 101) rfl w82 (by omega) (by omega) rfl ?_
  refine E_if (t := 121) (b := false) rfl rfl (by decide) ?_
  refine E_iinc (y := nI 35) (L2 := [some (.ref 65), some (.int (nI 35)), some (.int (nI (max (max (max (max (max (max a (a + mr0 e n a)) (a + mr1 e n a)) (a + mr2 e n a)) (a + mr3 e n a)) (a + mr4 e n a)) (a + mr5 e n a)))), some (.int (nI 5)), some (.int (nI (a + mr5 e n a))), some (.int c5)]) rfl rfl (by decide) rfl ?_
  refine E_goto (t := 106) rfl rfl ?_
  refine E_aload_n rfl rfl ?_
  refine E_getfield (v := .ref 82) rfl w65 rfl (by decide) rfl ?_
  refine E_iload_n rfl rfl ?_
  refine E_ialN (l := [112, 105, 101, 99, 101, 32, 0, 112, 101, 114, 115, 111, 110, 32, 0, 99, 111, 115, 116, 32, 0, 104, 97, 115, 32, 0, 98, 97, 99, 107, 32, 0, 103, 114, 101, 101, 100, 121, 0, 98, 101, 115, 116, 0]) (v := 101) rfl w82 (by omega) (by omega) rfl ?_
  refine E_if (t := 121) (b := false) rfl rfl (by decide) ?_
  refine E_iinc (y := nI 36) (L2 := [some (.ref 65), some (.int (nI 36)), some (.int (nI (max (max (max (max (max (max a (a + mr0 e n a)) (a + mr1 e n a)) (a + mr2 e n a)) (a + mr3 e n a)) (a + mr4 e n a)) (a + mr5 e n a)))), some (.int (nI 5)), some (.int (nI (a + mr5 e n a))), some (.int c5)]) rfl rfl (by decide) rfl ?_
  refine E_goto (t := 106) rfl rfl ?_
  refine E_aload_n rfl rfl ?_
  refine E_getfield (v := .ref 82) rfl w65 rfl (by decide) rfl ?_
  refine E_iload_n rfl rfl ?_
  refine E_ialN (l := [112, 105, 101, 99, 101, 32, 0, 112, 101, 114, 115, 111, 110, 32, 0, 99, 111, 115, 116, 32, 0, 104, 97, 115, 32, 0, 98, 97, 99, 107, 32, 0, 103, 114, 101, 101, 100, 121, 0, 98, 101, 115, 116, 0]) (v := 100) rfl w82 (by omega) (by omega) rfl ?_
  refine E_if (t := 121) (b := false) rfl rfl (by decide) ?_
  refine E_iinc (y := nI 37) (L2 := [some (.ref 65), some (.int (nI 37)), some (.int (nI (max (max (max (max (max (max a (a + mr0 e n a)) (a + mr1 e n a)) (a + mr2 e n a)) (a + mr3 e n a)) (a + mr4 e n a)) (a + mr5 e n a)))), some (.int (nI 5)), some (.int (nI (a + mr5 e n a))), some (.int c5)]) rfl rfl (by decide) rfl ?_
  refine E_goto (t := 106) rfl rfl ?_
  refine E_aload_n rfl rfl ?_
  refine E_getfield (v := .ref 82) rfl w65 rfl (by decide) rfl ?_
  refine E_iload_n rfl rfl ?_
  refine E_ialN (l := [112, 105, 101, 99, 101, 32, 0, 112, 101, 114, 115, 111, 110, 32, 0, 99, 111, 115, 116, 32, 0, 104, 97, 115, 32, 0, 98, 97, 99, 107, 32, 0, 103, 114, 101, 101, 100, 121, 0, 98, 101, 115, 116, 0]) (v := 121) rfl w82 (by omega) (by omega) rfl ?_
  refine E_if (t := 121) (b := false) rfl rfl (by decide) ?_
  refine E_iinc (y := nI 38) (L2 := [some (.ref 65), some (.int (nI 38)), some (.int (nI (max (max (max (max (max (max a (a + mr0 e n a)) (a + mr1 e n a)) (a + mr2 e n a)) (a + mr3 e n a)) (a + mr4 e n a)) (a + mr5 e n a)))), some (.int (nI 5)), some (.int (nI (a + mr5 e n a))), some (.int c5)]) rfl rfl (by decide) rfl ?_
  refine E_goto (t := 106) rfl rfl ?_
  refine E_aload_n rfl rfl ?_
  refine E_getfield (v := .ref 82) rfl w65 rfl (by decide) rfl ?_
  refine E_iload_n rfl rfl ?_
  refine E_ialN (l := [112, 105, 101, 99, 101, 32, 0, 112, 101, 114, 115, 111, 110, 32, 0, 99, 111, 115, 116, 32, 0, 104, 97, 115, 32, 0, 98, 97, 99, 107, 32, 0, 103, 114, 101, 101, 100, 121, 0, 98, 101, 115, 116, 0]) (v := 0) rfl w82 (by omega) (by omega) rfl ?_
  refine E_if (t := 121) (b := true) rfl rfl (by decide) ?_
  refine E_iinc (y := nI 39) (L2 := [some (.ref 65), some (.int (nI 39)), some (.int (nI (max (max (max (max (max (max a (a + mr0 e n a)) (a + mr1 e n a)) (a + mr2 e n a)) (a + mr3 e n a)) (a + mr4 e n a)) (a + mr5 e n a)))), some (.int (nI 5)), some (.int (nI (a + mr5 e n a))), some (.int c5)]) rfl rfl (by decide) rfl ?_
  refine E_iinc (y := nI 6) (L2 := [some (.ref 65), some (.int (nI 39)), some (.int (nI (max (max (max (max (max (max a (a + mr0 e n a)) (a + mr1 e n a)) (a + mr2 e n a)) (a + mr3 e n a)) (a + mr4 e n a)) (a + mr5 e n a)))), some (.int (nI 6)), some (.int (nI (a + mr5 e n a))), some (.int c5)]) rfl rfl (by decide) rfl ?_
  refine E_goto (t := 9) rfl rfl ?_
  refine E_iload_n rfl rfl ?_
  refine E_bipush (x := nI 7) rfl (by decide) ?_
  refine E_ic (t := 130) (b := false) rfl rfl (by decide) ?_
  refine E_aload_n rfl rfl ?_
  refine E_getfield (v := .int (nI a)) rfl w65 rfl (by decide) rfl ?_
  refine E_istore (L2 := [some (.ref 65), some (.int (nI 39)), some (.int (nI (max (max (max (max (max (max a (a + mr0 e n a)) (a + mr1 e n a)) (a + mr2 e n a)) (a + mr3 e n a)) (a + mr4 e n a)) (a + mr5 e n a)))), some (.int (nI 6)), some (.int (nI a)), some (.int c5)]) rfl rfl ?_
  refine E_iload_n rfl rfl ?_
  refine E_istore (L2 := [some (.ref 65), some (.int (nI 39)), some (.int (nI (max (max (max (max (max (max a (a + mr0 e n a)) (a + mr1 e n a)) (a + mr2 e n a)) (a + mr3 e n a)) (a + mr4 e n a)) (a + mr5 e n a)))), some (.int (nI 6)), some (.int (nI a)), some (.int (nI 39))]) rfl rfl ?_
  refine mw_p6 hj hn ha l_ce hce (f0 := max (max (max (max (max (max a (a + mr0 e n a)) (a + mr1 e n a)) (a + mr2 e n a)) (a + mr3 e n a)) (a + mr4 e n a)) (a + mr5 e n a)) (by omega) (by omega) (fun c6 => ?_)
  refine E_aload_n rfl rfl ?_
  refine E_getfield (v := .ref 82) rfl w65 rfl (by decide) rfl ?_
  refine E_iload_n rfl rfl ?_
  refine E_ialN (l := [112, 105, 101, 99, 101, 32, 0, 112, 101, 114, 115, 111, 110, 32, 0, 99, 111, 115, 116, 32, 0, 104, 97, 115, 32, 0, 98, 97, 99, 107, 32, 0, 103, 114, 101, 101, 100, 121, 0, 98, 101, 115, 116, 0]) (v := 98) rfl w82 (by omega) (by omega) rfl ?_
  refine E_if (t := 121) (b := false) rfl rfl (by decide) ?_
  refine E_iinc (y := nI 40) (L2 := [some (.ref 65), some (.int (nI 40)), some (.int (nI (max (max (max (max (max (max (max a (a + mr0 e n a)) (a + mr1 e n a)) (a + mr2 e n a)) (a + mr3 e n a)) (a + mr4 e n a)) (a + mr5 e n a)) (a + mr6 e n a)))), some (.int (nI 6)), some (.int (nI (a + mr6 e n a))), some (.int c6)]) rfl rfl (by decide) rfl ?_
  refine E_goto (t := 106) rfl rfl ?_
  refine E_aload_n rfl rfl ?_
  refine E_getfield (v := .ref 82) rfl w65 rfl (by decide) rfl ?_
  refine E_iload_n rfl rfl ?_
  refine E_ialN (l := [112, 105, 101, 99, 101, 32, 0, 112, 101, 114, 115, 111, 110, 32, 0, 99, 111, 115, 116, 32, 0, 104, 97, 115, 32, 0, 98, 97, 99, 107, 32, 0, 103, 114, 101, 101, 100, 121, 0, 98, 101, 115, 116, 0]) (v := 101) rfl w82 (by omega) (by omega) rfl ?_
  refine E_if (t := 121) (b := false) rfl rfl (by decide) ?_
  refine E_iinc (y := nI 41) (L2 := [some (.ref 65), some (.int (nI 41)), some (.int (nI (max (max (max (max (max (max (max a (a + mr0 e n a)) (a + mr1 e n a)) (a + mr2 e n a)) (a + mr3 e n a)) (a + mr4 e n a)) (a + mr5 e n a)) (a + mr6 e n a)))), some (.int (nI 6)), some (.int (nI (a + mr6 e n a))), some (.int c6)]) rfl rfl (by decide) rfl ?_
  refine E_goto (t := 106) rfl rfl ?_
  refine E_aload_n rfl rfl ?_
  refine E_getfield (v := .ref 82) rfl w65 rfl (by decide) rfl ?_
  refine E_iload_n rfl rfl ?_
  refine E_ialN (l := [112, 105, 101, 99, 101, 32, 0, 112, 101, 114, 115, 111, 110, 32, 0, 99, 111, 115, 116, 32, 0, 104, 97, 115, 32, 0, 98, 97, 99, 107, 32, 0, 103, 114, 101, 101, 100, 121, 0, 98, 101, 115, 116, 0]) (v := 115) rfl w82 (by omega) (by omega) rfl ?_
  refine E_if (t := 121) (b := false) rfl rfl (by decide) ?_
  refine E_iinc (y := nI 42) (L2 := [some (.ref 65), some (.int (nI 42)), some (.int (nI (max (max (max (max (max (max (max a (a + mr0 e n a)) (a + mr1 e n a)) (a + mr2 e n a)) (a + mr3 e n a)) (a + mr4 e n a)) (a + mr5 e n a)) (a + mr6 e n a)))), some (.int (nI 6)), some (.int (nI (a + mr6 e n a))), some (.int c6)]) rfl rfl (by decide) rfl ?_
  refine E_goto (t := 106) rfl rfl ?_
  refine E_aload_n rfl rfl ?_
  refine E_getfield (v := .ref 82) rfl w65 rfl (by decide) rfl ?_
  refine E_iload_n rfl rfl ?_
  refine E_ialN (l := [112, 105, 101, 99, 101, 32, 0, 112, 101, 114, 115, 111, 110, 32, 0, 99, 111, 115, 116, 32, 0, 104, 97, 115, 32, 0, 98, 97, 99, 107, 32, 0, 103, 114, 101, 101, 100, 121, 0, 98, 101, 115, 116, 0]) (v := 116) rfl w82 (by omega) (by omega) rfl ?_
  refine E_if (t := 121) (b := false) rfl rfl (by decide) ?_
  refine E_iinc (y := nI 43) (L2 := [some (.ref 65), some (.int (nI 43)), some (.int (nI (max (max (max (max (max (max (max a (a + mr0 e n a)) (a + mr1 e n a)) (a + mr2 e n a)) (a + mr3 e n a)) (a + mr4 e n a)) (a + mr5 e n a)) (a + mr6 e n a)))), some (.int (nI 6)), some (.int (nI (a + mr6 e n a))), some (.int c6)]) rfl rfl (by decide) rfl ?_
  refine E_goto (t := 106) rfl rfl ?_
  refine E_aload_n rfl rfl ?_
  refine E_getfield (v := .ref 82) rfl w65 rfl (by decide) rfl ?_
  refine E_iload_n rfl rfl ?_
  refine E_ialN (l := [112, 105, 101, 99, 101, 32, 0, 112, 101, 114, 115, 111, 110, 32, 0, 99, 111, 115, 116, 32, 0, 104, 97, 115, 32, 0, 98, 97, 99, 107, 32, 0, 103, 114, 101, 101, 100, 121, 0, 98, 101, 115, 116, 0]) (v := 0) rfl w82 (by omega) (by omega) rfl ?_
  refine E_if (t := 121) (b := true) rfl rfl (by decide) ?_
  refine E_iinc (y := nI 44) (L2 := [some (.ref 65), some (.int (nI 44)), some (.int (nI (max (max (max (max (max (max (max a (a + mr0 e n a)) (a + mr1 e n a)) (a + mr2 e n a)) (a + mr3 e n a)) (a + mr4 e n a)) (a + mr5 e n a)) (a + mr6 e n a)))), some (.int (nI 6)), some (.int (nI (a + mr6 e n a))), some (.int c6)]) rfl rfl (by decide) rfl ?_
  refine E_iinc (y := nI 7) (L2 := [some (.ref 65), some (.int (nI 44)), some (.int (nI (max (max (max (max (max (max (max a (a + mr0 e n a)) (a + mr1 e n a)) (a + mr2 e n a)) (a + mr3 e n a)) (a + mr4 e n a)) (a + mr5 e n a)) (a + mr6 e n a)))), some (.int (nI 7)), some (.int (nI (a + mr6 e n a))), some (.int c6)]) rfl rfl (by decide) rfl ?_
  refine E_goto (t := 9) rfl rfl ?_
  refine E_iload_n rfl rfl ?_
  refine E_bipush (x := nI 7) rfl (by decide) ?_
  refine E_ic (t := 130) (b := true) rfl rfl (by decide) ?_
  refine E_aload_n rfl rfl ?_
  refine E_iload_n rfl rfl ?_
  refine E_putfield (cs2 := (ww im lf s d k ls rf rz ra rn rq lt m1 m2 m3 m4 bd fc hd sz el q (fUp (fUp (fUp (fUp (fUp (fUp g 27 (nI (160 * j))) 29 (nI n)) 6 (-1)) 28 (nI a)) 30 x30) 31 (nI (max (max (max (max (max (max (max a (a + mr0 e n a)) (a + mr1 e n a)) (a + mr2 e n a)) (a + mr3 e n a)) (a + mr4 e n a)) (a + mr5 e n a)) (a + mr6 e n a)))) fm hm so si sh ce ca td wa kp la bf oo bo pw ow tr)) rfl w65 rfl (by decide) (Nat.le_of_ble_eq_true rfl) rfl rfl rfl (w_pt65_31.trans (by rw [gn31])) ?_
  refine E_iconst (x := (-1)) rfl (by decide) ?_
  exact E_iret rfl rfl
set_option maxHeartbeats 1000000 in
theorem m_wd2b {e : List Int64} {n a j : Nat} {x30 x31 : Int32} {q : ab_q} (hj : j < 8) (hn : n ≤ 160) (ha : a ≤ n) (l_ce : ce.length = 1280) (hce : ∀ p, p < 160 → e.getD p 0 = ce.getD (160 * j + p) 0) (hw : wd e n a = 2) (hb : chB e n (a + 4) 32 = true) : Ev ab_Z0 1 158 [.ref 65] (ww im lf s d k ls rf rz ra rn rq lt m1 m2 m3 m4 bd fc hd sz el q (fUp (fUp (fUp (fUp (fUp (fUp g 27 (nI (160 * j))) 29 (nI n)) 6 (-1)) 28 (nI a)) 30 x30) 31 x31) fm hm so si sh ce ca td wa kp la bf oo bo pw ow tr) (some (.int (nI 2)), (ww im lf s d k ls rf rz ra rn rq lt m1 m2 m3 m4 bd fc hd sz el q (fUp (fUp (fUp (fUp (fUp (fUp g 27 (nI (160 * j))) 29 (nI n)) 6 (-1)) 28 (nI (a + 5))) 30 x30) 31 x31) fm hm so si sh ce ca td wa kp la bf oo bo pw ow tr)) := by
  have : ([112, 105, 101, 99, 101, 32, 0, 112, 101, 114, 115, 111, 110, 32, 0, 99, 111, 115, 116, 32, 0, 104, 97, 115, 32, 0, 98, 97, 99, 107, 32, 0, 103, 114, 101, 101, 100, 121, 0, 98, 101, 115, 116, 0] : List Nat).length = 44 := rfl
  have hwc := wd_c e n a
  have hs0 := mrS_0 e n a
  have hl0 := mr0_le e n a
  have hs1 := mrS_1 e n a
  have hl1 := mr1_le e n a
  have hs2 := mrS_2 e n a
  have hl2 := mr2_le e n a
  have hs3 := mrS_3 e n a
  have hl3 := mr3_le e n a
  have hs4 := mrS_4 e n a
  have hl4 := mr4_le e n a
  have hs5 := mrS_5 e n a
  have hl5 := mr5_le e n a
  have hs6 := mrS_6 e n a
  have hl6 := mr6_le e n a
  have hu0 : mr0 e n a = mj0 e n a := by rw [hs0]; exact if_neg (fun z => by omega)
  have hj0_ := mj0_le e n a
  have hu1 : mr1 e n a = mj1 e n a := by rw [hs1]; exact if_neg (fun z => by omega)
  have hj1_ := mj1_le e n a
  have hu2 : mr2 e n a = 5 := by rw [hs2]; exact if_pos ⟨by omega, hb⟩
  refine Ef.in (md := mX6_word) (L := [some (.ref 65), none, none, none, none, none]) rfl (Nat.le_of_ble_eq_true rfl) rfl ?_
  refine E_iconst (x := nI 0) rfl (by decide) ?_
  refine E_istore_n (L2 := [some (.ref 65), some (.int (nI 0)), none, none, none, none]) rfl rfl ?_
  refine E_aload_n rfl rfl ?_
  refine E_getfield (v := .int (nI a)) rfl w65 rfl (by decide) rfl ?_
  refine E_istore_n (L2 := [some (.ref 65), some (.int (nI 0)), some (.int (nI a)), none, none, none]) rfl rfl ?_
  refine E_iconst (x := nI 0) rfl (by decide) ?_
  refine E_istore_n (L2 := [some (.ref 65), some (.int (nI 0)), some (.int (nI a)), some (.int (nI 0)), none, none]) rfl rfl ?_
  refine E_iload_n rfl rfl ?_
  refine E_bipush (x := nI 7) rfl (by decide) ?_
  refine E_ic (t := 130) (b := false) rfl rfl (by decide) ?_
  refine E_aload_n rfl rfl ?_
  refine E_getfield (v := .int (nI a)) rfl w65 rfl (by decide) rfl ?_
  refine E_istore (L2 := [some (.ref 65), some (.int (nI 0)), some (.int (nI a)), some (.int (nI 0)), some (.int (nI a)), none]) rfl rfl ?_
  refine E_iload_n rfl rfl ?_
  refine E_istore (L2 := [some (.ref 65), some (.int (nI 0)), some (.int (nI a)), some (.int (nI 0)), some (.int (nI a)), some (.int (nI 0))]) rfl rfl ?_
  refine mw_p0 hj hn ha l_ce hce (f0 := a) (by omega) (by omega) (fun c0 => ?_)
  refine E_aload_n rfl rfl ?_
  refine E_getfield (v := .ref 82) rfl w65 rfl (by decide) rfl ?_
  refine E_iload_n rfl rfl ?_
  refine E_ialN (l := [112, 105, 101, 99, 101, 32, 0, 112, 101, 114, 115, 111, 110, 32, 0, 99, 111, 115, 116, 32, 0, 104, 97, 115, 32, 0, 98, 97, 99, 107, 32, 0, 103, 114, 101, 101, 100, 121, 0, 98, 101, 115, 116, 0]) (v := 112) rfl w82 (by omega) (by omega) rfl ?_
  refine E_if (t := 121) (b := false) rfl rfl (by decide) ?_
  refine E_iinc (y := nI 1) (L2 := [some (.ref 65), some (.int (nI 1)), some (.int (nI (max a (a + mr0 e n a)))), some (.int (nI 0)), some (.int (nI (a + mr0 e n a))), some (.int c0)]) rfl rfl (by decide) rfl ?_
  refine E_goto (t := 106) rfl rfl ?_
  refine E_aload_n rfl rfl ?_
  refine E_getfield (v := .ref 82) rfl w65 rfl (by decide) rfl ?_
  refine E_iload_n rfl rfl ?_
  refine E_ialN (l := [112, 105, 101, 99, 101, 32, 0, 112, 101, 114, 115, 111, 110, 32, 0, 99, 111, 115, 116, 32, 0, 104, 97, 115, 32, 0, 98, 97, 99, 107, 32, 0, 103, 114, 101, 101, 100, 121, 0, 98, 101, 115, 116, 0]) (v := 105) rfl w82 (by omega) (by omega) rfl ?_
  refine E_if (t := 121) (b := false) rfl rfl (by decide) ?_
  refine E_iinc (y := nI 2) (L2 := [some (.ref 65), some (.int (nI 2)), some (.int (nI (max a (a + mr0 e n a)))), some (.int (nI 0)), some (.int (nI (a + mr0 e n a))), some (.int c0)]) rfl rfl (by decide) rfl ?_
  refine E_goto (t := 106) rfl rfl ?_
  refine E_aload_n rfl rfl ?_
  refine E_getfield (v := .ref 82) rfl w65 rfl (by decide) rfl ?_
  refine E_iload_n rfl rfl ?_
  refine E_ialN (l := [112, 105, 101, 99, 101, 32, 0, 112, 101, 114, 115, 111, 110, 32, 0, 99, 111, 115, 116, 32, 0, 104, 97, 115, 32, 0, 98, 97, 99, 107, 32, 0, 103, 114, 101, 101, 100, 121, 0, 98, 101, 115, 116, 0]) (v := 101) rfl w82 (by omega) (by omega) rfl ?_
  refine E_if (t := 121) (b := false) rfl rfl (by decide) ?_
  refine E_iinc (y := nI 3) (L2 := [some (.ref 65), some (.int (nI 3)), some (.int (nI (max a (a + mr0 e n a)))), some (.int (nI 0)), some (.int (nI (a + mr0 e n a))), some (.int c0)]) rfl rfl (by decide) rfl ?_
  refine E_goto (t := 106) rfl rfl ?_
  refine E_aload_n rfl rfl ?_
  refine E_getfield (v := .ref 82) rfl w65 rfl (by decide) rfl ?_
  refine E_iload_n rfl rfl ?_
  refine E_ialN (l := [112, 105, 101, 99, 101, 32, 0, 112, 101, 114, 115, 111, 110, 32, 0, 99, 111, 115, 116, 32, 0, 104, 97, 115, 32, 0, 98, 97, 99, 107, 32, 0, 103, 114, 101, 101, 100, 121, 0, 98, 101, 115, 116, 0]) (v := 99) rfl w82 (by omega) (by omega) rfl ?_
  refine E_if (t := 121) (b := false) rfl rfl (by decide) ?_
  refine E_iinc (y := nI 4) (L2 := [some (.ref 65), some (.int (nI 4)), some (.int (nI (max a (a + mr0 e n a)))), some (.int (nI 0)), some (.int (nI (a + mr0 e n a))), some (.int c0)]) rfl rfl (by decide) rfl ?_
  refine E_goto (t := 106) rfl rfl ?_
  refine E_aload_n rfl rfl ?_
  refine E_getfield (v := .ref 82) rfl w65 rfl (by decide) rfl ?_
  refine E_iload_n rfl rfl ?_
  refine E_ialN (l := [112, 105, 101, 99, 101, 32, 0, 112, 101, 114, 115, 111, 110, 32, 0, 99, 111, 115, 116, 32, 0, 104, 97, 115, 32, 0, 98, 97, 99, 107, 32, 0, 103, 114, 101, 101, 100, 121, 0, 98, 101, 115, 116, 0]) (v := 101) rfl w82 (by omega) (by omega) rfl ?_
  refine E_if (t := 121) (b := false) rfl rfl (by decide) ?_
  refine E_iinc (y := nI 5) (L2 := [some (.ref 65), some (.int (nI 5)), some (.int (nI (max a (a + mr0 e n a)))), some (.int (nI 0)), some (.int (nI (a + mr0 e n a))), some (.int c0)]) rfl rfl (by decide) rfl ?_
  refine E_goto (t := 106) rfl rfl ?_
  refine E_aload_n rfl rfl ?_
  refine E_getfield (v := .ref 82) rfl w65 rfl (by decide) rfl ?_
  refine E_iload_n rfl rfl ?_
  refine E_ialN (l := [112, 105, 101, 99, 101, 32, 0, 112, 101, 114, 115, 111, 110, 32, 0, 99, 111, 115, 116, 32, 0, 104, 97, 115, 32, 0, 98, 97, 99, 107, 32, 0, 103, 114, 101, 101, 100, 121, 0, 98, 101, 115, 116, 0]) (v := 32) rfl w82 (by omega) (by omega) rfl ?_
  refine E_if (t := 121) (b := false) rfl rfl (by decide) ?_
  refine E_iinc (y := nI 6) (L2 := [some (.ref 65), some (.int (nI 6)), some (.int (nI (max a (a + mr0 e n a)))), some (.int (nI 0)), some (.int (nI (a + mr0 e n a))), some (.int c0)]) rfl rfl (by decide) rfl ?_
  refine E_goto (t := 106) rfl rfl ?_
  refine E_aload_n rfl rfl ?_
  refine E_getfield (v := .ref 82) rfl w65 rfl (by decide) rfl ?_
  refine E_iload_n rfl rfl ?_
  refine E_ialN (l := [112, 105, 101, 99, 101, 32, 0, 112, 101, 114, 115, 111, 110, 32, 0, 99, 111, 115, 116, 32, 0, 104, 97, 115, 32, 0, 98, 97, 99, 107, 32, 0, 103, 114, 101, 101, 100, 121, 0, 98, 101, 115, 116, 0]) (v := 0) rfl w82 (by omega) (by omega) rfl ?_
  refine E_if (t := 121) (b := true) rfl rfl (by decide) ?_
  refine E_iinc (y := nI 7) (L2 := [some (.ref 65), some (.int (nI 7)), some (.int (nI (max a (a + mr0 e n a)))), some (.int (nI 0)), some (.int (nI (a + mr0 e n a))), some (.int c0)]) rfl rfl (by decide) rfl ?_
  refine E_iinc (y := nI 1) (L2 := [some (.ref 65), some (.int (nI 7)), some (.int (nI (max a (a + mr0 e n a)))), some (.int (nI 1)), some (.int (nI (a + mr0 e n a))), some (.int c0)]) rfl rfl (by decide) rfl ?_
  refine E_goto (t := 9) rfl rfl ?_
  refine E_iload_n rfl rfl ?_
  refine E_bipush (x := nI 7) rfl (by decide) ?_
  refine E_ic (t := 130) (b := false) rfl rfl (by decide) ?_
  refine E_aload_n rfl rfl ?_
  refine E_getfield (v := .int (nI a)) rfl w65 rfl (by decide) rfl ?_
  refine E_istore (L2 := [some (.ref 65), some (.int (nI 7)), some (.int (nI (max a (a + mr0 e n a)))), some (.int (nI 1)), some (.int (nI a)), some (.int c0)]) rfl rfl ?_
  refine E_iload_n rfl rfl ?_
  refine E_istore (L2 := [some (.ref 65), some (.int (nI 7)), some (.int (nI (max a (a + mr0 e n a)))), some (.int (nI 1)), some (.int (nI a)), some (.int (nI 7))]) rfl rfl ?_
  refine mw_p1 hj hn ha l_ce hce (f0 := max a (a + mr0 e n a)) (by omega) (by omega) (fun c1 => ?_)
  refine E_aload_n rfl rfl ?_
  refine E_getfield (v := .ref 82) rfl w65 rfl (by decide) rfl ?_
  refine E_iload_n rfl rfl ?_
  refine E_ialN (l := [112, 105, 101, 99, 101, 32, 0, 112, 101, 114, 115, 111, 110, 32, 0, 99, 111, 115, 116, 32, 0, 104, 97, 115, 32, 0, 98, 97, 99, 107, 32, 0, 103, 114, 101, 101, 100, 121, 0, 98, 101, 115, 116, 0]) (v := 112) rfl w82 (by omega) (by omega) rfl ?_
  refine E_if (t := 121) (b := false) rfl rfl (by decide) ?_
  refine E_iinc (y := nI 8) (L2 := [some (.ref 65), some (.int (nI 8)), some (.int (nI (max (max a (a + mr0 e n a)) (a + mr1 e n a)))), some (.int (nI 1)), some (.int (nI (a + mr1 e n a))), some (.int c1)]) rfl rfl (by decide) rfl ?_
  refine E_goto (t := 106) rfl rfl ?_
  refine E_aload_n rfl rfl ?_
  refine E_getfield (v := .ref 82) rfl w65 rfl (by decide) rfl ?_
  refine E_iload_n rfl rfl ?_
  refine E_ialN (l := [112, 105, 101, 99, 101, 32, 0, 112, 101, 114, 115, 111, 110, 32, 0, 99, 111, 115, 116, 32, 0, 104, 97, 115, 32, 0, 98, 97, 99, 107, 32, 0, 103, 114, 101, 101, 100, 121, 0, 98, 101, 115, 116, 0]) (v := 101) rfl w82 (by omega) (by omega) rfl ?_
  refine E_if (t := 121) (b := false) rfl rfl (by decide) ?_
  refine E_iinc (y := nI 9) (L2 := [some (.ref 65), some (.int (nI 9)), some (.int (nI (max (max a (a + mr0 e n a)) (a + mr1 e n a)))), some (.int (nI 1)), some (.int (nI (a + mr1 e n a))), some (.int c1)]) rfl rfl (by decide) rfl ?_
  refine E_goto (t := 106) rfl rfl ?_
  refine E_aload_n rfl rfl ?_
  refine E_getfield (v := .ref 82) rfl w65 rfl (by decide) rfl ?_
  refine E_iload_n rfl rfl ?_
  refine E_ialN (l := [112, 105, 101, 99, 101, 32, 0, 112, 101, 114, 115, 111, 110, 32, 0, 99, 111, 115, 116, 32, 0, 104, 97, 115, 32, 0, 98, 97, 99, 107, 32, 0, 103, 114, 101, 101, 100, 121, 0, 98, 101, 115, 116, 0]) (v := 114) rfl w82 (by omega) (by omega) rfl ?_
  refine E_if (t := 121) (b := false) rfl rfl (by decide) ?_
  refine E_iinc (y := nI 10) (L2 := [some (.ref 65), some (.int (nI 10)), some (.int (nI (max (max a (a + mr0 e n a)) (a + mr1 e n a)))), some (.int (nI 1)), some (.int (nI (a + mr1 e n a))), some (.int c1)]) rfl rfl (by decide) rfl ?_
  refine E_goto (t := 106) rfl rfl ?_
  refine E_aload_n rfl rfl ?_
  refine E_getfield (v := .ref 82) rfl w65 rfl (by decide) rfl ?_
  refine E_iload_n rfl rfl ?_
  refine E_ialN (l := [112, 105, 101, 99, 101, 32, 0, 112, 101, 114, 115, 111, 110, 32, 0, 99, 111, 115, 116, 32, 0, 104, 97, 115, 32, 0, 98, 97, 99, 107, 32, 0, 103, 114, 101, 101, 100, 121, 0, 98, 101, 115, 116, 0]) (v := 115) rfl w82 (by omega) (by omega) rfl ?_
  refine E_if (t := 121) (b := false) rfl rfl (by decide) ?_
  refine E_iinc (y := nI 11) (L2 := [some (.ref 65), some (.int (nI 11)), some (.int (nI (max (max a (a + mr0 e n a)) (a + mr1 e n a)))), some (.int (nI 1)), some (.int (nI (a + mr1 e n a))), some (.int c1)]) rfl rfl (by decide) rfl ?_
  refine E_goto (t := 106) rfl rfl ?_
  refine E_aload_n rfl rfl ?_
  refine E_getfield (v := .ref 82) rfl w65 rfl (by decide) rfl ?_
  refine E_iload_n rfl rfl ?_
  refine E_ialN (l := [112, 105, 101, 99, 101, 32, 0, 112, 101, 114, 115, 111, 110, 32, 0, 99, 111, 115, 116, 32, 0, 104, 97, 115, 32, 0, 98, 97, 99, 107, 32, 0, 103, 114, 101, 101, 100, 121, 0, 98, 101, 115, 116, 0]) (v := 111) rfl w82 (by omega) (by omega) rfl ?_
  refine E_if (t := 121) (b := false) rfl rfl (by decide) ?_
  refine E_iinc (y := nI 12) (L2 := [some (.ref 65), some (.int (nI 12)), some (.int (nI (max (max a (a + mr0 e n a)) (a + mr1 e n a)))), some (.int (nI 1)), some (.int (nI (a + mr1 e n a))), some (.int c1)]) rfl rfl (by decide) rfl ?_
  refine E_goto (t := 106) rfl rfl ?_
  refine E_aload_n rfl rfl ?_
  refine E_getfield (v := .ref 82) rfl w65 rfl (by decide) rfl ?_
  refine E_iload_n rfl rfl ?_
  refine E_ialN (l := [112, 105, 101, 99, 101, 32, 0, 112, 101, 114, 115, 111, 110, 32, 0, 99, 111, 115, 116, 32, 0, 104, 97, 115, 32, 0, 98, 97, 99, 107, 32, 0, 103, 114, 101, 101, 100, 121, 0, 98, 101, 115, 116, 0]) (v := 110) rfl w82 (by omega) (by omega) rfl ?_
  refine E_if (t := 121) (b := false) rfl rfl (by decide) ?_
  refine E_iinc (y := nI 13) (L2 := [some (.ref 65), some (.int (nI 13)), some (.int (nI (max (max a (a + mr0 e n a)) (a + mr1 e n a)))), some (.int (nI 1)), some (.int (nI (a + mr1 e n a))), some (.int c1)]) rfl rfl (by decide) rfl ?_
  refine E_goto (t := 106) rfl rfl ?_
  refine E_aload_n rfl rfl ?_
  refine E_getfield (v := .ref 82) rfl w65 rfl (by decide) rfl ?_
  refine E_iload_n rfl rfl ?_
  refine E_ialN (l := [112, 105, 101, 99, 101, 32, 0, 112, 101, 114, 115, 111, 110, 32, 0, 99, 111, 115, 116, 32, 0, 104, 97, 115, 32, 0, 98, 97, 99, 107, 32, 0, 103, 114, 101, 101, 100, 121, 0, 98, 101, 115, 116, 0]) (v := 32) rfl w82 (by omega) (by omega) rfl ?_
  refine E_if (t := 121) (b := false) rfl rfl (by decide) ?_
  refine E_iinc (y := nI 14) (L2 := [some (.ref 65), some (.int (nI 14)), some (.int (nI (max (max a (a + mr0 e n a)) (a + mr1 e n a)))), some (.int (nI 1)), some (.int (nI (a + mr1 e n a))), some (.int c1)]) rfl rfl (by decide) rfl ?_
  refine E_goto (t := 106) rfl rfl ?_
  refine E_aload_n rfl rfl ?_
  refine E_getfield (v := .ref 82) rfl w65 rfl (by decide) rfl ?_
  refine E_iload_n rfl rfl ?_
  refine E_ialN (l := [112, 105, 101, 99, 101, 32, 0, 112, 101, 114, 115, 111, 110, 32, 0, 99, 111, 115, 116, 32, 0, 104, 97, 115, 32, 0, 98, 97, 99, 107, 32, 0, 103, 114, 101, 101, 100, 121, 0, 98, 101, 115, 116, 0]) (v := 0) rfl w82 (by omega) (by omega) rfl ?_
  refine E_if (t := 121) (b := true) rfl rfl (by decide) ?_
  refine E_iinc (y := nI 15) (L2 := [some (.ref 65), some (.int (nI 15)), some (.int (nI (max (max a (a + mr0 e n a)) (a + mr1 e n a)))), some (.int (nI 1)), some (.int (nI (a + mr1 e n a))), some (.int c1)]) rfl rfl (by decide) rfl ?_
  refine E_iinc (y := nI 2) (L2 := [some (.ref 65), some (.int (nI 15)), some (.int (nI (max (max a (a + mr0 e n a)) (a + mr1 e n a)))), some (.int (nI 2)), some (.int (nI (a + mr1 e n a))), some (.int c1)]) rfl rfl (by decide) rfl ?_
  refine E_goto (t := 9) rfl rfl ?_
  refine E_iload_n rfl rfl ?_
  refine E_bipush (x := nI 7) rfl (by decide) ?_
  refine E_ic (t := 130) (b := false) rfl rfl (by decide) ?_
  refine E_aload_n rfl rfl ?_
  refine E_getfield (v := .int (nI a)) rfl w65 rfl (by decide) rfl ?_
  refine E_istore (L2 := [some (.ref 65), some (.int (nI 15)), some (.int (nI (max (max a (a + mr0 e n a)) (a + mr1 e n a)))), some (.int (nI 2)), some (.int (nI a)), some (.int c1)]) rfl rfl ?_
  refine E_iload_n rfl rfl ?_
  refine E_istore (L2 := [some (.ref 65), some (.int (nI 15)), some (.int (nI (max (max a (a + mr0 e n a)) (a + mr1 e n a)))), some (.int (nI 2)), some (.int (nI a)), some (.int (nI 15))]) rfl rfl ?_
  refine mw_f2 hj hn ha l_ce hce (by omega) ?_
  refine E_aload_n rfl rfl ?_
  refine E_iload rfl rfl ?_
  refine E_putfield (cs2 := (ww im lf s d k ls rf rz ra rn rq lt m1 m2 m3 m4 bd fc hd sz el q (fUp (fUp (fUp (fUp (fUp (fUp g 27 (nI (160 * j))) 29 (nI n)) 6 (-1)) 28 (nI (a + 5))) 30 x30) 31 x31) fm hm so si sh ce ca td wa kp la bf oo bo pw ow tr)) rfl w65 rfl (by decide) (Nat.le_of_ble_eq_true rfl) rfl rfl rfl (w_pt65_28.trans (by rw [gn28])) ?_
  refine E_iload_n rfl rfl ?_
  exact E_iret rfl rfl
set_option maxHeartbeats 1000000 in
theorem m_wd2n {e : List Int64} {n a j : Nat} {x30 x31 : Int32} {q : ab_q} (hj : j < 8) (hn : n ≤ 160) (ha : a ≤ n) (l_ce : ce.length = 1280) (hce : ∀ p, p < 160 → e.getD p 0 = ce.getD (160 * j + p) 0) (hw : wd e n a = 2) (hb : chB e n (a + 4) 32 = false) : Ev ab_Z0 1 158 [.ref 65] (ww im lf s d k ls rf rz ra rn rq lt m1 m2 m3 m4 bd fc hd sz el q (fUp (fUp (fUp (fUp (fUp (fUp g 27 (nI (160 * j))) 29 (nI n)) 6 (-1)) 28 (nI a)) 30 x30) 31 x31) fm hm so si sh ce ca td wa kp la bf oo bo pw ow tr) (some (.int (-1)), (ww im lf s d k ls rf rz ra rn rq lt m1 m2 m3 m4 bd fc hd sz el q (fUp (fUp (fUp (fUp (fUp (fUp g 27 (nI (160 * j))) 29 (nI n)) 6 (-1)) 28 (nI a)) 30 x30) 31 (nI (a + 4))) fm hm so si sh ce ca td wa kp la bf oo bo pw ow tr)) := by
  have : ([112, 105, 101, 99, 101, 32, 0, 112, 101, 114, 115, 111, 110, 32, 0, 99, 111, 115, 116, 32, 0, 104, 97, 115, 32, 0, 98, 97, 99, 107, 32, 0, 103, 114, 101, 101, 100, 121, 0, 98, 101, 115, 116, 0] : List Nat).length = 44 := rfl
  have hwc := wd_c e n a
  have hs0 := mrS_0 e n a
  have hl0 := mr0_le e n a
  have hs1 := mrS_1 e n a
  have hl1 := mr1_le e n a
  have hs2 := mrS_2 e n a
  have hl2 := mr2_le e n a
  have hs3 := mrS_3 e n a
  have hl3 := mr3_le e n a
  have hs4 := mrS_4 e n a
  have hl4 := mr4_le e n a
  have hs5 := mrS_5 e n a
  have hl5 := mr5_le e n a
  have hs6 := mrS_6 e n a
  have hl6 := mr6_le e n a
  have hu0 : mr0 e n a = mj0 e n a := by rw [hs0]; exact if_neg (fun z => by omega)
  have hj0_ := mj0_le e n a
  have hu1 : mr1 e n a = mj1 e n a := by rw [hs1]; exact if_neg (fun z => by omega)
  have hj1_ := mj1_le e n a
  have hu2 : mr2 e n a = 4 := by rw [hs2]; rw [if_neg (fun z => by rw [hb] at z; exact absurd z.2 (by decide))]; omega
  have hx3 := ex_2_3 (e := e) (n := n) (a := a) (by omega)
  have hu3 : mr3 e n a = mj3 e n a := by rw [hs3]; exact if_neg (fun z => by omega)
  have hx4 := ex_2_4 (e := e) (n := n) (a := a) (by omega)
  have hu4 : mr4 e n a = mj4 e n a := by rw [hs4]; exact if_neg (fun z => by omega)
  have hx5 := ex_2_5 (e := e) (n := n) (a := a) (by omega)
  have hu5 : mr5 e n a = mj5 e n a := rfl
  have hx6 := ex_2_6 (e := e) (n := n) (a := a) (by omega)
  have hu6 : mr6 e n a = mj6 e n a := rfl
  have hx0 := ex_2_0 (e := e) (n := n) (a := a) (by omega)
  have hx1 := ex_2_1 (e := e) (n := n) (a := a) (by omega)
  have hfar : max (max (max (max (max (max (max a (a + mr0 e n a)) (a + mr1 e n a)) (a + mr2 e n a)) (a + mr3 e n a)) (a + mr4 e n a)) (a + mr5 e n a)) (a + mr6 e n a) = a + 4 := by omega
  rw [← hfar]
  refine Ef.in (md := mX6_word) (L := [some (.ref 65), none, none, none, none, none]) rfl (Nat.le_of_ble_eq_true rfl) rfl ?_
  refine E_iconst (x := nI 0) rfl (by decide) ?_
  refine E_istore_n (L2 := [some (.ref 65), some (.int (nI 0)), none, none, none, none]) rfl rfl ?_
  refine E_aload_n rfl rfl ?_
  refine E_getfield (v := .int (nI a)) rfl w65 rfl (by decide) rfl ?_
  refine E_istore_n (L2 := [some (.ref 65), some (.int (nI 0)), some (.int (nI a)), none, none, none]) rfl rfl ?_
  refine E_iconst (x := nI 0) rfl (by decide) ?_
  refine E_istore_n (L2 := [some (.ref 65), some (.int (nI 0)), some (.int (nI a)), some (.int (nI 0)), none, none]) rfl rfl ?_
  refine E_iload_n rfl rfl ?_
  refine E_bipush (x := nI 7) rfl (by decide) ?_
  refine E_ic (t := 130) (b := false) rfl rfl (by decide) ?_
  refine E_aload_n rfl rfl ?_
  refine E_getfield (v := .int (nI a)) rfl w65 rfl (by decide) rfl ?_
  refine E_istore (L2 := [some (.ref 65), some (.int (nI 0)), some (.int (nI a)), some (.int (nI 0)), some (.int (nI a)), none]) rfl rfl ?_
  refine E_iload_n rfl rfl ?_
  refine E_istore (L2 := [some (.ref 65), some (.int (nI 0)), some (.int (nI a)), some (.int (nI 0)), some (.int (nI a)), some (.int (nI 0))]) rfl rfl ?_
  refine mw_p0 hj hn ha l_ce hce (f0 := a) (by omega) (by omega) (fun c0 => ?_)
  refine E_aload_n rfl rfl ?_
  refine E_getfield (v := .ref 82) rfl w65 rfl (by decide) rfl ?_
  refine E_iload_n rfl rfl ?_
  refine E_ialN (l := [112, 105, 101, 99, 101, 32, 0, 112, 101, 114, 115, 111, 110, 32, 0, 99, 111, 115, 116, 32, 0, 104, 97, 115, 32, 0, 98, 97, 99, 107, 32, 0, 103, 114, 101, 101, 100, 121, 0, 98, 101, 115, 116, 0]) (v := 112) rfl w82 (by omega) (by omega) rfl ?_
  refine E_if (t := 121) (b := false) rfl rfl (by decide) ?_
  refine E_iinc (y := nI 1) (L2 := [some (.ref 65), some (.int (nI 1)), some (.int (nI (max a (a + mr0 e n a)))), some (.int (nI 0)), some (.int (nI (a + mr0 e n a))), some (.int c0)]) rfl rfl (by decide) rfl ?_
  refine E_goto (t := 106) rfl rfl ?_
  refine E_aload_n rfl rfl ?_
  refine E_getfield (v := .ref 82) rfl w65 rfl (by decide) rfl ?_
  refine E_iload_n rfl rfl ?_
  refine E_ialN (l := [112, 105, 101, 99, 101, 32, 0, 112, 101, 114, 115, 111, 110, 32, 0, 99, 111, 115, 116, 32, 0, 104, 97, 115, 32, 0, 98, 97, 99, 107, 32, 0, 103, 114, 101, 101, 100, 121, 0, 98, 101, 115, 116, 0]) (v := 105) rfl w82 (by omega) (by omega) rfl ?_
  refine E_if (t := 121) (b := false) rfl rfl (by decide) ?_
  refine E_iinc (y := nI 2) (L2 := [some (.ref 65), some (.int (nI 2)), some (.int (nI (max a (a + mr0 e n a)))), some (.int (nI 0)), some (.int (nI (a + mr0 e n a))), some (.int c0)]) rfl rfl (by decide) rfl ?_
  refine E_goto (t := 106) rfl rfl ?_
  refine E_aload_n rfl rfl ?_
  refine E_getfield (v := .ref 82) rfl w65 rfl (by decide) rfl ?_
  refine E_iload_n rfl rfl ?_
  refine E_ialN (l := [112, 105, 101, 99, 101, 32, 0, 112, 101, 114, 115, 111, 110, 32, 0, 99, 111, 115, 116, 32, 0, 104, 97, 115, 32, 0, 98, 97, 99, 107, 32, 0, 103, 114, 101, 101, 100, 121, 0, 98, 101, 115, 116, 0]) (v := 101) rfl w82 (by omega) (by omega) rfl ?_
  refine E_if (t := 121) (b := false) rfl rfl (by decide) ?_
  refine E_iinc (y := nI 3) (L2 := [some (.ref 65), some (.int (nI 3)), some (.int (nI (max a (a + mr0 e n a)))), some (.int (nI 0)), some (.int (nI (a + mr0 e n a))), some (.int c0)]) rfl rfl (by decide) rfl ?_
  refine E_goto (t := 106) rfl rfl ?_
  refine E_aload_n rfl rfl ?_
  refine E_getfield (v := .ref 82) rfl w65 rfl (by decide) rfl ?_
  refine E_iload_n rfl rfl ?_
  refine E_ialN (l := [112, 105, 101, 99, 101, 32, 0, 112, 101, 114, 115, 111, 110, 32, 0, 99, 111, 115, 116, 32, 0, 104, 97, 115, 32, 0, 98, 97, 99, 107, 32, 0, 103, 114, 101, 101, 100, 121, 0, 98, 101, 115, 116, 0]) (v := 99) rfl w82 (by omega) (by omega) rfl ?_
  refine E_if (t := 121) (b := false) rfl rfl (by decide) ?_
  refine E_iinc (y := nI 4) (L2 := [some (.ref 65), some (.int (nI 4)), some (.int (nI (max a (a + mr0 e n a)))), some (.int (nI 0)), some (.int (nI (a + mr0 e n a))), some (.int c0)]) rfl rfl (by decide) rfl ?_
  refine E_goto (t := 106) rfl rfl ?_
  refine E_aload_n rfl rfl ?_
  refine E_getfield (v := .ref 82) rfl w65 rfl (by decide) rfl ?_
  refine E_iload_n rfl rfl ?_
  refine E_ialN (l := [112, 105, 101, 99, 101, 32, 0, 112, 101, 114, 115, 111, 110, 32, 0, 99, 111, 115, 116, 32, 0, 104, 97, 115, 32, 0, 98, 97, 99, 107, 32, 0, 103, 114, 101, 101, 100, 121, 0, 98, 101, 115, 116, 0]) (v := 101) rfl w82 (by omega) (by omega) rfl ?_
  refine E_if (t := 121) (b := false) rfl rfl (by decide) ?_
  refine E_iinc (y := nI 5) (L2 := [some (.ref 65), some (.int (nI 5)), some (.int (nI (max a (a + mr0 e n a)))), some (.int (nI 0)), some (.int (nI (a + mr0 e n a))), some (.int c0)]) rfl rfl (by decide) rfl ?_
  refine E_goto (t := 106) rfl rfl ?_
  refine E_aload_n rfl rfl ?_
  refine E_getfield (v := .ref 82) rfl w65 rfl (by decide) rfl ?_
  refine E_iload_n rfl rfl ?_
  refine E_ialN (l := [112, 105, 101, 99, 101, 32, 0, 112, 101, 114, 115, 111, 110, 32, 0, 99, 111, 115, 116, 32, 0, 104, 97, 115, 32, 0, 98, 97, 99, 107, 32, 0, 103, 114, 101, 101, 100, 121, 0, 98, 101, 115, 116, 0]) (v := 32) rfl w82 (by omega) (by omega) rfl ?_
  refine E_if (t := 121) (b := false) rfl rfl (by decide) ?_
  refine E_iinc (y := nI 6) (L2 := [some (.ref 65), some (.int (nI 6)), some (.int (nI (max a (a + mr0 e n a)))), some (.int (nI 0)), some (.int (nI (a + mr0 e n a))), some (.int c0)]) rfl rfl (by decide) rfl ?_
  refine E_goto (t := 106) rfl rfl ?_
  refine E_aload_n rfl rfl ?_
  refine E_getfield (v := .ref 82) rfl w65 rfl (by decide) rfl ?_
  refine E_iload_n rfl rfl ?_
  refine E_ialN (l := [112, 105, 101, 99, 101, 32, 0, 112, 101, 114, 115, 111, 110, 32, 0, 99, 111, 115, 116, 32, 0, 104, 97, 115, 32, 0, 98, 97, 99, 107, 32, 0, 103, 114, 101, 101, 100, 121, 0, 98, 101, 115, 116, 0]) (v := 0) rfl w82 (by omega) (by omega) rfl ?_
  refine E_if (t := 121) (b := true) rfl rfl (by decide) ?_
  refine E_iinc (y := nI 7) (L2 := [some (.ref 65), some (.int (nI 7)), some (.int (nI (max a (a + mr0 e n a)))), some (.int (nI 0)), some (.int (nI (a + mr0 e n a))), some (.int c0)]) rfl rfl (by decide) rfl ?_
  refine E_iinc (y := nI 1) (L2 := [some (.ref 65), some (.int (nI 7)), some (.int (nI (max a (a + mr0 e n a)))), some (.int (nI 1)), some (.int (nI (a + mr0 e n a))), some (.int c0)]) rfl rfl (by decide) rfl ?_
  refine E_goto (t := 9) rfl rfl ?_
  refine E_iload_n rfl rfl ?_
  refine E_bipush (x := nI 7) rfl (by decide) ?_
  refine E_ic (t := 130) (b := false) rfl rfl (by decide) ?_
  refine E_aload_n rfl rfl ?_
  refine E_getfield (v := .int (nI a)) rfl w65 rfl (by decide) rfl ?_
  refine E_istore (L2 := [some (.ref 65), some (.int (nI 7)), some (.int (nI (max a (a + mr0 e n a)))), some (.int (nI 1)), some (.int (nI a)), some (.int c0)]) rfl rfl ?_
  refine E_iload_n rfl rfl ?_
  refine E_istore (L2 := [some (.ref 65), some (.int (nI 7)), some (.int (nI (max a (a + mr0 e n a)))), some (.int (nI 1)), some (.int (nI a)), some (.int (nI 7))]) rfl rfl ?_
  refine mw_p1 hj hn ha l_ce hce (f0 := max a (a + mr0 e n a)) (by omega) (by omega) (fun c1 => ?_)
  refine E_aload_n rfl rfl ?_
  refine E_getfield (v := .ref 82) rfl w65 rfl (by decide) rfl ?_
  refine E_iload_n rfl rfl ?_
  refine E_ialN (l := [112, 105, 101, 99, 101, 32, 0, 112, 101, 114, 115, 111, 110, 32, 0, 99, 111, 115, 116, 32, 0, 104, 97, 115, 32, 0, 98, 97, 99, 107, 32, 0, 103, 114, 101, 101, 100, 121, 0, 98, 101, 115, 116, 0]) (v := 112) rfl w82 (by omega) (by omega) rfl ?_
  refine E_if (t := 121) (b := false) rfl rfl (by decide) ?_
  refine E_iinc (y := nI 8) (L2 := [some (.ref 65), some (.int (nI 8)), some (.int (nI (max (max a (a + mr0 e n a)) (a + mr1 e n a)))), some (.int (nI 1)), some (.int (nI (a + mr1 e n a))), some (.int c1)]) rfl rfl (by decide) rfl ?_
  refine E_goto (t := 106) rfl rfl ?_
  refine E_aload_n rfl rfl ?_
  refine E_getfield (v := .ref 82) rfl w65 rfl (by decide) rfl ?_
  refine E_iload_n rfl rfl ?_
  refine E_ialN (l := [112, 105, 101, 99, 101, 32, 0, 112, 101, 114, 115, 111, 110, 32, 0, 99, 111, 115, 116, 32, 0, 104, 97, 115, 32, 0, 98, 97, 99, 107, 32, 0, 103, 114, 101, 101, 100, 121, 0, 98, 101, 115, 116, 0]) (v := 101) rfl w82 (by omega) (by omega) rfl ?_
  refine E_if (t := 121) (b := false) rfl rfl (by decide) ?_
  refine E_iinc (y := nI 9) (L2 := [some (.ref 65), some (.int (nI 9)), some (.int (nI (max (max a (a + mr0 e n a)) (a + mr1 e n a)))), some (.int (nI 1)), some (.int (nI (a + mr1 e n a))), some (.int c1)]) rfl rfl (by decide) rfl ?_
  refine E_goto (t := 106) rfl rfl ?_
  refine E_aload_n rfl rfl ?_
  refine E_getfield (v := .ref 82) rfl w65 rfl (by decide) rfl ?_
  refine E_iload_n rfl rfl ?_
  refine E_ialN (l := [112, 105, 101, 99, 101, 32, 0, 112, 101, 114, 115, 111, 110, 32, 0, 99, 111, 115, 116, 32, 0, 104, 97, 115, 32, 0, 98, 97, 99, 107, 32, 0, 103, 114, 101, 101, 100, 121, 0, 98, 101, 115, 116, 0]) (v := 114) rfl w82 (by omega) (by omega) rfl ?_
  refine E_if (t := 121) (b := false) rfl rfl (by decide) ?_
  refine E_iinc (y := nI 10) (L2 := [some (.ref 65), some (.int (nI 10)), some (.int (nI (max (max a (a + mr0 e n a)) (a + mr1 e n a)))), some (.int (nI 1)), some (.int (nI (a + mr1 e n a))), some (.int c1)]) rfl rfl (by decide) rfl ?_
  refine E_goto (t := 106) rfl rfl ?_
  refine E_aload_n rfl rfl ?_
  refine E_getfield (v := .ref 82) rfl w65 rfl (by decide) rfl ?_
  refine E_iload_n rfl rfl ?_
  refine E_ialN (l := [112, 105, 101, 99, 101, 32, 0, 112, 101, 114, 115, 111, 110, 32, 0, 99, 111, 115, 116, 32, 0, 104, 97, 115, 32, 0, 98, 97, 99, 107, 32, 0, 103, 114, 101, 101, 100, 121, 0, 98, 101, 115, 116, 0]) (v := 115) rfl w82 (by omega) (by omega) rfl ?_
  refine E_if (t := 121) (b := false) rfl rfl (by decide) ?_
  refine E_iinc (y := nI 11) (L2 := [some (.ref 65), some (.int (nI 11)), some (.int (nI (max (max a (a + mr0 e n a)) (a + mr1 e n a)))), some (.int (nI 1)), some (.int (nI (a + mr1 e n a))), some (.int c1)]) rfl rfl (by decide) rfl ?_
  refine E_goto (t := 106) rfl rfl ?_
  refine E_aload_n rfl rfl ?_
  refine E_getfield (v := .ref 82) rfl w65 rfl (by decide) rfl ?_
  refine E_iload_n rfl rfl ?_
  refine E_ialN (l := [112, 105, 101, 99, 101, 32, 0, 112, 101, 114, 115, 111, 110, 32, 0, 99, 111, 115, 116, 32, 0, 104, 97, 115, 32, 0, 98, 97, 99, 107, 32, 0, 103, 114, 101, 101, 100, 121, 0, 98, 101, 115, 116, 0]) (v := 111) rfl w82 (by omega) (by omega) rfl ?_
  refine E_if (t := 121) (b := false) rfl rfl (by decide) ?_
  refine E_iinc (y := nI 12) (L2 := [some (.ref 65), some (.int (nI 12)), some (.int (nI (max (max a (a + mr0 e n a)) (a + mr1 e n a)))), some (.int (nI 1)), some (.int (nI (a + mr1 e n a))), some (.int c1)]) rfl rfl (by decide) rfl ?_
  refine E_goto (t := 106) rfl rfl ?_
  refine E_aload_n rfl rfl ?_
  refine E_getfield (v := .ref 82) rfl w65 rfl (by decide) rfl ?_
  refine E_iload_n rfl rfl ?_
  refine E_ialN (l := [112, 105, 101, 99, 101, 32, 0, 112, 101, 114, 115, 111, 110, 32, 0, 99, 111, 115, 116, 32, 0, 104, 97, 115, 32, 0, 98, 97, 99, 107, 32, 0, 103, 114, 101, 101, 100, 121, 0, 98, 101, 115, 116, 0]) (v := 110) rfl w82 (by omega) (by omega) rfl ?_
  refine E_if (t := 121) (b := false) rfl rfl (by decide) ?_
  refine E_iinc (y := nI 13) (L2 := [some (.ref 65), some (.int (nI 13)), some (.int (nI (max (max a (a + mr0 e n a)) (a + mr1 e n a)))), some (.int (nI 1)), some (.int (nI (a + mr1 e n a))), some (.int c1)]) rfl rfl (by decide) rfl ?_
  refine E_goto (t := 106) rfl rfl ?_
  refine E_aload_n rfl rfl ?_
  refine E_getfield (v := .ref 82) rfl w65 rfl (by decide) rfl ?_
  refine E_iload_n rfl rfl ?_
  refine E_ialN (l := [112, 105, 101, 99, 101, 32, 0, 112, 101, 114, 115, 111, 110, 32, 0, 99, 111, 115, 116, 32, 0, 104, 97, 115, 32, 0, 98, 97, 99, 107, 32, 0, 103, 114, 101, 101, 100, 121, 0, 98, 101, 115, 116, 0]) (v := 32) rfl w82 (by omega) (by omega) rfl ?_
  refine E_if (t := 121) (b := false) rfl rfl (by decide) ?_
  refine E_iinc (y := nI 14) (L2 := [some (.ref 65), some (.int (nI 14)), some (.int (nI (max (max a (a + mr0 e n a)) (a + mr1 e n a)))), some (.int (nI 1)), some (.int (nI (a + mr1 e n a))), some (.int c1)]) rfl rfl (by decide) rfl ?_
  refine E_goto (t := 106) rfl rfl ?_
  refine E_aload_n rfl rfl ?_
  refine E_getfield (v := .ref 82) rfl w65 rfl (by decide) rfl ?_
  refine E_iload_n rfl rfl ?_
  refine E_ialN (l := [112, 105, 101, 99, 101, 32, 0, 112, 101, 114, 115, 111, 110, 32, 0, 99, 111, 115, 116, 32, 0, 104, 97, 115, 32, 0, 98, 97, 99, 107, 32, 0, 103, 114, 101, 101, 100, 121, 0, 98, 101, 115, 116, 0]) (v := 0) rfl w82 (by omega) (by omega) rfl ?_
  refine E_if (t := 121) (b := true) rfl rfl (by decide) ?_
  refine E_iinc (y := nI 15) (L2 := [some (.ref 65), some (.int (nI 15)), some (.int (nI (max (max a (a + mr0 e n a)) (a + mr1 e n a)))), some (.int (nI 1)), some (.int (nI (a + mr1 e n a))), some (.int c1)]) rfl rfl (by decide) rfl ?_
  refine E_iinc (y := nI 2) (L2 := [some (.ref 65), some (.int (nI 15)), some (.int (nI (max (max a (a + mr0 e n a)) (a + mr1 e n a)))), some (.int (nI 2)), some (.int (nI (a + mr1 e n a))), some (.int c1)]) rfl rfl (by decide) rfl ?_
  refine E_goto (t := 9) rfl rfl ?_
  refine E_iload_n rfl rfl ?_
  refine E_bipush (x := nI 7) rfl (by decide) ?_
  refine E_ic (t := 130) (b := false) rfl rfl (by decide) ?_
  refine E_aload_n rfl rfl ?_
  refine E_getfield (v := .int (nI a)) rfl w65 rfl (by decide) rfl ?_
  refine E_istore (L2 := [some (.ref 65), some (.int (nI 15)), some (.int (nI (max (max a (a + mr0 e n a)) (a + mr1 e n a)))), some (.int (nI 2)), some (.int (nI a)), some (.int c1)]) rfl rfl ?_
  refine E_iload_n rfl rfl ?_
  refine E_istore (L2 := [some (.ref 65), some (.int (nI 15)), some (.int (nI (max (max a (a + mr0 e n a)) (a + mr1 e n a)))), some (.int (nI 2)), some (.int (nI a)), some (.int (nI 15))]) rfl rfl ?_
  refine mw_p2 hj hn ha l_ce hce (f0 := max (max a (a + mr0 e n a)) (a + mr1 e n a)) (by omega) (by omega) (fun c2 => ?_)
  refine E_aload_n rfl rfl ?_
  refine E_getfield (v := .ref 82) rfl w65 rfl (by decide) rfl ?_
  refine E_iload_n rfl rfl ?_
  refine E_ialN (l := [112, 105, 101, 99, 101, 32, 0, 112, 101, 114, 115, 111, 110, 32, 0, 99, 111, 115, 116, 32, 0, 104, 97, 115, 32, 0, 98, 97, 99, 107, 32, 0, 103, 114, 101, 101, 100, 121, 0, 98, 101, 115, 116, 0]) (v := 99) rfl w82 (by omega) (by omega) rfl ?_
  refine E_if (t := 121) (b := false) rfl rfl (by decide) ?_
  refine E_iinc (y := nI 16) (L2 := [some (.ref 65), some (.int (nI 16)), some (.int (nI (max (max (max a (a + mr0 e n a)) (a + mr1 e n a)) (a + mr2 e n a)))), some (.int (nI 2)), some (.int (nI (a + mr2 e n a))), some (.int c2)]) rfl rfl (by decide) rfl ?_
  refine E_goto (t := 106) rfl rfl ?_
  refine E_aload_n rfl rfl ?_
  refine E_getfield (v := .ref 82) rfl w65 rfl (by decide) rfl ?_
  refine E_iload_n rfl rfl ?_
  refine E_ialN (l := [112, 105, 101, 99, 101, 32, 0, 112, 101, 114, 115, 111, 110, 32, 0, 99, 111, 115, 116, 32, 0, 104, 97, 115, 32, 0, 98, 97, 99, 107, 32, 0, 103, 114, 101, 101, 100, 121, 0, 98, 101, 115, 116, 0]) (v := 111) rfl w82 (by omega) (by omega) rfl ?_
  refine E_if (t := 121) (b := false) rfl rfl (by decide) ?_
  refine E_iinc (y := nI 17) (L2 := [some (.ref 65), some (.int (nI 17)), some (.int (nI (max (max (max a (a + mr0 e n a)) (a + mr1 e n a)) (a + mr2 e n a)))), some (.int (nI 2)), some (.int (nI (a + mr2 e n a))), some (.int c2)]) rfl rfl (by decide) rfl ?_
  refine E_goto (t := 106) rfl rfl ?_
  refine E_aload_n rfl rfl ?_
  refine E_getfield (v := .ref 82) rfl w65 rfl (by decide) rfl ?_
  refine E_iload_n rfl rfl ?_
  refine E_ialN (l := [112, 105, 101, 99, 101, 32, 0, 112, 101, 114, 115, 111, 110, 32, 0, 99, 111, 115, 116, 32, 0, 104, 97, 115, 32, 0, 98, 97, 99, 107, 32, 0, 103, 114, 101, 101, 100, 121, 0, 98, 101, 115, 116, 0]) (v := 115) rfl w82 (by omega) (by omega) rfl ?_
  refine E_if (t := 121) (b := false) rfl rfl (by decide) ?_
  refine E_iinc (y := nI 18) (L2 := [some (.ref 65), some (.int (nI 18)), some (.int (nI (max (max (max a (a + mr0 e n a)) (a + mr1 e n a)) (a + mr2 e n a)))), some (.int (nI 2)), some (.int (nI (a + mr2 e n a))), some (.int c2)]) rfl rfl (by decide) rfl ?_
  refine E_goto (t := 106) rfl rfl ?_
  refine E_aload_n rfl rfl ?_
  refine E_getfield (v := .ref 82) rfl w65 rfl (by decide) rfl ?_
  refine E_iload_n rfl rfl ?_
  refine E_ialN (l := [112, 105, 101, 99, 101, 32, 0, 112, 101, 114, 115, 111, 110, 32, 0, 99, 111, 115, 116, 32, 0, 104, 97, 115, 32, 0, 98, 97, 99, 107, 32, 0, 103, 114, 101, 101, 100, 121, 0, 98, 101, 115, 116, 0]) (v := 116) rfl w82 (by omega) (by omega) rfl ?_
  refine E_if (t := 121) (b := false) rfl rfl (by decide) ?_
  refine E_iinc (y := nI 19) (L2 := [some (.ref 65), some (.int (nI 19)), some (.int (nI (max (max (max a (a + mr0 e n a)) (a + mr1 e n a)) (a + mr2 e n a)))), some (.int (nI 2)), some (.int (nI (a + mr2 e n a))), some (.int c2)]) rfl rfl (by decide) rfl ?_
  refine E_goto (t := 106) rfl rfl ?_
  refine E_aload_n rfl rfl ?_
  refine E_getfield (v := .ref 82) rfl w65 rfl (by decide) rfl ?_
  refine E_iload_n rfl rfl ?_
  refine E_ialN (l := [112, 105, 101, 99, 101, 32, 0, 112, 101, 114, 115, 111, 110, 32, 0, 99, 111, 115, 116, 32, 0, 104, 97, 115, 32, 0, 98, 97, 99, 107, 32, 0, 103, 114, 101, 101, 100, 121, 0, 98, 101, 115, 116, 0]) (v := 32) rfl w82 (by omega) (by omega) rfl ?_
  refine E_if (t := 121) (b := false) rfl rfl (by decide) ?_
  refine E_iinc (y := nI 20) (L2 := [some (.ref 65), some (.int (nI 20)), some (.int (nI (max (max (max a (a + mr0 e n a)) (a + mr1 e n a)) (a + mr2 e n a)))), some (.int (nI 2)), some (.int (nI (a + mr2 e n a))), some (.int c2)]) rfl rfl (by decide) rfl ?_
  refine E_goto (t := 106) rfl rfl ?_
  refine E_aload_n rfl rfl ?_
  refine E_getfield (v := .ref 82) rfl w65 rfl (by decide) rfl ?_
  refine E_iload_n rfl rfl ?_
  refine E_ialN (l := [112, 105, 101, 99, 101, 32, 0, 112, 101, 114, 115, 111, 110, 32, 0, 99, 111, 115, 116, 32, 0, 104, 97, 115, 32, 0, 98, 97, 99, 107, 32, 0, 103, 114, 101, 101, 100, 121, 0, 98, 101, 115, 116, 0]) (v := 0) rfl w82 (by omega) (by omega) rfl ?_
  refine E_if (t := 121) (b := true) rfl rfl (by decide) ?_
  refine E_iinc (y := nI 21) (L2 := [some (.ref 65), some (.int (nI 21)), some (.int (nI (max (max (max a (a + mr0 e n a)) (a + mr1 e n a)) (a + mr2 e n a)))), some (.int (nI 2)), some (.int (nI (a + mr2 e n a))), some (.int c2)]) rfl rfl (by decide) rfl ?_
  refine E_iinc (y := nI 3) (L2 := [some (.ref 65), some (.int (nI 21)), some (.int (nI (max (max (max a (a + mr0 e n a)) (a + mr1 e n a)) (a + mr2 e n a)))), some (.int (nI 3)), some (.int (nI (a + mr2 e n a))), some (.int c2)]) rfl rfl (by decide) rfl ?_
  refine E_goto (t := 9) rfl rfl ?_
  refine E_iload_n rfl rfl ?_
  refine E_bipush (x := nI 7) rfl (by decide) ?_
  refine E_ic (t := 130) (b := false) rfl rfl (by decide) ?_
  refine E_aload_n rfl rfl ?_
  refine E_getfield (v := .int (nI a)) rfl w65 rfl (by decide) rfl ?_
  refine E_istore (L2 := [some (.ref 65), some (.int (nI 21)), some (.int (nI (max (max (max a (a + mr0 e n a)) (a + mr1 e n a)) (a + mr2 e n a)))), some (.int (nI 3)), some (.int (nI a)), some (.int c2)]) rfl rfl ?_
  refine E_iload_n rfl rfl ?_
  refine E_istore (L2 := [some (.ref 65), some (.int (nI 21)), some (.int (nI (max (max (max a (a + mr0 e n a)) (a + mr1 e n a)) (a + mr2 e n a)))), some (.int (nI 3)), some (.int (nI a)), some (.int (nI 21))]) rfl rfl ?_
  refine mw_p3 hj hn ha l_ce hce (f0 := max (max (max a (a + mr0 e n a)) (a + mr1 e n a)) (a + mr2 e n a)) (by omega) (by omega) (fun c3 => ?_)
  refine E_aload_n rfl rfl ?_
  refine E_getfield (v := .ref 82) rfl w65 rfl (by decide) rfl ?_
  refine E_iload_n rfl rfl ?_
  refine E_ialN (l := [112, 105, 101, 99, 101, 32, 0, 112, 101, 114, 115, 111, 110, 32, 0, 99, 111, 115, 116, 32, 0, 104, 97, 115, 32, 0, 98, 97, 99, 107, 32, 0, 103, 114, 101, 101, 100, 121, 0, 98, 101, 115, 116, 0]) (v := 104) rfl w82 (by omega) (by omega) rfl ?_
  refine E_if (t := 121) (b := false) rfl rfl (by decide) ?_
  refine E_iinc (y := nI 22) (L2 := [some (.ref 65), some (.int (nI 22)), some (.int (nI (max (max (max (max a (a + mr0 e n a)) (a + mr1 e n a)) (a + mr2 e n a)) (a + mr3 e n a)))), some (.int (nI 3)), some (.int (nI (a + mr3 e n a))), some (.int c3)]) rfl rfl (by decide) rfl ?_
  refine E_goto (t := 106) rfl rfl ?_
  refine E_aload_n rfl rfl ?_
  refine E_getfield (v := .ref 82) rfl w65 rfl (by decide) rfl ?_
  refine E_iload_n rfl rfl ?_
  refine E_ialN (l := [112, 105, 101, 99, 101, 32, 0, 112, 101, 114, 115, 111, 110, 32, 0, 99, 111, 115, 116, 32, 0, 104, 97, 115, 32, 0, 98, 97, 99, 107, 32, 0, 103, 114, 101, 101, 100, 121, 0, 98, 101, 115, 116, 0]) (v := 97) rfl w82 (by omega) (by omega) rfl ?_
  refine E_if (t := 121) (b := false) rfl rfl (by decide) ?_
  refine E_iinc (y := nI 23) (L2 := [some (.ref 65), some (.int (nI 23)), some (.int (nI (max (max (max (max a (a + mr0 e n a)) (a + mr1 e n a)) (a + mr2 e n a)) (a + mr3 e n a)))), some (.int (nI 3)), some (.int (nI (a + mr3 e n a))), some (.int c3)]) rfl rfl (by decide) rfl ?_
  refine E_goto (t := 106) rfl rfl ?_
  refine E_aload_n rfl rfl ?_
  refine E_getfield (v := .ref 82) rfl w65 rfl (by decide) rfl ?_
  refine E_iload_n rfl rfl ?_
  refine E_ialN (l := [112, 105, 101, 99, 101, 32, 0, 112, 101, 114, 115, 111, 110, 32, 0, 99, 111, 115, 116, 32, 0, 104, 97, 115, 32, 0, 98, 97, 99, 107, 32, 0, 103, 114, 101, 101, 100, 121, 0, 98, 101, 115, 116, 0]) (v := 115) rfl w82 (by omega) (by omega) rfl ?_
  refine E_if (t := 121) (b := false) rfl rfl (by decide) ?_
  refine E_iinc (y := nI 24) (L2 := [some (.ref 65), some (.int (nI 24)), some (.int (nI (max (max (max (max a (a + mr0 e n a)) (a + mr1 e n a)) (a + mr2 e n a)) (a + mr3 e n a)))), some (.int (nI 3)), some (.int (nI (a + mr3 e n a))), some (.int c3)]) rfl rfl (by decide) rfl ?_
  refine E_goto (t := 106) rfl rfl ?_
  refine E_aload_n rfl rfl ?_
  refine E_getfield (v := .ref 82) rfl w65 rfl (by decide) rfl ?_
  refine E_iload_n rfl rfl ?_
  refine E_ialN (l := [112, 105, 101, 99, 101, 32, 0, 112, 101, 114, 115, 111, 110, 32, 0, 99, 111, 115, 116, 32, 0, 104, 97, 115, 32, 0, 98, 97, 99, 107, 32, 0, 103, 114, 101, 101, 100, 121, 0, 98, 101, 115, 116, 0]) (v := 32) rfl w82 (by omega) (by omega) rfl ?_
  refine E_if (t := 121) (b := false) rfl rfl (by decide) ?_
  refine E_iinc (y := nI 25) (L2 := [some (.ref 65), some (.int (nI 25)), some (.int (nI (max (max (max (max a (a + mr0 e n a)) (a + mr1 e n a)) (a + mr2 e n a)) (a + mr3 e n a)))), some (.int (nI 3)), some (.int (nI (a + mr3 e n a))), some (.int c3)]) rfl rfl (by decide) rfl ?_
  refine E_goto (t := 106) rfl rfl ?_
  refine E_aload_n rfl rfl ?_
  refine E_getfield (v := .ref 82) rfl w65 rfl (by decide) rfl ?_
  refine E_iload_n rfl rfl ?_
  refine E_ialN (l := [112, 105, 101, 99, 101, 32, 0, 112, 101, 114, 115, 111, 110, 32, 0, 99, 111, 115, 116, 32, 0, 104, 97, 115, 32, 0, 98, 97, 99, 107, 32, 0, 103, 114, 101, 101, 100, 121, 0, 98, 101, 115, 116, 0]) (v := 0) rfl w82 (by omega) (by omega) rfl ?_
  refine E_if (t := 121) (b := true) rfl rfl (by decide) ?_
  refine E_iinc (y := nI 26) (L2 := [some (.ref 65), some (.int (nI 26)), some (.int (nI (max (max (max (max a (a + mr0 e n a)) (a + mr1 e n a)) (a + mr2 e n a)) (a + mr3 e n a)))), some (.int (nI 3)), some (.int (nI (a + mr3 e n a))), some (.int c3)]) rfl rfl (by decide) rfl ?_
  refine E_iinc (y := nI 4) (L2 := [some (.ref 65), some (.int (nI 26)), some (.int (nI (max (max (max (max a (a + mr0 e n a)) (a + mr1 e n a)) (a + mr2 e n a)) (a + mr3 e n a)))), some (.int (nI 4)), some (.int (nI (a + mr3 e n a))), some (.int c3)]) rfl rfl (by decide) rfl ?_
  refine E_goto (t := 9) rfl rfl ?_
  refine E_iload_n rfl rfl ?_
  refine E_bipush (x := nI 7) rfl (by decide) ?_
  refine E_ic (t := 130) (b := false) rfl rfl (by decide) ?_
  refine E_aload_n rfl rfl ?_
  refine E_getfield (v := .int (nI a)) rfl w65 rfl (by decide) rfl ?_
  refine E_istore (L2 := [some (.ref 65), some (.int (nI 26)), some (.int (nI (max (max (max (max a (a + mr0 e n a)) (a + mr1 e n a)) (a + mr2 e n a)) (a + mr3 e n a)))), some (.int (nI 4)), some (.int (nI a)), some (.int c3)]) rfl rfl ?_
  refine E_iload_n rfl rfl ?_
  refine E_istore (L2 := [some (.ref 65), some (.int (nI 26)), some (.int (nI (max (max (max (max a (a + mr0 e n a)) (a + mr1 e n a)) (a + mr2 e n a)) (a + mr3 e n a)))), some (.int (nI 4)), some (.int (nI a)), some (.int (nI 26))]) rfl rfl ?_
  refine mw_p4 hj hn ha l_ce hce (f0 := max (max (max (max a (a + mr0 e n a)) (a + mr1 e n a)) (a + mr2 e n a)) (a + mr3 e n a)) (by omega) (by omega) (fun c4 => ?_)
  refine E_aload_n rfl rfl ?_
  refine E_getfield (v := .ref 82) rfl w65 rfl (by decide) rfl ?_
  refine E_iload_n rfl rfl ?_
  refine E_ialN (l := [112, 105, 101, 99, 101, 32, 0, 112, 101, 114, 115, 111, 110, 32, 0, 99, 111, 115, 116, 32, 0, 104, 97, 115, 32, 0, 98, 97, 99, 107, 32, 0, 103, 114, 101, 101, 100, 121, 0, 98, 101, 115, 116, 0]) (v := 98) rfl w82 (by omega) (by omega) rfl ?_
  refine E_if (t := 121) (b := false) rfl rfl (by decide) ?_
  refine E_iinc (y := nI 27) (L2 := [some (.ref 65), some (.int (nI 27)), some (.int (nI (max (max (max (max (max a (a + mr0 e n a)) (a + mr1 e n a)) (a + mr2 e n a)) (a + mr3 e n a)) (a + mr4 e n a)))), some (.int (nI 4)), some (.int (nI (a + mr4 e n a))), some (.int c4)]) rfl rfl (by decide) rfl ?_
  refine E_goto (t := 106) rfl rfl ?_
  refine E_aload_n rfl rfl ?_
  refine E_getfield (v := .ref 82) rfl w65 rfl (by decide) rfl ?_
  refine E_iload_n rfl rfl ?_
  refine E_ialN (l := [112, 105, 101, 99, 101, 32, 0, 112, 101, 114, 115, 111, 110, 32, 0, 99, 111, 115, 116, 32, 0, 104, 97, 115, 32, 0, 98, 97, 99, 107, 32, 0, 103, 114, 101, 101, 100, 121, 0, 98, 101, 115, 116, 0]) (v := 97) rfl w82 (by omega) (by omega) rfl ?_
  refine E_if (t := 121) (b := false) rfl rfl (by decide) ?_
  refine E_iinc (y := nI 28) (L2 := [some (.ref 65), some (.int (nI 28)), some (.int (nI (max (max (max (max (max a (a + mr0 e n a)) (a + mr1 e n a)) (a + mr2 e n a)) (a + mr3 e n a)) (a + mr4 e n a)))), some (.int (nI 4)), some (.int (nI (a + mr4 e n a))), some (.int c4)]) rfl rfl (by decide) rfl ?_
  refine E_goto (t := 106) rfl rfl ?_
  refine E_aload_n rfl rfl ?_
  refine E_getfield (v := .ref 82) rfl w65 rfl (by decide) rfl ?_
  refine E_iload_n rfl rfl ?_
  refine E_ialN (l := [112, 105, 101, 99, 101, 32, 0, 112, 101, 114, 115, 111, 110, 32, 0, 99, 111, 115, 116, 32, 0, 104, 97, 115, 32, 0, 98, 97, 99, 107, 32, 0, 103, 114, 101, 101, 100, 121, 0, 98, 101, 115, 116, 0]) (v := 99) rfl w82 (by omega) (by omega) rfl ?_
  refine E_if (t := 121) (b := false) rfl rfl (by decide) ?_
  refine E_iinc (y := nI 29) (L2 := [some (.ref 65), some (.int (nI 29)), some (.int (nI (max (max (max (max (max a (a + mr0 e n a)) (a + mr1 e n a)) (a + mr2 e n a)) (a + mr3 e n a)) (a + mr4 e n a)))), some (.int (nI 4)), some (.int (nI (a + mr4 e n a))), some (.int c4)]) rfl rfl (by decide) rfl ?_
  refine E_goto (t := 106) rfl rfl ?_
  refine E_aload_n rfl rfl ?_
  refine E_getfield (v := .ref 82) rfl w65 rfl (by decide) rfl ?_
  refine E_iload_n rfl rfl ?_
  refine E_ialN (l := [112, 105, 101, 99, 101, 32, 0, 112, 101, 114, 115, 111, 110, 32, 0, 99, 111, 115, 116, 32, 0, 104, 97, 115, 32, 0, 98, 97, 99, 107, 32, 0, 103, 114, 101, 101, 100, 121, 0, 98, 101, 115, 116, 0]) (v := 107) rfl w82 (by omega) (by omega) rfl ?_
  refine E_if (t := 121) (b := false) rfl rfl (by decide) ?_
  refine E_iinc (y := nI 30) (L2 := [some (.ref 65), some (.int (nI 30)), some (.int (nI (max (max (max (max (max a (a + mr0 e n a)) (a + mr1 e n a)) (a + mr2 e n a)) (a + mr3 e n a)) (a + mr4 e n a)))), some (.int (nI 4)), some (.int (nI (a + mr4 e n a))), some (.int c4)]) rfl rfl (by decide) rfl ?_
  refine E_goto (t := 106) rfl rfl ?_
  refine E_aload_n rfl rfl ?_
  refine E_getfield (v := .ref 82) rfl w65 rfl (by decide) rfl ?_
  refine E_iload_n rfl rfl ?_
  refine E_ialN (l := [112, 105, 101, 99, 101, 32, 0, 112, 101, 114, 115, 111, 110, 32, 0, 99, 111, 115, 116, 32, 0, 104, 97, 115, 32, 0, 98, 97, 99, 107, 32, 0, 103, 114, 101, 101, 100, 121, 0, 98, 101, 115, 116, 0]) (v := 32) rfl w82 (by omega) (by omega) rfl ?_
  refine E_if (t := 121) (b := false) rfl rfl (by decide) ?_
  refine E_iinc (y := nI 31) (L2 := [some (.ref 65), some (.int (nI 31)), some (.int (nI (max (max (max (max (max a (a + mr0 e n a)) (a + mr1 e n a)) (a + mr2 e n a)) (a + mr3 e n a)) (a + mr4 e n a)))), some (.int (nI 4)), some (.int (nI (a + mr4 e n a))), some (.int c4)]) rfl rfl (by decide) rfl ?_
  refine E_goto (t := 106) rfl rfl ?_
  refine E_aload_n rfl rfl ?_
  refine E_getfield (v := .ref 82) rfl w65 rfl (by decide) rfl ?_
  refine E_iload_n rfl rfl ?_
  refine E_ialN (l := [112, 105, 101, 99, 101, 32, 0, 112, 101, 114, 115, 111, 110, 32, 0, 99, 111, 115, 116, 32, 0, 104, 97, 115, 32, 0, 98, 97, 99, 107, 32, 0, 103, 114, 101, 101, 100, 121, 0, 98, 101, 115, 116, 0]) (v := 0) rfl w82 (by omega) (by omega) rfl ?_
  refine E_if (t := 121) (b := true) rfl rfl (by decide) ?_
  refine E_iinc (y := nI 32) (L2 := [some (.ref 65), some (.int (nI 32)), some (.int (nI (max (max (max (max (max a (a + mr0 e n a)) (a + mr1 e n a)) (a + mr2 e n a)) (a + mr3 e n a)) (a + mr4 e n a)))), some (.int (nI 4)), some (.int (nI (a + mr4 e n a))), some (.int c4)]) rfl rfl (by decide) rfl ?_
  refine E_iinc (y := nI 5) (L2 := [some (.ref 65), some (.int (nI 32)), some (.int (nI (max (max (max (max (max a (a + mr0 e n a)) (a + mr1 e n a)) (a + mr2 e n a)) (a + mr3 e n a)) (a + mr4 e n a)))), some (.int (nI 5)), some (.int (nI (a + mr4 e n a))), some (.int c4)]) rfl rfl (by decide) rfl ?_
  refine E_goto (t := 9) rfl rfl ?_
  refine E_iload_n rfl rfl ?_
  refine E_bipush (x := nI 7) rfl (by decide) ?_
  refine E_ic (t := 130) (b := false) rfl rfl (by decide) ?_
  refine E_aload_n rfl rfl ?_
  refine E_getfield (v := .int (nI a)) rfl w65 rfl (by decide) rfl ?_
  refine E_istore (L2 := [some (.ref 65), some (.int (nI 32)), some (.int (nI (max (max (max (max (max a (a + mr0 e n a)) (a + mr1 e n a)) (a + mr2 e n a)) (a + mr3 e n a)) (a + mr4 e n a)))), some (.int (nI 5)), some (.int (nI a)), some (.int c4)]) rfl rfl ?_
  refine E_iload_n rfl rfl ?_
  refine E_istore (L2 := [some (.ref 65), some (.int (nI 32)), some (.int (nI (max (max (max (max (max a (a + mr0 e n a)) (a + mr1 e n a)) (a + mr2 e n a)) (a + mr3 e n a)) (a + mr4 e n a)))), some (.int (nI 5)), some (.int (nI a)), some (.int (nI 32))]) rfl rfl ?_
  refine mw_p5 hj hn ha l_ce hce (f0 := max (max (max (max (max a (a + mr0 e n a)) (a + mr1 e n a)) (a + mr2 e n a)) (a + mr3 e n a)) (a + mr4 e n a)) (by omega) (by omega) (fun c5 => ?_)
  refine E_aload_n rfl rfl ?_
  refine E_getfield (v := .ref 82) rfl w65 rfl (by decide) rfl ?_
  refine E_iload_n rfl rfl ?_
  refine E_ialN (l := [112, 105, 101, 99, 101, 32, 0, 112, 101, 114, 115, 111, 110, 32, 0, 99, 111, 115, 116, 32, 0, 104, 97, 115, 32, 0, 98, 97, 99, 107, 32, 0, 103, 114, 101, 101, 100, 121, 0, 98, 101, 115, 116, 0]) (v := 103) rfl w82 (by omega) (by omega) rfl ?_
  refine E_if (t := 121) (b := false) rfl rfl (by decide) ?_
  refine E_iinc (y := nI 33) (L2 := [some (.ref 65), some (.int (nI 33)), some (.int (nI (max (max (max (max (max (max a (a + mr0 e n a)) (a + mr1 e n a)) (a + mr2 e n a)) (a + mr3 e n a)) (a + mr4 e n a)) (a + mr5 e n a)))), some (.int (nI 5)), some (.int (nI (a + mr5 e n a))), some (.int c5)]) rfl rfl (by decide) rfl ?_
  refine E_goto (t := 106) rfl rfl ?_
  refine E_aload_n rfl rfl ?_
  refine E_getfield (v := .ref 82) rfl w65 rfl (by decide) rfl ?_
  refine E_iload_n rfl rfl ?_
  refine E_ialN (l := [112, 105, 101, 99, 101, 32, 0, 112, 101, 114, 115, 111, 110, 32, 0, 99, 111, 115, 116, 32, 0, 104, 97, 115, 32, 0, 98, 97, 99, 107, 32, 0, 103, 114, 101, 101, 100, 121, 0, 98, 101, 115, 116, 0]) (v := 114) rfl w82 (by omega) (by omega) rfl ?_
  refine E_if (t := 121) (b := false) rfl rfl (by decide) ?_
  refine E_iinc (y := nI 34) (L2 := [some (.ref 65), some (.int (nI 34)), some (.int (nI (max (max (max (max (max (max a (a + mr0 e n a)) (a + mr1 e n a)) (a + mr2 e n a)) (a + mr3 e n a)) (a + mr4 e n a)) (a + mr5 e n a)))), some (.int (nI 5)), some (.int (nI (a + mr5 e n a))), some (.int c5)]) rfl rfl (by decide) rfl ?_
  refine E_goto (t := 106) rfl rfl ?_
  refine E_aload_n rfl rfl ?_
  refine E_getfield (v := .ref 82) rfl w65 rfl (by decide) rfl ?_
  refine E_iload_n rfl rfl ?_
  refine E_ialN (l := [112, 105, 101, 99, 101, 32, 0, 112, 101, 114, 115, 111, 110, 32, 0, 99, 111, 115, 116, 32, 0, 104, 97, 115, 32, 0, 98, 97, 99, 107, 32, 0, 103, 114, 101, 101, 100, 121, 0, 98, 101, 115, 116, 0]) (v := 101) rfl w82 (by omega) (by omega) rfl ?_
  refine E_if (t := 121) (b := false) rfl rfl (by decide) ?_
  refine E_iinc (y := nI 35) (L2 := [some (.ref 65), some (.int (nI 35)), some (.int (nI (max (max (max (max (max (max a (a + mr0 e n a)) (a + mr1 e n a)) (a + mr2 e n a)) (a + mr3 e n a)) (a + mr4 e n a)) (a + mr5 e n a)))), some (.int (nI 5)), some (.int (nI (a + mr5 e n a))), some (.int c5)]) rfl rfl (by decide) rfl ?_
  refine E_goto (t := 106) rfl rfl ?_
  refine E_aload_n rfl rfl ?_
  refine E_getfield (v := .ref 82) rfl w65 rfl (by decide) rfl ?_
  refine E_iload_n rfl rfl ?_
  refine E_ialN (l := [112, 105, 101, 99, 101, 32, 0, 112, 101, 114, 115, 111, 110, 32, 0, 99, 111, 115, 116, 32, 0, 104, 97, 115, 32, 0, 98, 97, 99, 107, 32, 0, 103, 114, 101, 101, 100, 121, 0, 98, 101, 115, 116, 0]) (v := 101) rfl w82 (by omega) (by omega) rfl ?_
  refine E_if (t := 121) (b := false) rfl rfl (by decide) ?_
  refine E_iinc (y := nI 36) (L2 := [some (.ref 65), some (.int (nI 36)), some (.int (nI (max (max (max (max (max (max a (a + mr0 e n a)) (a + mr1 e n a)) (a + mr2 e n a)) (a + mr3 e n a)) (a + mr4 e n a)) (a + mr5 e n a)))), some (.int (nI 5)), some (.int (nI (a + mr5 e n a))), some (.int c5)]) rfl rfl (by decide) rfl ?_
  refine E_goto (t := 106) rfl rfl ?_
  refine E_aload_n rfl rfl ?_
  refine E_getfield (v := .ref 82) rfl w65 rfl (by decide) rfl ?_
  refine E_iload_n rfl rfl ?_
  refine E_ialN (l := [112, 105, 101, 99, 101, 32, 0, 112, 101, 114, 115, 111, 110, 32, 0, 99, 111, 115, 116, 32, 0, 104, 97, 115, 32, 0, 98, 97, 99, 107, 32, 0, 103, 114, 101, 101, 100, 121, 0, 98, 101, 115, 116, 0]) (v := 100) rfl w82 (by omega) (by omega) rfl ?_
  refine E_if (t := 121) (b := false) rfl rfl (by decide) ?_
  refine E_iinc (y := nI 37) (L2 := [some (.ref 65), some (.int (nI 37)), some (.int (nI (max (max (max (max (max (max a (a + mr0 e n a)) (a + mr1 e n a)) (a + mr2 e n a)) (a + mr3 e n a)) (a + mr4 e n a)) (a + mr5 e n a)))), some (.int (nI 5)), some (.int (nI (a + mr5 e n a))), some (.int c5)]) rfl rfl (by decide) rfl ?_
  refine E_goto (t := 106) rfl rfl ?_
  refine E_aload_n rfl rfl ?_
  refine E_getfield (v := .ref 82) rfl w65 rfl (by decide) rfl ?_
  refine E_iload_n rfl rfl ?_
  refine E_ialN (l := [112, 105, 101, 99, 101, 32, 0, 112, 101, 114, 115, 111, 110, 32, 0, 99, 111, 115, 116, 32, 0, 104, 97, 115, 32, 0, 98, 97, 99, 107, 32, 0, 103, 114, 101, 101, 100, 121, 0, 98, 101, 115, 116, 0]) (v := 121) rfl w82 (by omega) (by omega) rfl ?_
  refine E_if (t := 121) (b := false) rfl rfl (by decide) ?_
  refine E_iinc (y := nI 38) (L2 := [some (.ref 65), some (.int (nI 38)), some (.int (nI (max (max (max (max (max (max a (a + mr0 e n a)) (a + mr1 e n a)) (a + mr2 e n a)) (a + mr3 e n a)) (a + mr4 e n a)) (a + mr5 e n a)))), some (.int (nI 5)), some (.int (nI (a + mr5 e n a))), some (.int c5)]) rfl rfl (by decide) rfl ?_
  refine E_goto (t := 106) rfl rfl ?_
  refine E_aload_n rfl rfl ?_
  refine E_getfield (v := .ref 82) rfl w65 rfl (by decide) rfl ?_
  refine E_iload_n rfl rfl ?_
  refine E_ialN (l := [112, 105, 101, 99, 101, 32, 0, 112, 101, 114, 115, 111, 110, 32, 0, 99, 111, 115, 116, 32, 0, 104, 97, 115, 32, 0, 98, 97, 99, 107, 32, 0, 103, 114, 101, 101, 100, 121, 0, 98, 101, 115, 116, 0]) (v := 0) rfl w82 (by omega) (by omega) rfl ?_
  refine E_if (t := 121) (b := true) rfl rfl (by decide) ?_
  refine E_iinc (y := nI 39) (L2 := [some (.ref 65), some (.int (nI 39)), some (.int (nI (max (max (max (max (max (max a (a + mr0 e n a)) (a + mr1 e n a)) (a + mr2 e n a)) (a + mr3 e n a)) (a + mr4 e n a)) (a + mr5 e n a)))), some (.int (nI 5)), some (.int (nI (a + mr5 e n a))), some (.int c5)]) rfl rfl (by decide) rfl ?_
  refine E_iinc (y := nI 6) (L2 := [some (.ref 65), some (.int (nI 39)), some (.int (nI (max (max (max (max (max (max a (a + mr0 e n a)) (a + mr1 e n a)) (a + mr2 e n a)) (a + mr3 e n a)) (a + mr4 e n a)) (a + mr5 e n a)))), some (.int (nI 6)), some (.int (nI (a + mr5 e n a))), some (.int c5)]) rfl rfl (by decide) rfl ?_
  refine E_goto (t := 9) rfl rfl ?_
  refine E_iload_n rfl rfl ?_
  refine E_bipush (x := nI 7) rfl (by decide) ?_
  refine E_ic (t := 130) (b := false) rfl rfl (by decide) ?_
  refine E_aload_n rfl rfl ?_
  refine E_getfield (v := .int (nI a)) rfl w65 rfl (by decide) rfl ?_
  refine E_istore (L2 := [some (.ref 65), some (.int (nI 39)), some (.int (nI (max (max (max (max (max (max a (a + mr0 e n a)) (a + mr1 e n a)) (a + mr2 e n a)) (a + mr3 e n a)) (a + mr4 e n a)) (a + mr5 e n a)))), some (.int (nI 6)), some (.int (nI a)), some (.int c5)]) rfl rfl ?_
  refine E_iload_n rfl rfl ?_
  refine E_istore (L2 := [some (.ref 65), some (.int (nI 39)), some (.int (nI (max (max (max (max (max (max a (a + mr0 e n a)) (a + mr1 e n a)) (a + mr2 e n a)) (a + mr3 e n a)) (a + mr4 e n a)) (a + mr5 e n a)))), some (.int (nI 6)), some (.int (nI a)), some (.int (nI 39))]) rfl rfl ?_
  refine mw_p6 hj hn ha l_ce hce (f0 := max (max (max (max (max (max a (a + mr0 e n a)) (a + mr1 e n a)) (a + mr2 e n a)) (a + mr3 e n a)) (a + mr4 e n a)) (a + mr5 e n a)) (by omega) (by omega) (fun c6 => ?_)
  refine E_aload_n rfl rfl ?_
  refine E_getfield (v := .ref 82) rfl w65 rfl (by decide) rfl ?_
  refine E_iload_n rfl rfl ?_
  refine E_ialN (l := [112, 105, 101, 99, 101, 32, 0, 112, 101, 114, 115, 111, 110, 32, 0, 99, 111, 115, 116, 32, 0, 104, 97, 115, 32, 0, 98, 97, 99, 107, 32, 0, 103, 114, 101, 101, 100, 121, 0, 98, 101, 115, 116, 0]) (v := 98) rfl w82 (by omega) (by omega) rfl ?_
  refine E_if (t := 121) (b := false) rfl rfl (by decide) ?_
  refine E_iinc (y := nI 40) (L2 := [some (.ref 65), some (.int (nI 40)), some (.int (nI (max (max (max (max (max (max (max a (a + mr0 e n a)) (a + mr1 e n a)) (a + mr2 e n a)) (a + mr3 e n a)) (a + mr4 e n a)) (a + mr5 e n a)) (a + mr6 e n a)))), some (.int (nI 6)), some (.int (nI (a + mr6 e n a))), some (.int c6)]) rfl rfl (by decide) rfl ?_
  refine E_goto (t := 106) rfl rfl ?_
  refine E_aload_n rfl rfl ?_
  refine E_getfield (v := .ref 82) rfl w65 rfl (by decide) rfl ?_
  refine E_iload_n rfl rfl ?_
  refine E_ialN (l := [112, 105, 101, 99, 101, 32, 0, 112, 101, 114, 115, 111, 110, 32, 0, 99, 111, 115, 116, 32, 0, 104, 97, 115, 32, 0, 98, 97, 99, 107, 32, 0, 103, 114, 101, 101, 100, 121, 0, 98, 101, 115, 116, 0]) (v := 101) rfl w82 (by omega) (by omega) rfl ?_
  refine E_if (t := 121) (b := false) rfl rfl (by decide) ?_
  refine E_iinc (y := nI 41) (L2 := [some (.ref 65), some (.int (nI 41)), some (.int (nI (max (max (max (max (max (max (max a (a + mr0 e n a)) (a + mr1 e n a)) (a + mr2 e n a)) (a + mr3 e n a)) (a + mr4 e n a)) (a + mr5 e n a)) (a + mr6 e n a)))), some (.int (nI 6)), some (.int (nI (a + mr6 e n a))), some (.int c6)]) rfl rfl (by decide) rfl ?_
  refine E_goto (t := 106) rfl rfl ?_
  refine E_aload_n rfl rfl ?_
  refine E_getfield (v := .ref 82) rfl w65 rfl (by decide) rfl ?_
  refine E_iload_n rfl rfl ?_
  refine E_ialN (l := [112, 105, 101, 99, 101, 32, 0, 112, 101, 114, 115, 111, 110, 32, 0, 99, 111, 115, 116, 32, 0, 104, 97, 115, 32, 0, 98, 97, 99, 107, 32, 0, 103, 114, 101, 101, 100, 121, 0, 98, 101, 115, 116, 0]) (v := 115) rfl w82 (by omega) (by omega) rfl ?_
  refine E_if (t := 121) (b := false) rfl rfl (by decide) ?_
  refine E_iinc (y := nI 42) (L2 := [some (.ref 65), some (.int (nI 42)), some (.int (nI (max (max (max (max (max (max (max a (a + mr0 e n a)) (a + mr1 e n a)) (a + mr2 e n a)) (a + mr3 e n a)) (a + mr4 e n a)) (a + mr5 e n a)) (a + mr6 e n a)))), some (.int (nI 6)), some (.int (nI (a + mr6 e n a))), some (.int c6)]) rfl rfl (by decide) rfl ?_
  refine E_goto (t := 106) rfl rfl ?_
  refine E_aload_n rfl rfl ?_
  refine E_getfield (v := .ref 82) rfl w65 rfl (by decide) rfl ?_
  refine E_iload_n rfl rfl ?_
  refine E_ialN (l := [112, 105, 101, 99, 101, 32, 0, 112, 101, 114, 115, 111, 110, 32, 0, 99, 111, 115, 116, 32, 0, 104, 97, 115, 32, 0, 98, 97, 99, 107, 32, 0, 103, 114, 101, 101, 100, 121, 0, 98, 101, 115, 116, 0]) (v := 116) rfl w82 (by omega) (by omega) rfl ?_
  refine E_if (t := 121) (b := false) rfl rfl (by decide) ?_
  refine E_iinc (y := nI 43) (L2 := [some (.ref 65), some (.int (nI 43)), some (.int (nI (max (max (max (max (max (max (max a (a + mr0 e n a)) (a + mr1 e n a)) (a + mr2 e n a)) (a + mr3 e n a)) (a + mr4 e n a)) (a + mr5 e n a)) (a + mr6 e n a)))), some (.int (nI 6)), some (.int (nI (a + mr6 e n a))), some (.int c6)]) rfl rfl (by decide) rfl ?_
  refine E_goto (t := 106) rfl rfl ?_
  refine E_aload_n rfl rfl ?_
  refine E_getfield (v := .ref 82) rfl w65 rfl (by decide) rfl ?_
  refine E_iload_n rfl rfl ?_
  refine E_ialN (l := [112, 105, 101, 99, 101, 32, 0, 112, 101, 114, 115, 111, 110, 32, 0, 99, 111, 115, 116, 32, 0, 104, 97, 115, 32, 0, 98, 97, 99, 107, 32, 0, 103, 114, 101, 101, 100, 121, 0, 98, 101, 115, 116, 0]) (v := 0) rfl w82 (by omega) (by omega) rfl ?_
  refine E_if (t := 121) (b := true) rfl rfl (by decide) ?_
  refine E_iinc (y := nI 44) (L2 := [some (.ref 65), some (.int (nI 44)), some (.int (nI (max (max (max (max (max (max (max a (a + mr0 e n a)) (a + mr1 e n a)) (a + mr2 e n a)) (a + mr3 e n a)) (a + mr4 e n a)) (a + mr5 e n a)) (a + mr6 e n a)))), some (.int (nI 6)), some (.int (nI (a + mr6 e n a))), some (.int c6)]) rfl rfl (by decide) rfl ?_
  refine E_iinc (y := nI 7) (L2 := [some (.ref 65), some (.int (nI 44)), some (.int (nI (max (max (max (max (max (max (max a (a + mr0 e n a)) (a + mr1 e n a)) (a + mr2 e n a)) (a + mr3 e n a)) (a + mr4 e n a)) (a + mr5 e n a)) (a + mr6 e n a)))), some (.int (nI 7)), some (.int (nI (a + mr6 e n a))), some (.int c6)]) rfl rfl (by decide) rfl ?_
  refine E_goto (t := 9) rfl rfl ?_
  refine E_iload_n rfl rfl ?_
  refine E_bipush (x := nI 7) rfl (by decide) ?_
  refine E_ic (t := 130) (b := true) rfl rfl (by decide) ?_
  refine E_aload_n rfl rfl ?_
  refine E_iload_n rfl rfl ?_
  refine E_putfield (cs2 := (ww im lf s d k ls rf rz ra rn rq lt m1 m2 m3 m4 bd fc hd sz el q (fUp (fUp (fUp (fUp (fUp (fUp g 27 (nI (160 * j))) 29 (nI n)) 6 (-1)) 28 (nI a)) 30 x30) 31 (nI (max (max (max (max (max (max (max a (a + mr0 e n a)) (a + mr1 e n a)) (a + mr2 e n a)) (a + mr3 e n a)) (a + mr4 e n a)) (a + mr5 e n a)) (a + mr6 e n a)))) fm hm so si sh ce ca td wa kp la bf oo bo pw ow tr)) rfl w65 rfl (by decide) (Nat.le_of_ble_eq_true rfl) rfl rfl rfl (w_pt65_31.trans (by rw [gn31])) ?_
  refine E_iconst (x := (-1)) rfl (by decide) ?_
  exact E_iret rfl rfl
set_option maxHeartbeats 1000000 in
theorem m_wd3b {e : List Int64} {n a j : Nat} {x30 x31 : Int32} {q : ab_q} (hj : j < 8) (hn : n ≤ 160) (ha : a ≤ n) (l_ce : ce.length = 1280) (hce : ∀ p, p < 160 → e.getD p 0 = ce.getD (160 * j + p) 0) (hw : wd e n a = 3) (hb : chB e n (a + 3) 32 = true) : Ev ab_Z0 1 158 [.ref 65] (ww im lf s d k ls rf rz ra rn rq lt m1 m2 m3 m4 bd fc hd sz el q (fUp (fUp (fUp (fUp (fUp (fUp g 27 (nI (160 * j))) 29 (nI n)) 6 (-1)) 28 (nI a)) 30 x30) 31 x31) fm hm so si sh ce ca td wa kp la bf oo bo pw ow tr) (some (.int (nI 3)), (ww im lf s d k ls rf rz ra rn rq lt m1 m2 m3 m4 bd fc hd sz el q (fUp (fUp (fUp (fUp (fUp (fUp g 27 (nI (160 * j))) 29 (nI n)) 6 (-1)) 28 (nI (a + 4))) 30 x30) 31 x31) fm hm so si sh ce ca td wa kp la bf oo bo pw ow tr)) := by
  have : ([112, 105, 101, 99, 101, 32, 0, 112, 101, 114, 115, 111, 110, 32, 0, 99, 111, 115, 116, 32, 0, 104, 97, 115, 32, 0, 98, 97, 99, 107, 32, 0, 103, 114, 101, 101, 100, 121, 0, 98, 101, 115, 116, 0] : List Nat).length = 44 := rfl
  have hwc := wd_c e n a
  have hs0 := mrS_0 e n a
  have hl0 := mr0_le e n a
  have hs1 := mrS_1 e n a
  have hl1 := mr1_le e n a
  have hs2 := mrS_2 e n a
  have hl2 := mr2_le e n a
  have hs3 := mrS_3 e n a
  have hl3 := mr3_le e n a
  have hs4 := mrS_4 e n a
  have hl4 := mr4_le e n a
  have hs5 := mrS_5 e n a
  have hl5 := mr5_le e n a
  have hs6 := mrS_6 e n a
  have hl6 := mr6_le e n a
  have hu0 : mr0 e n a = mj0 e n a := by rw [hs0]; exact if_neg (fun z => by omega)
  have hj0_ := mj0_le e n a
  have hu1 : mr1 e n a = mj1 e n a := by rw [hs1]; exact if_neg (fun z => by omega)
  have hj1_ := mj1_le e n a
  have hu2 : mr2 e n a = mj2 e n a := by rw [hs2]; exact if_neg (fun z => by omega)
  have hj2_ := mj2_le e n a
  have hu3 : mr3 e n a = 4 := by rw [hs3]; exact if_pos ⟨by omega, hb⟩
  refine Ef.in (md := mX6_word) (L := [some (.ref 65), none, none, none, none, none]) rfl (Nat.le_of_ble_eq_true rfl) rfl ?_
  refine E_iconst (x := nI 0) rfl (by decide) ?_
  refine E_istore_n (L2 := [some (.ref 65), some (.int (nI 0)), none, none, none, none]) rfl rfl ?_
  refine E_aload_n rfl rfl ?_
  refine E_getfield (v := .int (nI a)) rfl w65 rfl (by decide) rfl ?_
  refine E_istore_n (L2 := [some (.ref 65), some (.int (nI 0)), some (.int (nI a)), none, none, none]) rfl rfl ?_
  refine E_iconst (x := nI 0) rfl (by decide) ?_
  refine E_istore_n (L2 := [some (.ref 65), some (.int (nI 0)), some (.int (nI a)), some (.int (nI 0)), none, none]) rfl rfl ?_
  refine E_iload_n rfl rfl ?_
  refine E_bipush (x := nI 7) rfl (by decide) ?_
  refine E_ic (t := 130) (b := false) rfl rfl (by decide) ?_
  refine E_aload_n rfl rfl ?_
  refine E_getfield (v := .int (nI a)) rfl w65 rfl (by decide) rfl ?_
  refine E_istore (L2 := [some (.ref 65), some (.int (nI 0)), some (.int (nI a)), some (.int (nI 0)), some (.int (nI a)), none]) rfl rfl ?_
  refine E_iload_n rfl rfl ?_
  refine E_istore (L2 := [some (.ref 65), some (.int (nI 0)), some (.int (nI a)), some (.int (nI 0)), some (.int (nI a)), some (.int (nI 0))]) rfl rfl ?_
  refine mw_p0 hj hn ha l_ce hce (f0 := a) (by omega) (by omega) (fun c0 => ?_)
  refine E_aload_n rfl rfl ?_
  refine E_getfield (v := .ref 82) rfl w65 rfl (by decide) rfl ?_
  refine E_iload_n rfl rfl ?_
  refine E_ialN (l := [112, 105, 101, 99, 101, 32, 0, 112, 101, 114, 115, 111, 110, 32, 0, 99, 111, 115, 116, 32, 0, 104, 97, 115, 32, 0, 98, 97, 99, 107, 32, 0, 103, 114, 101, 101, 100, 121, 0, 98, 101, 115, 116, 0]) (v := 112) rfl w82 (by omega) (by omega) rfl ?_
  refine E_if (t := 121) (b := false) rfl rfl (by decide) ?_
  refine E_iinc (y := nI 1) (L2 := [some (.ref 65), some (.int (nI 1)), some (.int (nI (max a (a + mr0 e n a)))), some (.int (nI 0)), some (.int (nI (a + mr0 e n a))), some (.int c0)]) rfl rfl (by decide) rfl ?_
  refine E_goto (t := 106) rfl rfl ?_
  refine E_aload_n rfl rfl ?_
  refine E_getfield (v := .ref 82) rfl w65 rfl (by decide) rfl ?_
  refine E_iload_n rfl rfl ?_
  refine E_ialN (l := [112, 105, 101, 99, 101, 32, 0, 112, 101, 114, 115, 111, 110, 32, 0, 99, 111, 115, 116, 32, 0, 104, 97, 115, 32, 0, 98, 97, 99, 107, 32, 0, 103, 114, 101, 101, 100, 121, 0, 98, 101, 115, 116, 0]) (v := 105) rfl w82 (by omega) (by omega) rfl ?_
  refine E_if (t := 121) (b := false) rfl rfl (by decide) ?_
  refine E_iinc (y := nI 2) (L2 := [some (.ref 65), some (.int (nI 2)), some (.int (nI (max a (a + mr0 e n a)))), some (.int (nI 0)), some (.int (nI (a + mr0 e n a))), some (.int c0)]) rfl rfl (by decide) rfl ?_
  refine E_goto (t := 106) rfl rfl ?_
  refine E_aload_n rfl rfl ?_
  refine E_getfield (v := .ref 82) rfl w65 rfl (by decide) rfl ?_
  refine E_iload_n rfl rfl ?_
  refine E_ialN (l := [112, 105, 101, 99, 101, 32, 0, 112, 101, 114, 115, 111, 110, 32, 0, 99, 111, 115, 116, 32, 0, 104, 97, 115, 32, 0, 98, 97, 99, 107, 32, 0, 103, 114, 101, 101, 100, 121, 0, 98, 101, 115, 116, 0]) (v := 101) rfl w82 (by omega) (by omega) rfl ?_
  refine E_if (t := 121) (b := false) rfl rfl (by decide) ?_
  refine E_iinc (y := nI 3) (L2 := [some (.ref 65), some (.int (nI 3)), some (.int (nI (max a (a + mr0 e n a)))), some (.int (nI 0)), some (.int (nI (a + mr0 e n a))), some (.int c0)]) rfl rfl (by decide) rfl ?_
  refine E_goto (t := 106) rfl rfl ?_
  refine E_aload_n rfl rfl ?_
  refine E_getfield (v := .ref 82) rfl w65 rfl (by decide) rfl ?_
  refine E_iload_n rfl rfl ?_
  refine E_ialN (l := [112, 105, 101, 99, 101, 32, 0, 112, 101, 114, 115, 111, 110, 32, 0, 99, 111, 115, 116, 32, 0, 104, 97, 115, 32, 0, 98, 97, 99, 107, 32, 0, 103, 114, 101, 101, 100, 121, 0, 98, 101, 115, 116, 0]) (v := 99) rfl w82 (by omega) (by omega) rfl ?_
  refine E_if (t := 121) (b := false) rfl rfl (by decide) ?_
  refine E_iinc (y := nI 4) (L2 := [some (.ref 65), some (.int (nI 4)), some (.int (nI (max a (a + mr0 e n a)))), some (.int (nI 0)), some (.int (nI (a + mr0 e n a))), some (.int c0)]) rfl rfl (by decide) rfl ?_
  refine E_goto (t := 106) rfl rfl ?_
  refine E_aload_n rfl rfl ?_
  refine E_getfield (v := .ref 82) rfl w65 rfl (by decide) rfl ?_
  refine E_iload_n rfl rfl ?_
  refine E_ialN (l := [112, 105, 101, 99, 101, 32, 0, 112, 101, 114, 115, 111, 110, 32, 0, 99, 111, 115, 116, 32, 0, 104, 97, 115, 32, 0, 98, 97, 99, 107, 32, 0, 103, 114, 101, 101, 100, 121, 0, 98, 101, 115, 116, 0]) (v := 101) rfl w82 (by omega) (by omega) rfl ?_
  refine E_if (t := 121) (b := false) rfl rfl (by decide) ?_
  refine E_iinc (y := nI 5) (L2 := [some (.ref 65), some (.int (nI 5)), some (.int (nI (max a (a + mr0 e n a)))), some (.int (nI 0)), some (.int (nI (a + mr0 e n a))), some (.int c0)]) rfl rfl (by decide) rfl ?_
  refine E_goto (t := 106) rfl rfl ?_
  refine E_aload_n rfl rfl ?_
  refine E_getfield (v := .ref 82) rfl w65 rfl (by decide) rfl ?_
  refine E_iload_n rfl rfl ?_
  refine E_ialN (l := [112, 105, 101, 99, 101, 32, 0, 112, 101, 114, 115, 111, 110, 32, 0, 99, 111, 115, 116, 32, 0, 104, 97, 115, 32, 0, 98, 97, 99, 107, 32, 0, 103, 114, 101, 101, 100, 121, 0, 98, 101, 115, 116, 0]) (v := 32) rfl w82 (by omega) (by omega) rfl ?_
  refine E_if (t := 121) (b := false) rfl rfl (by decide) ?_
  refine E_iinc (y := nI 6) (L2 := [some (.ref 65), some (.int (nI 6)), some (.int (nI (max a (a + mr0 e n a)))), some (.int (nI 0)), some (.int (nI (a + mr0 e n a))), some (.int c0)]) rfl rfl (by decide) rfl ?_
  refine E_goto (t := 106) rfl rfl ?_
  refine E_aload_n rfl rfl ?_
  refine E_getfield (v := .ref 82) rfl w65 rfl (by decide) rfl ?_
  refine E_iload_n rfl rfl ?_
  refine E_ialN (l := [112, 105, 101, 99, 101, 32, 0, 112, 101, 114, 115, 111, 110, 32, 0, 99, 111, 115, 116, 32, 0, 104, 97, 115, 32, 0, 98, 97, 99, 107, 32, 0, 103, 114, 101, 101, 100, 121, 0, 98, 101, 115, 116, 0]) (v := 0) rfl w82 (by omega) (by omega) rfl ?_
  refine E_if (t := 121) (b := true) rfl rfl (by decide) ?_
  refine E_iinc (y := nI 7) (L2 := [some (.ref 65), some (.int (nI 7)), some (.int (nI (max a (a + mr0 e n a)))), some (.int (nI 0)), some (.int (nI (a + mr0 e n a))), some (.int c0)]) rfl rfl (by decide) rfl ?_
  refine E_iinc (y := nI 1) (L2 := [some (.ref 65), some (.int (nI 7)), some (.int (nI (max a (a + mr0 e n a)))), some (.int (nI 1)), some (.int (nI (a + mr0 e n a))), some (.int c0)]) rfl rfl (by decide) rfl ?_
  refine E_goto (t := 9) rfl rfl ?_
  refine E_iload_n rfl rfl ?_
  refine E_bipush (x := nI 7) rfl (by decide) ?_
  refine E_ic (t := 130) (b := false) rfl rfl (by decide) ?_
  refine E_aload_n rfl rfl ?_
  refine E_getfield (v := .int (nI a)) rfl w65 rfl (by decide) rfl ?_
  refine E_istore (L2 := [some (.ref 65), some (.int (nI 7)), some (.int (nI (max a (a + mr0 e n a)))), some (.int (nI 1)), some (.int (nI a)), some (.int c0)]) rfl rfl ?_
  refine E_iload_n rfl rfl ?_
  refine E_istore (L2 := [some (.ref 65), some (.int (nI 7)), some (.int (nI (max a (a + mr0 e n a)))), some (.int (nI 1)), some (.int (nI a)), some (.int (nI 7))]) rfl rfl ?_
  refine mw_p1 hj hn ha l_ce hce (f0 := max a (a + mr0 e n a)) (by omega) (by omega) (fun c1 => ?_)
  refine E_aload_n rfl rfl ?_
  refine E_getfield (v := .ref 82) rfl w65 rfl (by decide) rfl ?_
  refine E_iload_n rfl rfl ?_
  refine E_ialN (l := [112, 105, 101, 99, 101, 32, 0, 112, 101, 114, 115, 111, 110, 32, 0, 99, 111, 115, 116, 32, 0, 104, 97, 115, 32, 0, 98, 97, 99, 107, 32, 0, 103, 114, 101, 101, 100, 121, 0, 98, 101, 115, 116, 0]) (v := 112) rfl w82 (by omega) (by omega) rfl ?_
  refine E_if (t := 121) (b := false) rfl rfl (by decide) ?_
  refine E_iinc (y := nI 8) (L2 := [some (.ref 65), some (.int (nI 8)), some (.int (nI (max (max a (a + mr0 e n a)) (a + mr1 e n a)))), some (.int (nI 1)), some (.int (nI (a + mr1 e n a))), some (.int c1)]) rfl rfl (by decide) rfl ?_
  refine E_goto (t := 106) rfl rfl ?_
  refine E_aload_n rfl rfl ?_
  refine E_getfield (v := .ref 82) rfl w65 rfl (by decide) rfl ?_
  refine E_iload_n rfl rfl ?_
  refine E_ialN (l := [112, 105, 101, 99, 101, 32, 0, 112, 101, 114, 115, 111, 110, 32, 0, 99, 111, 115, 116, 32, 0, 104, 97, 115, 32, 0, 98, 97, 99, 107, 32, 0, 103, 114, 101, 101, 100, 121, 0, 98, 101, 115, 116, 0]) (v := 101) rfl w82 (by omega) (by omega) rfl ?_
  refine E_if (t := 121) (b := false) rfl rfl (by decide) ?_
  refine E_iinc (y := nI 9) (L2 := [some (.ref 65), some (.int (nI 9)), some (.int (nI (max (max a (a + mr0 e n a)) (a + mr1 e n a)))), some (.int (nI 1)), some (.int (nI (a + mr1 e n a))), some (.int c1)]) rfl rfl (by decide) rfl ?_
  refine E_goto (t := 106) rfl rfl ?_
  refine E_aload_n rfl rfl ?_
  refine E_getfield (v := .ref 82) rfl w65 rfl (by decide) rfl ?_
  refine E_iload_n rfl rfl ?_
  refine E_ialN (l := [112, 105, 101, 99, 101, 32, 0, 112, 101, 114, 115, 111, 110, 32, 0, 99, 111, 115, 116, 32, 0, 104, 97, 115, 32, 0, 98, 97, 99, 107, 32, 0, 103, 114, 101, 101, 100, 121, 0, 98, 101, 115, 116, 0]) (v := 114) rfl w82 (by omega) (by omega) rfl ?_
  refine E_if (t := 121) (b := false) rfl rfl (by decide) ?_
  refine E_iinc (y := nI 10) (L2 := [some (.ref 65), some (.int (nI 10)), some (.int (nI (max (max a (a + mr0 e n a)) (a + mr1 e n a)))), some (.int (nI 1)), some (.int (nI (a + mr1 e n a))), some (.int c1)]) rfl rfl (by decide) rfl ?_
  refine E_goto (t := 106) rfl rfl ?_
  refine E_aload_n rfl rfl ?_
  refine E_getfield (v := .ref 82) rfl w65 rfl (by decide) rfl ?_
  refine E_iload_n rfl rfl ?_
  refine E_ialN (l := [112, 105, 101, 99, 101, 32, 0, 112, 101, 114, 115, 111, 110, 32, 0, 99, 111, 115, 116, 32, 0, 104, 97, 115, 32, 0, 98, 97, 99, 107, 32, 0, 103, 114, 101, 101, 100, 121, 0, 98, 101, 115, 116, 0]) (v := 115) rfl w82 (by omega) (by omega) rfl ?_
  refine E_if (t := 121) (b := false) rfl rfl (by decide) ?_
  refine E_iinc (y := nI 11) (L2 := [some (.ref 65), some (.int (nI 11)), some (.int (nI (max (max a (a + mr0 e n a)) (a + mr1 e n a)))), some (.int (nI 1)), some (.int (nI (a + mr1 e n a))), some (.int c1)]) rfl rfl (by decide) rfl ?_
  refine E_goto (t := 106) rfl rfl ?_
  refine E_aload_n rfl rfl ?_
  refine E_getfield (v := .ref 82) rfl w65 rfl (by decide) rfl ?_
  refine E_iload_n rfl rfl ?_
  refine E_ialN (l := [112, 105, 101, 99, 101, 32, 0, 112, 101, 114, 115, 111, 110, 32, 0, 99, 111, 115, 116, 32, 0, 104, 97, 115, 32, 0, 98, 97, 99, 107, 32, 0, 103, 114, 101, 101, 100, 121, 0, 98, 101, 115, 116, 0]) (v := 111) rfl w82 (by omega) (by omega) rfl ?_
  refine E_if (t := 121) (b := false) rfl rfl (by decide) ?_
  refine E_iinc (y := nI 12) (L2 := [some (.ref 65), some (.int (nI 12)), some (.int (nI (max (max a (a + mr0 e n a)) (a + mr1 e n a)))), some (.int (nI 1)), some (.int (nI (a + mr1 e n a))), some (.int c1)]) rfl rfl (by decide) rfl ?_
  refine E_goto (t := 106) rfl rfl ?_
  refine E_aload_n rfl rfl ?_
  refine E_getfield (v := .ref 82) rfl w65 rfl (by decide) rfl ?_
  refine E_iload_n rfl rfl ?_
  refine E_ialN (l := [112, 105, 101, 99, 101, 32, 0, 112, 101, 114, 115, 111, 110, 32, 0, 99, 111, 115, 116, 32, 0, 104, 97, 115, 32, 0, 98, 97, 99, 107, 32, 0, 103, 114, 101, 101, 100, 121, 0, 98, 101, 115, 116, 0]) (v := 110) rfl w82 (by omega) (by omega) rfl ?_
  refine E_if (t := 121) (b := false) rfl rfl (by decide) ?_
  refine E_iinc (y := nI 13) (L2 := [some (.ref 65), some (.int (nI 13)), some (.int (nI (max (max a (a + mr0 e n a)) (a + mr1 e n a)))), some (.int (nI 1)), some (.int (nI (a + mr1 e n a))), some (.int c1)]) rfl rfl (by decide) rfl ?_
  refine E_goto (t := 106) rfl rfl ?_
  refine E_aload_n rfl rfl ?_
  refine E_getfield (v := .ref 82) rfl w65 rfl (by decide) rfl ?_
  refine E_iload_n rfl rfl ?_
  refine E_ialN (l := [112, 105, 101, 99, 101, 32, 0, 112, 101, 114, 115, 111, 110, 32, 0, 99, 111, 115, 116, 32, 0, 104, 97, 115, 32, 0, 98, 97, 99, 107, 32, 0, 103, 114, 101, 101, 100, 121, 0, 98, 101, 115, 116, 0]) (v := 32) rfl w82 (by omega) (by omega) rfl ?_
  refine E_if (t := 121) (b := false) rfl rfl (by decide) ?_
  refine E_iinc (y := nI 14) (L2 := [some (.ref 65), some (.int (nI 14)), some (.int (nI (max (max a (a + mr0 e n a)) (a + mr1 e n a)))), some (.int (nI 1)), some (.int (nI (a + mr1 e n a))), some (.int c1)]) rfl rfl (by decide) rfl ?_
  refine E_goto (t := 106) rfl rfl ?_
  refine E_aload_n rfl rfl ?_
  refine E_getfield (v := .ref 82) rfl w65 rfl (by decide) rfl ?_
  refine E_iload_n rfl rfl ?_
  refine E_ialN (l := [112, 105, 101, 99, 101, 32, 0, 112, 101, 114, 115, 111, 110, 32, 0, 99, 111, 115, 116, 32, 0, 104, 97, 115, 32, 0, 98, 97, 99, 107, 32, 0, 103, 114, 101, 101, 100, 121, 0, 98, 101, 115, 116, 0]) (v := 0) rfl w82 (by omega) (by omega) rfl ?_
  refine E_if (t := 121) (b := true) rfl rfl (by decide) ?_
  refine E_iinc (y := nI 15) (L2 := [some (.ref 65), some (.int (nI 15)), some (.int (nI (max (max a (a + mr0 e n a)) (a + mr1 e n a)))), some (.int (nI 1)), some (.int (nI (a + mr1 e n a))), some (.int c1)]) rfl rfl (by decide) rfl ?_
  refine E_iinc (y := nI 2) (L2 := [some (.ref 65), some (.int (nI 15)), some (.int (nI (max (max a (a + mr0 e n a)) (a + mr1 e n a)))), some (.int (nI 2)), some (.int (nI (a + mr1 e n a))), some (.int c1)]) rfl rfl (by decide) rfl ?_
  refine E_goto (t := 9) rfl rfl ?_
  refine E_iload_n rfl rfl ?_
  refine E_bipush (x := nI 7) rfl (by decide) ?_
  refine E_ic (t := 130) (b := false) rfl rfl (by decide) ?_
  refine E_aload_n rfl rfl ?_
  refine E_getfield (v := .int (nI a)) rfl w65 rfl (by decide) rfl ?_
  refine E_istore (L2 := [some (.ref 65), some (.int (nI 15)), some (.int (nI (max (max a (a + mr0 e n a)) (a + mr1 e n a)))), some (.int (nI 2)), some (.int (nI a)), some (.int c1)]) rfl rfl ?_
  refine E_iload_n rfl rfl ?_
  refine E_istore (L2 := [some (.ref 65), some (.int (nI 15)), some (.int (nI (max (max a (a + mr0 e n a)) (a + mr1 e n a)))), some (.int (nI 2)), some (.int (nI a)), some (.int (nI 15))]) rfl rfl ?_
  refine mw_p2 hj hn ha l_ce hce (f0 := max (max a (a + mr0 e n a)) (a + mr1 e n a)) (by omega) (by omega) (fun c2 => ?_)
  refine E_aload_n rfl rfl ?_
  refine E_getfield (v := .ref 82) rfl w65 rfl (by decide) rfl ?_
  refine E_iload_n rfl rfl ?_
  refine E_ialN (l := [112, 105, 101, 99, 101, 32, 0, 112, 101, 114, 115, 111, 110, 32, 0, 99, 111, 115, 116, 32, 0, 104, 97, 115, 32, 0, 98, 97, 99, 107, 32, 0, 103, 114, 101, 101, 100, 121, 0, 98, 101, 115, 116, 0]) (v := 99) rfl w82 (by omega) (by omega) rfl ?_
  refine E_if (t := 121) (b := false) rfl rfl (by decide) ?_
  refine E_iinc (y := nI 16) (L2 := [some (.ref 65), some (.int (nI 16)), some (.int (nI (max (max (max a (a + mr0 e n a)) (a + mr1 e n a)) (a + mr2 e n a)))), some (.int (nI 2)), some (.int (nI (a + mr2 e n a))), some (.int c2)]) rfl rfl (by decide) rfl ?_
  refine E_goto (t := 106) rfl rfl ?_
  refine E_aload_n rfl rfl ?_
  refine E_getfield (v := .ref 82) rfl w65 rfl (by decide) rfl ?_
  refine E_iload_n rfl rfl ?_
  refine E_ialN (l := [112, 105, 101, 99, 101, 32, 0, 112, 101, 114, 115, 111, 110, 32, 0, 99, 111, 115, 116, 32, 0, 104, 97, 115, 32, 0, 98, 97, 99, 107, 32, 0, 103, 114, 101, 101, 100, 121, 0, 98, 101, 115, 116, 0]) (v := 111) rfl w82 (by omega) (by omega) rfl ?_
  refine E_if (t := 121) (b := false) rfl rfl (by decide) ?_
  refine E_iinc (y := nI 17) (L2 := [some (.ref 65), some (.int (nI 17)), some (.int (nI (max (max (max a (a + mr0 e n a)) (a + mr1 e n a)) (a + mr2 e n a)))), some (.int (nI 2)), some (.int (nI (a + mr2 e n a))), some (.int c2)]) rfl rfl (by decide) rfl ?_
  refine E_goto (t := 106) rfl rfl ?_
  refine E_aload_n rfl rfl ?_
  refine E_getfield (v := .ref 82) rfl w65 rfl (by decide) rfl ?_
  refine E_iload_n rfl rfl ?_
  refine E_ialN (l := [112, 105, 101, 99, 101, 32, 0, 112, 101, 114, 115, 111, 110, 32, 0, 99, 111, 115, 116, 32, 0, 104, 97, 115, 32, 0, 98, 97, 99, 107, 32, 0, 103, 114, 101, 101, 100, 121, 0, 98, 101, 115, 116, 0]) (v := 115) rfl w82 (by omega) (by omega) rfl ?_
  refine E_if (t := 121) (b := false) rfl rfl (by decide) ?_
  refine E_iinc (y := nI 18) (L2 := [some (.ref 65), some (.int (nI 18)), some (.int (nI (max (max (max a (a + mr0 e n a)) (a + mr1 e n a)) (a + mr2 e n a)))), some (.int (nI 2)), some (.int (nI (a + mr2 e n a))), some (.int c2)]) rfl rfl (by decide) rfl ?_
  refine E_goto (t := 106) rfl rfl ?_
  refine E_aload_n rfl rfl ?_
  refine E_getfield (v := .ref 82) rfl w65 rfl (by decide) rfl ?_
  refine E_iload_n rfl rfl ?_
  refine E_ialN (l := [112, 105, 101, 99, 101, 32, 0, 112, 101, 114, 115, 111, 110, 32, 0, 99, 111, 115, 116, 32, 0, 104, 97, 115, 32, 0, 98, 97, 99, 107, 32, 0, 103, 114, 101, 101, 100, 121, 0, 98, 101, 115, 116, 0]) (v := 116) rfl w82 (by omega) (by omega) rfl ?_
  refine E_if (t := 121) (b := false) rfl rfl (by decide) ?_
  refine E_iinc (y := nI 19) (L2 := [some (.ref 65), some (.int (nI 19)), some (.int (nI (max (max (max a (a + mr0 e n a)) (a + mr1 e n a)) (a + mr2 e n a)))), some (.int (nI 2)), some (.int (nI (a + mr2 e n a))), some (.int c2)]) rfl rfl (by decide) rfl ?_
  refine E_goto (t := 106) rfl rfl ?_
  refine E_aload_n rfl rfl ?_
  refine E_getfield (v := .ref 82) rfl w65 rfl (by decide) rfl ?_
  refine E_iload_n rfl rfl ?_
  refine E_ialN (l := [112, 105, 101, 99, 101, 32, 0, 112, 101, 114, 115, 111, 110, 32, 0, 99, 111, 115, 116, 32, 0, 104, 97, 115, 32, 0, 98, 97, 99, 107, 32, 0, 103, 114, 101, 101, 100, 121, 0, 98, 101, 115, 116, 0]) (v := 32) rfl w82 (by omega) (by omega) rfl ?_
  refine E_if (t := 121) (b := false) rfl rfl (by decide) ?_
  refine E_iinc (y := nI 20) (L2 := [some (.ref 65), some (.int (nI 20)), some (.int (nI (max (max (max a (a + mr0 e n a)) (a + mr1 e n a)) (a + mr2 e n a)))), some (.int (nI 2)), some (.int (nI (a + mr2 e n a))), some (.int c2)]) rfl rfl (by decide) rfl ?_
  refine E_goto (t := 106) rfl rfl ?_
  refine E_aload_n rfl rfl ?_
  refine E_getfield (v := .ref 82) rfl w65 rfl (by decide) rfl ?_
  refine E_iload_n rfl rfl ?_
  refine E_ialN (l := [112, 105, 101, 99, 101, 32, 0, 112, 101, 114, 115, 111, 110, 32, 0, 99, 111, 115, 116, 32, 0, 104, 97, 115, 32, 0, 98, 97, 99, 107, 32, 0, 103, 114, 101, 101, 100, 121, 0, 98, 101, 115, 116, 0]) (v := 0) rfl w82 (by omega) (by omega) rfl ?_
  refine E_if (t := 121) (b := true) rfl rfl (by decide) ?_
  refine E_iinc (y := nI 21) (L2 := [some (.ref 65), some (.int (nI 21)), some (.int (nI (max (max (max a (a + mr0 e n a)) (a + mr1 e n a)) (a + mr2 e n a)))), some (.int (nI 2)), some (.int (nI (a + mr2 e n a))), some (.int c2)]) rfl rfl (by decide) rfl ?_
  refine E_iinc (y := nI 3) (L2 := [some (.ref 65), some (.int (nI 21)), some (.int (nI (max (max (max a (a + mr0 e n a)) (a + mr1 e n a)) (a + mr2 e n a)))), some (.int (nI 3)), some (.int (nI (a + mr2 e n a))), some (.int c2)]) rfl rfl (by decide) rfl ?_
  refine E_goto (t := 9) rfl rfl ?_
  refine E_iload_n rfl rfl ?_
  refine E_bipush (x := nI 7) rfl (by decide) ?_
  refine E_ic (t := 130) (b := false) rfl rfl (by decide) ?_
  refine E_aload_n rfl rfl ?_
  refine E_getfield (v := .int (nI a)) rfl w65 rfl (by decide) rfl ?_
  refine E_istore (L2 := [some (.ref 65), some (.int (nI 21)), some (.int (nI (max (max (max a (a + mr0 e n a)) (a + mr1 e n a)) (a + mr2 e n a)))), some (.int (nI 3)), some (.int (nI a)), some (.int c2)]) rfl rfl ?_
  refine E_iload_n rfl rfl ?_
  refine E_istore (L2 := [some (.ref 65), some (.int (nI 21)), some (.int (nI (max (max (max a (a + mr0 e n a)) (a + mr1 e n a)) (a + mr2 e n a)))), some (.int (nI 3)), some (.int (nI a)), some (.int (nI 21))]) rfl rfl ?_
  refine mw_f3 hj hn ha l_ce hce (by omega) ?_
  refine E_aload_n rfl rfl ?_
  refine E_iload rfl rfl ?_
  refine E_putfield (cs2 := (ww im lf s d k ls rf rz ra rn rq lt m1 m2 m3 m4 bd fc hd sz el q (fUp (fUp (fUp (fUp (fUp (fUp g 27 (nI (160 * j))) 29 (nI n)) 6 (-1)) 28 (nI (a + 4))) 30 x30) 31 x31) fm hm so si sh ce ca td wa kp la bf oo bo pw ow tr)) rfl w65 rfl (by decide) (Nat.le_of_ble_eq_true rfl) rfl rfl rfl (w_pt65_28.trans (by rw [gn28])) ?_
  refine E_iload_n rfl rfl ?_
  exact E_iret rfl rfl
set_option maxHeartbeats 1000000 in
theorem m_wd3n {e : List Int64} {n a j : Nat} {x30 x31 : Int32} {q : ab_q} (hj : j < 8) (hn : n ≤ 160) (ha : a ≤ n) (l_ce : ce.length = 1280) (hce : ∀ p, p < 160 → e.getD p 0 = ce.getD (160 * j + p) 0) (hw : wd e n a = 3) (hb : chB e n (a + 3) 32 = false) : Ev ab_Z0 1 158 [.ref 65] (ww im lf s d k ls rf rz ra rn rq lt m1 m2 m3 m4 bd fc hd sz el q (fUp (fUp (fUp (fUp (fUp (fUp g 27 (nI (160 * j))) 29 (nI n)) 6 (-1)) 28 (nI a)) 30 x30) 31 x31) fm hm so si sh ce ca td wa kp la bf oo bo pw ow tr) (some (.int (-1)), (ww im lf s d k ls rf rz ra rn rq lt m1 m2 m3 m4 bd fc hd sz el q (fUp (fUp (fUp (fUp (fUp (fUp g 27 (nI (160 * j))) 29 (nI n)) 6 (-1)) 28 (nI a)) 30 x30) 31 (nI (a + 3))) fm hm so si sh ce ca td wa kp la bf oo bo pw ow tr)) := by
  have : ([112, 105, 101, 99, 101, 32, 0, 112, 101, 114, 115, 111, 110, 32, 0, 99, 111, 115, 116, 32, 0, 104, 97, 115, 32, 0, 98, 97, 99, 107, 32, 0, 103, 114, 101, 101, 100, 121, 0, 98, 101, 115, 116, 0] : List Nat).length = 44 := rfl
  have hwc := wd_c e n a
  have hs0 := mrS_0 e n a
  have hl0 := mr0_le e n a
  have hs1 := mrS_1 e n a
  have hl1 := mr1_le e n a
  have hs2 := mrS_2 e n a
  have hl2 := mr2_le e n a
  have hs3 := mrS_3 e n a
  have hl3 := mr3_le e n a
  have hs4 := mrS_4 e n a
  have hl4 := mr4_le e n a
  have hs5 := mrS_5 e n a
  have hl5 := mr5_le e n a
  have hs6 := mrS_6 e n a
  have hl6 := mr6_le e n a
  have hu0 : mr0 e n a = mj0 e n a := by rw [hs0]; exact if_neg (fun z => by omega)
  have hj0_ := mj0_le e n a
  have hu1 : mr1 e n a = mj1 e n a := by rw [hs1]; exact if_neg (fun z => by omega)
  have hj1_ := mj1_le e n a
  have hu2 : mr2 e n a = mj2 e n a := by rw [hs2]; exact if_neg (fun z => by omega)
  have hj2_ := mj2_le e n a
  have hu3 : mr3 e n a = 3 := by rw [hs3]; rw [if_neg (fun z => by rw [hb] at z; exact absurd z.2 (by decide))]; omega
  have hx4 := ex_3_4 (e := e) (n := n) (a := a) (by omega)
  have hu4 : mr4 e n a = mj4 e n a := by rw [hs4]; exact if_neg (fun z => by omega)
  have hx5 := ex_3_5 (e := e) (n := n) (a := a) (by omega)
  have hu5 : mr5 e n a = mj5 e n a := rfl
  have hx6 := ex_3_6 (e := e) (n := n) (a := a) (by omega)
  have hu6 : mr6 e n a = mj6 e n a := rfl
  have hx0 := ex_3_0 (e := e) (n := n) (a := a) (by omega)
  have hx1 := ex_3_1 (e := e) (n := n) (a := a) (by omega)
  have hx2 := ex_3_2 (e := e) (n := n) (a := a) (by omega)
  have hfar : max (max (max (max (max (max (max a (a + mr0 e n a)) (a + mr1 e n a)) (a + mr2 e n a)) (a + mr3 e n a)) (a + mr4 e n a)) (a + mr5 e n a)) (a + mr6 e n a) = a + 3 := by omega
  rw [← hfar]
  refine Ef.in (md := mX6_word) (L := [some (.ref 65), none, none, none, none, none]) rfl (Nat.le_of_ble_eq_true rfl) rfl ?_
  refine E_iconst (x := nI 0) rfl (by decide) ?_
  refine E_istore_n (L2 := [some (.ref 65), some (.int (nI 0)), none, none, none, none]) rfl rfl ?_
  refine E_aload_n rfl rfl ?_
  refine E_getfield (v := .int (nI a)) rfl w65 rfl (by decide) rfl ?_
  refine E_istore_n (L2 := [some (.ref 65), some (.int (nI 0)), some (.int (nI a)), none, none, none]) rfl rfl ?_
  refine E_iconst (x := nI 0) rfl (by decide) ?_
  refine E_istore_n (L2 := [some (.ref 65), some (.int (nI 0)), some (.int (nI a)), some (.int (nI 0)), none, none]) rfl rfl ?_
  refine E_iload_n rfl rfl ?_
  refine E_bipush (x := nI 7) rfl (by decide) ?_
  refine E_ic (t := 130) (b := false) rfl rfl (by decide) ?_
  refine E_aload_n rfl rfl ?_
  refine E_getfield (v := .int (nI a)) rfl w65 rfl (by decide) rfl ?_
  refine E_istore (L2 := [some (.ref 65), some (.int (nI 0)), some (.int (nI a)), some (.int (nI 0)), some (.int (nI a)), none]) rfl rfl ?_
  refine E_iload_n rfl rfl ?_
  refine E_istore (L2 := [some (.ref 65), some (.int (nI 0)), some (.int (nI a)), some (.int (nI 0)), some (.int (nI a)), some (.int (nI 0))]) rfl rfl ?_
  refine mw_p0 hj hn ha l_ce hce (f0 := a) (by omega) (by omega) (fun c0 => ?_)
  refine E_aload_n rfl rfl ?_
  refine E_getfield (v := .ref 82) rfl w65 rfl (by decide) rfl ?_
  refine E_iload_n rfl rfl ?_
  refine E_ialN (l := [112, 105, 101, 99, 101, 32, 0, 112, 101, 114, 115, 111, 110, 32, 0, 99, 111, 115, 116, 32, 0, 104, 97, 115, 32, 0, 98, 97, 99, 107, 32, 0, 103, 114, 101, 101, 100, 121, 0, 98, 101, 115, 116, 0]) (v := 112) rfl w82 (by omega) (by omega) rfl ?_
  refine E_if (t := 121) (b := false) rfl rfl (by decide) ?_
  refine E_iinc (y := nI 1) (L2 := [some (.ref 65), some (.int (nI 1)), some (.int (nI (max a (a + mr0 e n a)))), some (.int (nI 0)), some (.int (nI (a + mr0 e n a))), some (.int c0)]) rfl rfl (by decide) rfl ?_
  refine E_goto (t := 106) rfl rfl ?_
  refine E_aload_n rfl rfl ?_
  refine E_getfield (v := .ref 82) rfl w65 rfl (by decide) rfl ?_
  refine E_iload_n rfl rfl ?_
  refine E_ialN (l := [112, 105, 101, 99, 101, 32, 0, 112, 101, 114, 115, 111, 110, 32, 0, 99, 111, 115, 116, 32, 0, 104, 97, 115, 32, 0, 98, 97, 99, 107, 32, 0, 103, 114, 101, 101, 100, 121, 0, 98, 101, 115, 116, 0]) (v := 105) rfl w82 (by omega) (by omega) rfl ?_
  refine E_if (t := 121) (b := false) rfl rfl (by decide) ?_
  refine E_iinc (y := nI 2) (L2 := [some (.ref 65), some (.int (nI 2)), some (.int (nI (max a (a + mr0 e n a)))), some (.int (nI 0)), some (.int (nI (a + mr0 e n a))), some (.int c0)]) rfl rfl (by decide) rfl ?_
  refine E_goto (t := 106) rfl rfl ?_
  refine E_aload_n rfl rfl ?_
  refine E_getfield (v := .ref 82) rfl w65 rfl (by decide) rfl ?_
  refine E_iload_n rfl rfl ?_
  refine E_ialN (l := [112, 105, 101, 99, 101, 32, 0, 112, 101, 114, 115, 111, 110, 32, 0, 99, 111, 115, 116, 32, 0, 104, 97, 115, 32, 0, 98, 97, 99, 107, 32, 0, 103, 114, 101, 101, 100, 121, 0, 98, 101, 115, 116, 0]) (v := 101) rfl w82 (by omega) (by omega) rfl ?_
  refine E_if (t := 121) (b := false) rfl rfl (by decide) ?_
  refine E_iinc (y := nI 3) (L2 := [some (.ref 65), some (.int (nI 3)), some (.int (nI (max a (a + mr0 e n a)))), some (.int (nI 0)), some (.int (nI (a + mr0 e n a))), some (.int c0)]) rfl rfl (by decide) rfl ?_
  refine E_goto (t := 106) rfl rfl ?_
  refine E_aload_n rfl rfl ?_
  refine E_getfield (v := .ref 82) rfl w65 rfl (by decide) rfl ?_
  refine E_iload_n rfl rfl ?_
  refine E_ialN (l := [112, 105, 101, 99, 101, 32, 0, 112, 101, 114, 115, 111, 110, 32, 0, 99, 111, 115, 116, 32, 0, 104, 97, 115, 32, 0, 98, 97, 99, 107, 32, 0, 103, 114, 101, 101, 100, 121, 0, 98, 101, 115, 116, 0]) (v := 99) rfl w82 (by omega) (by omega) rfl ?_
  refine E_if (t := 121) (b := false) rfl rfl (by decide) ?_
  refine E_iinc (y := nI 4) (L2 := [some (.ref 65), some (.int (nI 4)), some (.int (nI (max a (a + mr0 e n a)))), some (.int (nI 0)), some (.int (nI (a + mr0 e n a))), some (.int c0)]) rfl rfl (by decide) rfl ?_
  refine E_goto (t := 106) rfl rfl ?_
  refine E_aload_n rfl rfl ?_
  refine E_getfield (v := .ref 82) rfl w65 rfl (by decide) rfl ?_
  refine E_iload_n rfl rfl ?_
  refine E_ialN (l := [112, 105, 101, 99, 101, 32, 0, 112, 101, 114, 115, 111, 110, 32, 0, 99, 111, 115, 116, 32, 0, 104, 97, 115, 32, 0, 98, 97, 99, 107, 32, 0, 103, 114, 101, 101, 100, 121, 0, 98, 101, 115, 116, 0]) (v := 101) rfl w82 (by omega) (by omega) rfl ?_
  refine E_if (t := 121) (b := false) rfl rfl (by decide) ?_
  refine E_iinc (y := nI 5) (L2 := [some (.ref 65), some (.int (nI 5)), some (.int (nI (max a (a + mr0 e n a)))), some (.int (nI 0)), some (.int (nI (a + mr0 e n a))), some (.int c0)]) rfl rfl (by decide) rfl ?_
  refine E_goto (t := 106) rfl rfl ?_
  refine E_aload_n rfl rfl ?_
  refine E_getfield (v := .ref 82) rfl w65 rfl (by decide) rfl ?_
  refine E_iload_n rfl rfl ?_
  refine E_ialN (l := [112, 105, 101, 99, 101, 32, 0, 112, 101, 114, 115, 111, 110, 32, 0, 99, 111, 115, 116, 32, 0, 104, 97, 115, 32, 0, 98, 97, 99, 107, 32, 0, 103, 114, 101, 101, 100, 121, 0, 98, 101, 115, 116, 0]) (v := 32) rfl w82 (by omega) (by omega) rfl ?_
  refine E_if (t := 121) (b := false) rfl rfl (by decide) ?_
  refine E_iinc (y := nI 6) (L2 := [some (.ref 65), some (.int (nI 6)), some (.int (nI (max a (a + mr0 e n a)))), some (.int (nI 0)), some (.int (nI (a + mr0 e n a))), some (.int c0)]) rfl rfl (by decide) rfl ?_
  refine E_goto (t := 106) rfl rfl ?_
  refine E_aload_n rfl rfl ?_
  refine E_getfield (v := .ref 82) rfl w65 rfl (by decide) rfl ?_
  refine E_iload_n rfl rfl ?_
  refine E_ialN (l := [112, 105, 101, 99, 101, 32, 0, 112, 101, 114, 115, 111, 110, 32, 0, 99, 111, 115, 116, 32, 0, 104, 97, 115, 32, 0, 98, 97, 99, 107, 32, 0, 103, 114, 101, 101, 100, 121, 0, 98, 101, 115, 116, 0]) (v := 0) rfl w82 (by omega) (by omega) rfl ?_
  refine E_if (t := 121) (b := true) rfl rfl (by decide) ?_
  refine E_iinc (y := nI 7) (L2 := [some (.ref 65), some (.int (nI 7)), some (.int (nI (max a (a + mr0 e n a)))), some (.int (nI 0)), some (.int (nI (a + mr0 e n a))), some (.int c0)]) rfl rfl (by decide) rfl ?_
  refine E_iinc (y := nI 1) (L2 := [some (.ref 65), some (.int (nI 7)), some (.int (nI (max a (a + mr0 e n a)))), some (.int (nI 1)), some (.int (nI (a + mr0 e n a))), some (.int c0)]) rfl rfl (by decide) rfl ?_
  refine E_goto (t := 9) rfl rfl ?_
  refine E_iload_n rfl rfl ?_
  refine E_bipush (x := nI 7) rfl (by decide) ?_
  refine E_ic (t := 130) (b := false) rfl rfl (by decide) ?_
  refine E_aload_n rfl rfl ?_
  refine E_getfield (v := .int (nI a)) rfl w65 rfl (by decide) rfl ?_
  refine E_istore (L2 := [some (.ref 65), some (.int (nI 7)), some (.int (nI (max a (a + mr0 e n a)))), some (.int (nI 1)), some (.int (nI a)), some (.int c0)]) rfl rfl ?_
  refine E_iload_n rfl rfl ?_
  refine E_istore (L2 := [some (.ref 65), some (.int (nI 7)), some (.int (nI (max a (a + mr0 e n a)))), some (.int (nI 1)), some (.int (nI a)), some (.int (nI 7))]) rfl rfl ?_
  refine mw_p1 hj hn ha l_ce hce (f0 := max a (a + mr0 e n a)) (by omega) (by omega) (fun c1 => ?_)
  refine E_aload_n rfl rfl ?_
  refine E_getfield (v := .ref 82) rfl w65 rfl (by decide) rfl ?_
  refine E_iload_n rfl rfl ?_
  refine E_ialN (l := [112, 105, 101, 99, 101, 32, 0, 112, 101, 114, 115, 111, 110, 32, 0, 99, 111, 115, 116, 32, 0, 104, 97, 115, 32, 0, 98, 97, 99, 107, 32, 0, 103, 114, 101, 101, 100, 121, 0, 98, 101, 115, 116, 0]) (v := 112) rfl w82 (by omega) (by omega) rfl ?_
  refine E_if (t := 121) (b := false) rfl rfl (by decide) ?_
  refine E_iinc (y := nI 8) (L2 := [some (.ref 65), some (.int (nI 8)), some (.int (nI (max (max a (a + mr0 e n a)) (a + mr1 e n a)))), some (.int (nI 1)), some (.int (nI (a + mr1 e n a))), some (.int c1)]) rfl rfl (by decide) rfl ?_
  refine E_goto (t := 106) rfl rfl ?_
  refine E_aload_n rfl rfl ?_
  refine E_getfield (v := .ref 82) rfl w65 rfl (by decide) rfl ?_
  refine E_iload_n rfl rfl ?_
  refine E_ialN (l := [112, 105, 101, 99, 101, 32, 0, 112, 101, 114, 115, 111, 110, 32, 0, 99, 111, 115, 116, 32, 0, 104, 97, 115, 32, 0, 98, 97, 99, 107, 32, 0, 103, 114, 101, 101, 100, 121, 0, 98, 101, 115, 116, 0]) (v := 101) rfl w82 (by omega) (by omega) rfl ?_
  refine E_if (t := 121) (b := false) rfl rfl (by decide) ?_
  refine E_iinc (y := nI 9) (L2 := [some (.ref 65), some (.int (nI 9)), some (.int (nI (max (max a (a + mr0 e n a)) (a + mr1 e n a)))), some (.int (nI 1)), some (.int (nI (a + mr1 e n a))), some (.int c1)]) rfl rfl (by decide) rfl ?_
  refine E_goto (t := 106) rfl rfl ?_
  refine E_aload_n rfl rfl ?_
  refine E_getfield (v := .ref 82) rfl w65 rfl (by decide) rfl ?_
  refine E_iload_n rfl rfl ?_
  refine E_ialN (l := [112, 105, 101, 99, 101, 32, 0, 112, 101, 114, 115, 111, 110, 32, 0, 99, 111, 115, 116, 32, 0, 104, 97, 115, 32, 0, 98, 97, 99, 107, 32, 0, 103, 114, 101, 101, 100, 121, 0, 98, 101, 115, 116, 0]) (v := 114) rfl w82 (by omega) (by omega) rfl ?_
  refine E_if (t := 121) (b := false) rfl rfl (by decide) ?_
  refine E_iinc (y := nI 10) (L2 := [some (.ref 65), some (.int (nI 10)), some (.int (nI (max (max a (a + mr0 e n a)) (a + mr1 e n a)))), some (.int (nI 1)), some (.int (nI (a + mr1 e n a))), some (.int c1)]) rfl rfl (by decide) rfl ?_
  refine E_goto (t := 106) rfl rfl ?_
  refine E_aload_n rfl rfl ?_
  refine E_getfield (v := .ref 82) rfl w65 rfl (by decide) rfl ?_
  refine E_iload_n rfl rfl ?_
  refine E_ialN (l := [112, 105, 101, 99, 101, 32, 0, 112, 101, 114, 115, 111, 110, 32, 0, 99, 111, 115, 116, 32, 0, 104, 97, 115, 32, 0, 98, 97, 99, 107, 32, 0, 103, 114, 101, 101, 100, 121, 0, 98, 101, 115, 116, 0]) (v := 115) rfl w82 (by omega) (by omega) rfl ?_
  refine E_if (t := 121) (b := false) rfl rfl (by decide) ?_
  refine E_iinc (y := nI 11) (L2 := [some (.ref 65), some (.int (nI 11)), some (.int (nI (max (max a (a + mr0 e n a)) (a + mr1 e n a)))), some (.int (nI 1)), some (.int (nI (a + mr1 e n a))), some (.int c1)]) rfl rfl (by decide) rfl ?_
  refine E_goto (t := 106) rfl rfl ?_
  refine E_aload_n rfl rfl ?_
  refine E_getfield (v := .ref 82) rfl w65 rfl (by decide) rfl ?_
  refine E_iload_n rfl rfl ?_
  refine E_ialN (l := [112, 105, 101, 99, 101, 32, 0, 112, 101, 114, 115, 111, 110, 32, 0, 99, 111, 115, 116, 32, 0, 104, 97, 115, 32, 0, 98, 97, 99, 107, 32, 0, 103, 114, 101, 101, 100, 121, 0, 98, 101, 115, 116, 0]) (v := 111) rfl w82 (by omega) (by omega) rfl ?_
  refine E_if (t := 121) (b := false) rfl rfl (by decide) ?_
  refine E_iinc (y := nI 12) (L2 := [some (.ref 65), some (.int (nI 12)), some (.int (nI (max (max a (a + mr0 e n a)) (a + mr1 e n a)))), some (.int (nI 1)), some (.int (nI (a + mr1 e n a))), some (.int c1)]) rfl rfl (by decide) rfl ?_
  refine E_goto (t := 106) rfl rfl ?_
  refine E_aload_n rfl rfl ?_
  refine E_getfield (v := .ref 82) rfl w65 rfl (by decide) rfl ?_
  refine E_iload_n rfl rfl ?_
  refine E_ialN (l := [112, 105, 101, 99, 101, 32, 0, 112, 101, 114, 115, 111, 110, 32, 0, 99, 111, 115, 116, 32, 0, 104, 97, 115, 32, 0, 98, 97, 99, 107, 32, 0, 103, 114, 101, 101, 100, 121, 0, 98, 101, 115, 116, 0]) (v := 110) rfl w82 (by omega) (by omega) rfl ?_
  refine E_if (t := 121) (b := false) rfl rfl (by decide) ?_
  refine E_iinc (y := nI 13) (L2 := [some (.ref 65), some (.int (nI 13)), some (.int (nI (max (max a (a + mr0 e n a)) (a + mr1 e n a)))), some (.int (nI 1)), some (.int (nI (a + mr1 e n a))), some (.int c1)]) rfl rfl (by decide) rfl ?_
  refine E_goto (t := 106) rfl rfl ?_
  refine E_aload_n rfl rfl ?_
  refine E_getfield (v := .ref 82) rfl w65 rfl (by decide) rfl ?_
  refine E_iload_n rfl rfl ?_
  refine E_ialN (l := [112, 105, 101, 99, 101, 32, 0, 112, 101, 114, 115, 111, 110, 32, 0, 99, 111, 115, 116, 32, 0, 104, 97, 115, 32, 0, 98, 97, 99, 107, 32, 0, 103, 114, 101, 101, 100, 121, 0, 98, 101, 115, 116, 0]) (v := 32) rfl w82 (by omega) (by omega) rfl ?_
  refine E_if (t := 121) (b := false) rfl rfl (by decide) ?_
  refine E_iinc (y := nI 14) (L2 := [some (.ref 65), some (.int (nI 14)), some (.int (nI (max (max a (a + mr0 e n a)) (a + mr1 e n a)))), some (.int (nI 1)), some (.int (nI (a + mr1 e n a))), some (.int c1)]) rfl rfl (by decide) rfl ?_
  refine E_goto (t := 106) rfl rfl ?_
  refine E_aload_n rfl rfl ?_
  refine E_getfield (v := .ref 82) rfl w65 rfl (by decide) rfl ?_
  refine E_iload_n rfl rfl ?_
  refine E_ialN (l := [112, 105, 101, 99, 101, 32, 0, 112, 101, 114, 115, 111, 110, 32, 0, 99, 111, 115, 116, 32, 0, 104, 97, 115, 32, 0, 98, 97, 99, 107, 32, 0, 103, 114, 101, 101, 100, 121, 0, 98, 101, 115, 116, 0]) (v := 0) rfl w82 (by omega) (by omega) rfl ?_
  refine E_if (t := 121) (b := true) rfl rfl (by decide) ?_
  refine E_iinc (y := nI 15) (L2 := [some (.ref 65), some (.int (nI 15)), some (.int (nI (max (max a (a + mr0 e n a)) (a + mr1 e n a)))), some (.int (nI 1)), some (.int (nI (a + mr1 e n a))), some (.int c1)]) rfl rfl (by decide) rfl ?_
  refine E_iinc (y := nI 2) (L2 := [some (.ref 65), some (.int (nI 15)), some (.int (nI (max (max a (a + mr0 e n a)) (a + mr1 e n a)))), some (.int (nI 2)), some (.int (nI (a + mr1 e n a))), some (.int c1)]) rfl rfl (by decide) rfl ?_
  refine E_goto (t := 9) rfl rfl ?_
  refine E_iload_n rfl rfl ?_
  refine E_bipush (x := nI 7) rfl (by decide) ?_
  refine E_ic (t := 130) (b := false) rfl rfl (by decide) ?_
  refine E_aload_n rfl rfl ?_
  refine E_getfield (v := .int (nI a)) rfl w65 rfl (by decide) rfl ?_
  refine E_istore (L2 := [some (.ref 65), some (.int (nI 15)), some (.int (nI (max (max a (a + mr0 e n a)) (a + mr1 e n a)))), some (.int (nI 2)), some (.int (nI a)), some (.int c1)]) rfl rfl ?_
  refine E_iload_n rfl rfl ?_
  refine E_istore (L2 := [some (.ref 65), some (.int (nI 15)), some (.int (nI (max (max a (a + mr0 e n a)) (a + mr1 e n a)))), some (.int (nI 2)), some (.int (nI a)), some (.int (nI 15))]) rfl rfl ?_
  refine mw_p2 hj hn ha l_ce hce (f0 := max (max a (a + mr0 e n a)) (a + mr1 e n a)) (by omega) (by omega) (fun c2 => ?_)
  refine E_aload_n rfl rfl ?_
  refine E_getfield (v := .ref 82) rfl w65 rfl (by decide) rfl ?_
  refine E_iload_n rfl rfl ?_
  refine E_ialN (l := [112, 105, 101, 99, 101, 32, 0, 112, 101, 114, 115, 111, 110, 32, 0, 99, 111, 115, 116, 32, 0, 104, 97, 115, 32, 0, 98, 97, 99, 107, 32, 0, 103, 114, 101, 101, 100, 121, 0, 98, 101, 115, 116, 0]) (v := 99) rfl w82 (by omega) (by omega) rfl ?_
  refine E_if (t := 121) (b := false) rfl rfl (by decide) ?_
  refine E_iinc (y := nI 16) (L2 := [some (.ref 65), some (.int (nI 16)), some (.int (nI (max (max (max a (a + mr0 e n a)) (a + mr1 e n a)) (a + mr2 e n a)))), some (.int (nI 2)), some (.int (nI (a + mr2 e n a))), some (.int c2)]) rfl rfl (by decide) rfl ?_
  refine E_goto (t := 106) rfl rfl ?_
  refine E_aload_n rfl rfl ?_
  refine E_getfield (v := .ref 82) rfl w65 rfl (by decide) rfl ?_
  refine E_iload_n rfl rfl ?_
  refine E_ialN (l := [112, 105, 101, 99, 101, 32, 0, 112, 101, 114, 115, 111, 110, 32, 0, 99, 111, 115, 116, 32, 0, 104, 97, 115, 32, 0, 98, 97, 99, 107, 32, 0, 103, 114, 101, 101, 100, 121, 0, 98, 101, 115, 116, 0]) (v := 111) rfl w82 (by omega) (by omega) rfl ?_
  refine E_if (t := 121) (b := false) rfl rfl (by decide) ?_
  refine E_iinc (y := nI 17) (L2 := [some (.ref 65), some (.int (nI 17)), some (.int (nI (max (max (max a (a + mr0 e n a)) (a + mr1 e n a)) (a + mr2 e n a)))), some (.int (nI 2)), some (.int (nI (a + mr2 e n a))), some (.int c2)]) rfl rfl (by decide) rfl ?_
  refine E_goto (t := 106) rfl rfl ?_
  refine E_aload_n rfl rfl ?_
  refine E_getfield (v := .ref 82) rfl w65 rfl (by decide) rfl ?_
  refine E_iload_n rfl rfl ?_
  refine E_ialN (l := [112, 105, 101, 99, 101, 32, 0, 112, 101, 114, 115, 111, 110, 32, 0, 99, 111, 115, 116, 32, 0, 104, 97, 115, 32, 0, 98, 97, 99, 107, 32, 0, 103, 114, 101, 101, 100, 121, 0, 98, 101, 115, 116, 0]) (v := 115) rfl w82 (by omega) (by omega) rfl ?_
  refine E_if (t := 121) (b := false) rfl rfl (by decide) ?_
  refine E_iinc (y := nI 18) (L2 := [some (.ref 65), some (.int (nI 18)), some (.int (nI (max (max (max a (a + mr0 e n a)) (a + mr1 e n a)) (a + mr2 e n a)))), some (.int (nI 2)), some (.int (nI (a + mr2 e n a))), some (.int c2)]) rfl rfl (by decide) rfl ?_
  refine E_goto (t := 106) rfl rfl ?_
  refine E_aload_n rfl rfl ?_
  refine E_getfield (v := .ref 82) rfl w65 rfl (by decide) rfl ?_
  refine E_iload_n rfl rfl ?_
  refine E_ialN (l := [112, 105, 101, 99, 101, 32, 0, 112, 101, 114, 115, 111, 110, 32, 0, 99, 111, 115, 116, 32, 0, 104, 97, 115, 32, 0, 98, 97, 99, 107, 32, 0, 103, 114, 101, 101, 100, 121, 0, 98, 101, 115, 116, 0]) (v := 116) rfl w82 (by omega) (by omega) rfl ?_
  refine E_if (t := 121) (b := false) rfl rfl (by decide) ?_
  refine E_iinc (y := nI 19) (L2 := [some (.ref 65), some (.int (nI 19)), some (.int (nI (max (max (max a (a + mr0 e n a)) (a + mr1 e n a)) (a + mr2 e n a)))), some (.int (nI 2)), some (.int (nI (a + mr2 e n a))), some (.int c2)]) rfl rfl (by decide) rfl ?_
  refine E_goto (t := 106) rfl rfl ?_
  refine E_aload_n rfl rfl ?_
  refine E_getfield (v := .ref 82) rfl w65 rfl (by decide) rfl ?_
  refine E_iload_n rfl rfl ?_
  refine E_ialN (l := [112, 105, 101, 99, 101, 32, 0, 112, 101, 114, 115, 111, 110, 32, 0, 99, 111, 115, 116, 32, 0, 104, 97, 115, 32, 0, 98, 97, 99, 107, 32, 0, 103, 114, 101, 101, 100, 121, 0, 98, 101, 115, 116, 0]) (v := 32) rfl w82 (by omega) (by omega) rfl ?_
  refine E_if (t := 121) (b := false) rfl rfl (by decide) ?_
  refine E_iinc (y := nI 20) (L2 := [some (.ref 65), some (.int (nI 20)), some (.int (nI (max (max (max a (a + mr0 e n a)) (a + mr1 e n a)) (a + mr2 e n a)))), some (.int (nI 2)), some (.int (nI (a + mr2 e n a))), some (.int c2)]) rfl rfl (by decide) rfl ?_
  refine E_goto (t := 106) rfl rfl ?_
  refine E_aload_n rfl rfl ?_
  refine E_getfield (v := .ref 82) rfl w65 rfl (by decide) rfl ?_
  refine E_iload_n rfl rfl ?_
  refine E_ialN (l := [112, 105, 101, 99, 101, 32, 0, 112, 101, 114, 115, 111, 110, 32, 0, 99, 111, 115, 116, 32, 0, 104, 97, 115, 32, 0, 98, 97, 99, 107, 32, 0, 103, 114, 101, 101, 100, 121, 0, 98, 101, 115, 116, 0]) (v := 0) rfl w82 (by omega) (by omega) rfl ?_
  refine E_if (t := 121) (b := true) rfl rfl (by decide) ?_
  refine E_iinc (y := nI 21) (L2 := [some (.ref 65), some (.int (nI 21)), some (.int (nI (max (max (max a (a + mr0 e n a)) (a + mr1 e n a)) (a + mr2 e n a)))), some (.int (nI 2)), some (.int (nI (a + mr2 e n a))), some (.int c2)]) rfl rfl (by decide) rfl ?_
  refine E_iinc (y := nI 3) (L2 := [some (.ref 65), some (.int (nI 21)), some (.int (nI (max (max (max a (a + mr0 e n a)) (a + mr1 e n a)) (a + mr2 e n a)))), some (.int (nI 3)), some (.int (nI (a + mr2 e n a))), some (.int c2)]) rfl rfl (by decide) rfl ?_
  refine E_goto (t := 9) rfl rfl ?_
  refine E_iload_n rfl rfl ?_
  refine E_bipush (x := nI 7) rfl (by decide) ?_
  refine E_ic (t := 130) (b := false) rfl rfl (by decide) ?_
  refine E_aload_n rfl rfl ?_
  refine E_getfield (v := .int (nI a)) rfl w65 rfl (by decide) rfl ?_
  refine E_istore (L2 := [some (.ref 65), some (.int (nI 21)), some (.int (nI (max (max (max a (a + mr0 e n a)) (a + mr1 e n a)) (a + mr2 e n a)))), some (.int (nI 3)), some (.int (nI a)), some (.int c2)]) rfl rfl ?_
  refine E_iload_n rfl rfl ?_
  refine E_istore (L2 := [some (.ref 65), some (.int (nI 21)), some (.int (nI (max (max (max a (a + mr0 e n a)) (a + mr1 e n a)) (a + mr2 e n a)))), some (.int (nI 3)), some (.int (nI a)), some (.int (nI 21))]) rfl rfl ?_
  refine mw_p3 hj hn ha l_ce hce (f0 := max (max (max a (a + mr0 e n a)) (a + mr1 e n a)) (a + mr2 e n a)) (by omega) (by omega) (fun c3 => ?_)
  refine E_aload_n rfl rfl ?_
  refine E_getfield (v := .ref 82) rfl w65 rfl (by decide) rfl ?_
  refine E_iload_n rfl rfl ?_
  refine E_ialN (l := [112, 105, 101, 99, 101, 32, 0, 112, 101, 114, 115, 111, 110, 32, 0, 99, 111, 115, 116, 32, 0, 104, 97, 115, 32, 0, 98, 97, 99, 107, 32, 0, 103, 114, 101, 101, 100, 121, 0, 98, 101, 115, 116, 0]) (v := 104) rfl w82 (by omega) (by omega) rfl ?_
  refine E_if (t := 121) (b := false) rfl rfl (by decide) ?_
  refine E_iinc (y := nI 22) (L2 := [some (.ref 65), some (.int (nI 22)), some (.int (nI (max (max (max (max a (a + mr0 e n a)) (a + mr1 e n a)) (a + mr2 e n a)) (a + mr3 e n a)))), some (.int (nI 3)), some (.int (nI (a + mr3 e n a))), some (.int c3)]) rfl rfl (by decide) rfl ?_
  refine E_goto (t := 106) rfl rfl ?_
  refine E_aload_n rfl rfl ?_
  refine E_getfield (v := .ref 82) rfl w65 rfl (by decide) rfl ?_
  refine E_iload_n rfl rfl ?_
  refine E_ialN (l := [112, 105, 101, 99, 101, 32, 0, 112, 101, 114, 115, 111, 110, 32, 0, 99, 111, 115, 116, 32, 0, 104, 97, 115, 32, 0, 98, 97, 99, 107, 32, 0, 103, 114, 101, 101, 100, 121, 0, 98, 101, 115, 116, 0]) (v := 97) rfl w82 (by omega) (by omega) rfl ?_
  refine E_if (t := 121) (b := false) rfl rfl (by decide) ?_
  refine E_iinc (y := nI 23) (L2 := [some (.ref 65), some (.int (nI 23)), some (.int (nI (max (max (max (max a (a + mr0 e n a)) (a + mr1 e n a)) (a + mr2 e n a)) (a + mr3 e n a)))), some (.int (nI 3)), some (.int (nI (a + mr3 e n a))), some (.int c3)]) rfl rfl (by decide) rfl ?_
  refine E_goto (t := 106) rfl rfl ?_
  refine E_aload_n rfl rfl ?_
  refine E_getfield (v := .ref 82) rfl w65 rfl (by decide) rfl ?_
  refine E_iload_n rfl rfl ?_
  refine E_ialN (l := [112, 105, 101, 99, 101, 32, 0, 112, 101, 114, 115, 111, 110, 32, 0, 99, 111, 115, 116, 32, 0, 104, 97, 115, 32, 0, 98, 97, 99, 107, 32, 0, 103, 114, 101, 101, 100, 121, 0, 98, 101, 115, 116, 0]) (v := 115) rfl w82 (by omega) (by omega) rfl ?_
  refine E_if (t := 121) (b := false) rfl rfl (by decide) ?_
  refine E_iinc (y := nI 24) (L2 := [some (.ref 65), some (.int (nI 24)), some (.int (nI (max (max (max (max a (a + mr0 e n a)) (a + mr1 e n a)) (a + mr2 e n a)) (a + mr3 e n a)))), some (.int (nI 3)), some (.int (nI (a + mr3 e n a))), some (.int c3)]) rfl rfl (by decide) rfl ?_
  refine E_goto (t := 106) rfl rfl ?_
  refine E_aload_n rfl rfl ?_
  refine E_getfield (v := .ref 82) rfl w65 rfl (by decide) rfl ?_
  refine E_iload_n rfl rfl ?_
  refine E_ialN (l := [112, 105, 101, 99, 101, 32, 0, 112, 101, 114, 115, 111, 110, 32, 0, 99, 111, 115, 116, 32, 0, 104, 97, 115, 32, 0, 98, 97, 99, 107, 32, 0, 103, 114, 101, 101, 100, 121, 0, 98, 101, 115, 116, 0]) (v := 32) rfl w82 (by omega) (by omega) rfl ?_
  refine E_if (t := 121) (b := false) rfl rfl (by decide) ?_
  refine E_iinc (y := nI 25) (L2 := [some (.ref 65), some (.int (nI 25)), some (.int (nI (max (max (max (max a (a + mr0 e n a)) (a + mr1 e n a)) (a + mr2 e n a)) (a + mr3 e n a)))), some (.int (nI 3)), some (.int (nI (a + mr3 e n a))), some (.int c3)]) rfl rfl (by decide) rfl ?_
  refine E_goto (t := 106) rfl rfl ?_
  refine E_aload_n rfl rfl ?_
  refine E_getfield (v := .ref 82) rfl w65 rfl (by decide) rfl ?_
  refine E_iload_n rfl rfl ?_
  refine E_ialN (l := [112, 105, 101, 99, 101, 32, 0, 112, 101, 114, 115, 111, 110, 32, 0, 99, 111, 115, 116, 32, 0, 104, 97, 115, 32, 0, 98, 97, 99, 107, 32, 0, 103, 114, 101, 101, 100, 121, 0, 98, 101, 115, 116, 0]) (v := 0) rfl w82 (by omega) (by omega) rfl ?_
  refine E_if (t := 121) (b := true) rfl rfl (by decide) ?_
  refine E_iinc (y := nI 26) (L2 := [some (.ref 65), some (.int (nI 26)), some (.int (nI (max (max (max (max a (a + mr0 e n a)) (a + mr1 e n a)) (a + mr2 e n a)) (a + mr3 e n a)))), some (.int (nI 3)), some (.int (nI (a + mr3 e n a))), some (.int c3)]) rfl rfl (by decide) rfl ?_
  refine E_iinc (y := nI 4) (L2 := [some (.ref 65), some (.int (nI 26)), some (.int (nI (max (max (max (max a (a + mr0 e n a)) (a + mr1 e n a)) (a + mr2 e n a)) (a + mr3 e n a)))), some (.int (nI 4)), some (.int (nI (a + mr3 e n a))), some (.int c3)]) rfl rfl (by decide) rfl ?_
  refine E_goto (t := 9) rfl rfl ?_
  refine E_iload_n rfl rfl ?_
  refine E_bipush (x := nI 7) rfl (by decide) ?_
  refine E_ic (t := 130) (b := false) rfl rfl (by decide) ?_
  refine E_aload_n rfl rfl ?_
  refine E_getfield (v := .int (nI a)) rfl w65 rfl (by decide) rfl ?_
  refine E_istore (L2 := [some (.ref 65), some (.int (nI 26)), some (.int (nI (max (max (max (max a (a + mr0 e n a)) (a + mr1 e n a)) (a + mr2 e n a)) (a + mr3 e n a)))), some (.int (nI 4)), some (.int (nI a)), some (.int c3)]) rfl rfl ?_
  refine E_iload_n rfl rfl ?_
  refine E_istore (L2 := [some (.ref 65), some (.int (nI 26)), some (.int (nI (max (max (max (max a (a + mr0 e n a)) (a + mr1 e n a)) (a + mr2 e n a)) (a + mr3 e n a)))), some (.int (nI 4)), some (.int (nI a)), some (.int (nI 26))]) rfl rfl ?_
  refine mw_p4 hj hn ha l_ce hce (f0 := max (max (max (max a (a + mr0 e n a)) (a + mr1 e n a)) (a + mr2 e n a)) (a + mr3 e n a)) (by omega) (by omega) (fun c4 => ?_)
  refine E_aload_n rfl rfl ?_
  refine E_getfield (v := .ref 82) rfl w65 rfl (by decide) rfl ?_
  refine E_iload_n rfl rfl ?_
  refine E_ialN (l := [112, 105, 101, 99, 101, 32, 0, 112, 101, 114, 115, 111, 110, 32, 0, 99, 111, 115, 116, 32, 0, 104, 97, 115, 32, 0, 98, 97, 99, 107, 32, 0, 103, 114, 101, 101, 100, 121, 0, 98, 101, 115, 116, 0]) (v := 98) rfl w82 (by omega) (by omega) rfl ?_
  refine E_if (t := 121) (b := false) rfl rfl (by decide) ?_
  refine E_iinc (y := nI 27) (L2 := [some (.ref 65), some (.int (nI 27)), some (.int (nI (max (max (max (max (max a (a + mr0 e n a)) (a + mr1 e n a)) (a + mr2 e n a)) (a + mr3 e n a)) (a + mr4 e n a)))), some (.int (nI 4)), some (.int (nI (a + mr4 e n a))), some (.int c4)]) rfl rfl (by decide) rfl ?_
  refine E_goto (t := 106) rfl rfl ?_
  refine E_aload_n rfl rfl ?_
  refine E_getfield (v := .ref 82) rfl w65 rfl (by decide) rfl ?_
  refine E_iload_n rfl rfl ?_
  refine E_ialN (l := [112, 105, 101, 99, 101, 32, 0, 112, 101, 114, 115, 111, 110, 32, 0, 99, 111, 115, 116, 32, 0, 104, 97, 115, 32, 0, 98, 97, 99, 107, 32, 0, 103, 114, 101, 101, 100, 121, 0, 98, 101, 115, 116, 0]) (v := 97) rfl w82 (by omega) (by omega) rfl ?_
  refine E_if (t := 121) (b := false) rfl rfl (by decide) ?_
  refine E_iinc (y := nI 28) (L2 := [some (.ref 65), some (.int (nI 28)), some (.int (nI (max (max (max (max (max a (a + mr0 e n a)) (a + mr1 e n a)) (a + mr2 e n a)) (a + mr3 e n a)) (a + mr4 e n a)))), some (.int (nI 4)), some (.int (nI (a + mr4 e n a))), some (.int c4)]) rfl rfl (by decide) rfl ?_
  refine E_goto (t := 106) rfl rfl ?_
  refine E_aload_n rfl rfl ?_
  refine E_getfield (v := .ref 82) rfl w65 rfl (by decide) rfl ?_
  refine E_iload_n rfl rfl ?_
  refine E_ialN (l := [112, 105, 101, 99, 101, 32, 0, 112, 101, 114, 115, 111, 110, 32, 0, 99, 111, 115, 116, 32, 0, 104, 97, 115, 32, 0, 98, 97, 99, 107, 32, 0, 103, 114, 101, 101, 100, 121, 0, 98, 101, 115, 116, 0]) (v := 99) rfl w82 (by omega) (by omega) rfl ?_
  refine E_if (t := 121) (b := false) rfl rfl (by decide) ?_
  refine E_iinc (y := nI 29) (L2 := [some (.ref 65), some (.int (nI 29)), some (.int (nI (max (max (max (max (max a (a + mr0 e n a)) (a + mr1 e n a)) (a + mr2 e n a)) (a + mr3 e n a)) (a + mr4 e n a)))), some (.int (nI 4)), some (.int (nI (a + mr4 e n a))), some (.int c4)]) rfl rfl (by decide) rfl ?_
  refine E_goto (t := 106) rfl rfl ?_
  refine E_aload_n rfl rfl ?_
  refine E_getfield (v := .ref 82) rfl w65 rfl (by decide) rfl ?_
  refine E_iload_n rfl rfl ?_
  refine E_ialN (l := [112, 105, 101, 99, 101, 32, 0, 112, 101, 114, 115, 111, 110, 32, 0, 99, 111, 115, 116, 32, 0, 104, 97, 115, 32, 0, 98, 97, 99, 107, 32, 0, 103, 114, 101, 101, 100, 121, 0, 98, 101, 115, 116, 0]) (v := 107) rfl w82 (by omega) (by omega) rfl ?_
  refine E_if (t := 121) (b := false) rfl rfl (by decide) ?_
  refine E_iinc (y := nI 30) (L2 := [some (.ref 65), some (.int (nI 30)), some (.int (nI (max (max (max (max (max a (a + mr0 e n a)) (a + mr1 e n a)) (a + mr2 e n a)) (a + mr3 e n a)) (a + mr4 e n a)))), some (.int (nI 4)), some (.int (nI (a + mr4 e n a))), some (.int c4)]) rfl rfl (by decide) rfl ?_
  refine E_goto (t := 106) rfl rfl ?_
  refine E_aload_n rfl rfl ?_
  refine E_getfield (v := .ref 82) rfl w65 rfl (by decide) rfl ?_
  refine E_iload_n rfl rfl ?_
  refine E_ialN (l := [112, 105, 101, 99, 101, 32, 0, 112, 101, 114, 115, 111, 110, 32, 0, 99, 111, 115, 116, 32, 0, 104, 97, 115, 32, 0, 98, 97, 99, 107, 32, 0, 103, 114, 101, 101, 100, 121, 0, 98, 101, 115, 116, 0]) (v := 32) rfl w82 (by omega) (by omega) rfl ?_
  refine E_if (t := 121) (b := false) rfl rfl (by decide) ?_
  refine E_iinc (y := nI 31) (L2 := [some (.ref 65), some (.int (nI 31)), some (.int (nI (max (max (max (max (max a (a + mr0 e n a)) (a + mr1 e n a)) (a + mr2 e n a)) (a + mr3 e n a)) (a + mr4 e n a)))), some (.int (nI 4)), some (.int (nI (a + mr4 e n a))), some (.int c4)]) rfl rfl (by decide) rfl ?_
  refine E_goto (t := 106) rfl rfl ?_
  refine E_aload_n rfl rfl ?_
  refine E_getfield (v := .ref 82) rfl w65 rfl (by decide) rfl ?_
  refine E_iload_n rfl rfl ?_
  refine E_ialN (l := [112, 105, 101, 99, 101, 32, 0, 112, 101, 114, 115, 111, 110, 32, 0, 99, 111, 115, 116, 32, 0, 104, 97, 115, 32, 0, 98, 97, 99, 107, 32, 0, 103, 114, 101, 101, 100, 121, 0, 98, 101, 115, 116, 0]) (v := 0) rfl w82 (by omega) (by omega) rfl ?_
  refine E_if (t := 121) (b := true) rfl rfl (by decide) ?_
  refine E_iinc (y := nI 32) (L2 := [some (.ref 65), some (.int (nI 32)), some (.int (nI (max (max (max (max (max a (a + mr0 e n a)) (a + mr1 e n a)) (a + mr2 e n a)) (a + mr3 e n a)) (a + mr4 e n a)))), some (.int (nI 4)), some (.int (nI (a + mr4 e n a))), some (.int c4)]) rfl rfl (by decide) rfl ?_
  refine E_iinc (y := nI 5) (L2 := [some (.ref 65), some (.int (nI 32)), some (.int (nI (max (max (max (max (max a (a + mr0 e n a)) (a + mr1 e n a)) (a + mr2 e n a)) (a + mr3 e n a)) (a + mr4 e n a)))), some (.int (nI 5)), some (.int (nI (a + mr4 e n a))), some (.int c4)]) rfl rfl (by decide) rfl ?_
  refine E_goto (t := 9) rfl rfl ?_
  refine E_iload_n rfl rfl ?_
  refine E_bipush (x := nI 7) rfl (by decide) ?_
  refine E_ic (t := 130) (b := false) rfl rfl (by decide) ?_
  refine E_aload_n rfl rfl ?_
  refine E_getfield (v := .int (nI a)) rfl w65 rfl (by decide) rfl ?_
  refine E_istore (L2 := [some (.ref 65), some (.int (nI 32)), some (.int (nI (max (max (max (max (max a (a + mr0 e n a)) (a + mr1 e n a)) (a + mr2 e n a)) (a + mr3 e n a)) (a + mr4 e n a)))), some (.int (nI 5)), some (.int (nI a)), some (.int c4)]) rfl rfl ?_
  refine E_iload_n rfl rfl ?_
  refine E_istore (L2 := [some (.ref 65), some (.int (nI 32)), some (.int (nI (max (max (max (max (max a (a + mr0 e n a)) (a + mr1 e n a)) (a + mr2 e n a)) (a + mr3 e n a)) (a + mr4 e n a)))), some (.int (nI 5)), some (.int (nI a)), some (.int (nI 32))]) rfl rfl ?_
  refine mw_p5 hj hn ha l_ce hce (f0 := max (max (max (max (max a (a + mr0 e n a)) (a + mr1 e n a)) (a + mr2 e n a)) (a + mr3 e n a)) (a + mr4 e n a)) (by omega) (by omega) (fun c5 => ?_)
  refine E_aload_n rfl rfl ?_
  refine E_getfield (v := .ref 82) rfl w65 rfl (by decide) rfl ?_
  refine E_iload_n rfl rfl ?_
  refine E_ialN (l := [112, 105, 101, 99, 101, 32, 0, 112, 101, 114, 115, 111, 110, 32, 0, 99, 111, 115, 116, 32, 0, 104, 97, 115, 32, 0, 98, 97, 99, 107, 32, 0, 103, 114, 101, 101, 100, 121, 0, 98, 101, 115, 116, 0]) (v := 103) rfl w82 (by omega) (by omega) rfl ?_
  refine E_if (t := 121) (b := false) rfl rfl (by decide) ?_
  refine E_iinc (y := nI 33) (L2 := [some (.ref 65), some (.int (nI 33)), some (.int (nI (max (max (max (max (max (max a (a + mr0 e n a)) (a + mr1 e n a)) (a + mr2 e n a)) (a + mr3 e n a)) (a + mr4 e n a)) (a + mr5 e n a)))), some (.int (nI 5)), some (.int (nI (a + mr5 e n a))), some (.int c5)]) rfl rfl (by decide) rfl ?_
  refine E_goto (t := 106) rfl rfl ?_
  refine E_aload_n rfl rfl ?_
  refine E_getfield (v := .ref 82) rfl w65 rfl (by decide) rfl ?_
  refine E_iload_n rfl rfl ?_
  refine E_ialN (l := [112, 105, 101, 99, 101, 32, 0, 112, 101, 114, 115, 111, 110, 32, 0, 99, 111, 115, 116, 32, 0, 104, 97, 115, 32, 0, 98, 97, 99, 107, 32, 0, 103, 114, 101, 101, 100, 121, 0, 98, 101, 115, 116, 0]) (v := 114) rfl w82 (by omega) (by omega) rfl ?_
  refine E_if (t := 121) (b := false) rfl rfl (by decide) ?_
  refine E_iinc (y := nI 34) (L2 := [some (.ref 65), some (.int (nI 34)), some (.int (nI (max (max (max (max (max (max a (a + mr0 e n a)) (a + mr1 e n a)) (a + mr2 e n a)) (a + mr3 e n a)) (a + mr4 e n a)) (a + mr5 e n a)))), some (.int (nI 5)), some (.int (nI (a + mr5 e n a))), some (.int c5)]) rfl rfl (by decide) rfl ?_
  refine E_goto (t := 106) rfl rfl ?_
  refine E_aload_n rfl rfl ?_
  refine E_getfield (v := .ref 82) rfl w65 rfl (by decide) rfl ?_
  refine E_iload_n rfl rfl ?_
  refine E_ialN (l := [112, 105, 101, 99, 101, 32, 0, 112, 101, 114, 115, 111, 110, 32, 0, 99, 111, 115, 116, 32, 0, 104, 97, 115, 32, 0, 98, 97, 99, 107, 32, 0, 103, 114, 101, 101, 100, 121, 0, 98, 101, 115, 116, 0]) (v := 101) rfl w82 (by omega) (by omega) rfl ?_
  refine E_if (t := 121) (b := false) rfl rfl (by decide) ?_
  refine E_iinc (y := nI 35) (L2 := [some (.ref 65), some (.int (nI 35)), some (.int (nI (max (max (max (max (max (max a (a + mr0 e n a)) (a + mr1 e n a)) (a + mr2 e n a)) (a + mr3 e n a)) (a + mr4 e n a)) (a + mr5 e n a)))), some (.int (nI 5)), some (.int (nI (a + mr5 e n a))), some (.int c5)]) rfl rfl (by decide) rfl ?_
  refine E_goto (t := 106) rfl rfl ?_
  refine E_aload_n rfl rfl ?_
  refine E_getfield (v := .ref 82) rfl w65 rfl (by decide) rfl ?_
  refine E_iload_n rfl rfl ?_
  refine E_ialN (l := [112, 105, 101, 99, 101, 32, 0, 112, 101, 114, 115, 111, 110, 32, 0, 99, 111, 115, 116, 32, 0, 104, 97, 115, 32, 0, 98, 97, 99, 107, 32, 0, 103, 114, 101, 101, 100, 121, 0, 98, 101, 115, 116, 0]) (v := 101) rfl w82 (by omega) (by omega) rfl ?_
  refine E_if (t := 121) (b := false) rfl rfl (by decide) ?_
  refine E_iinc (y := nI 36) (L2 := [some (.ref 65), some (.int (nI 36)), some (.int (nI (max (max (max (max (max (max a (a + mr0 e n a)) (a + mr1 e n a)) (a + mr2 e n a)) (a + mr3 e n a)) (a + mr4 e n a)) (a + mr5 e n a)))), some (.int (nI 5)), some (.int (nI (a + mr5 e n a))), some (.int c5)]) rfl rfl (by decide) rfl ?_
  refine E_goto (t := 106) rfl rfl ?_
  refine E_aload_n rfl rfl ?_
  refine E_getfield (v := .ref 82) rfl w65 rfl (by decide) rfl ?_
  refine E_iload_n rfl rfl ?_
  refine E_ialN (l := [112, 105, 101, 99, 101, 32, 0, 112, 101, 114, 115, 111, 110, 32, 0, 99, 111, 115, 116, 32, 0, 104, 97, 115, 32, 0, 98, 97, 99, 107, 32, 0, 103, 114, 101, 101, 100, 121, 0, 98, 101, 115, 116, 0]) (v := 100) rfl w82 (by omega) (by omega) rfl ?_
  refine E_if (t := 121) (b := false) rfl rfl (by decide) ?_
  refine E_iinc (y := nI 37) (L2 := [some (.ref 65), some (.int (nI 37)), some (.int (nI (max (max (max (max (max (max a (a + mr0 e n a)) (a + mr1 e n a)) (a + mr2 e n a)) (a + mr3 e n a)) (a + mr4 e n a)) (a + mr5 e n a)))), some (.int (nI 5)), some (.int (nI (a + mr5 e n a))), some (.int c5)]) rfl rfl (by decide) rfl ?_
  refine E_goto (t := 106) rfl rfl ?_
  refine E_aload_n rfl rfl ?_
  refine E_getfield (v := .ref 82) rfl w65 rfl (by decide) rfl ?_
  refine E_iload_n rfl rfl ?_
  refine E_ialN (l := [112, 105, 101, 99, 101, 32, 0, 112, 101, 114, 115, 111, 110, 32, 0, 99, 111, 115, 116, 32, 0, 104, 97, 115, 32, 0, 98, 97, 99, 107, 32, 0, 103, 114, 101, 101, 100, 121, 0, 98, 101, 115, 116, 0]) (v := 121) rfl w82 (by omega) (by omega) rfl ?_
  refine E_if (t := 121) (b := false) rfl rfl (by decide) ?_
  refine E_iinc (y := nI 38) (L2 := [some (.ref 65), some (.int (nI 38)), some (.int (nI (max (max (max (max (max (max a (a + mr0 e n a)) (a + mr1 e n a)) (a + mr2 e n a)) (a + mr3 e n a)) (a + mr4 e n a)) (a + mr5 e n a)))), some (.int (nI 5)), some (.int (nI (a + mr5 e n a))), some (.int c5)]) rfl rfl (by decide) rfl ?_
  refine E_goto (t := 106) rfl rfl ?_
  refine E_aload_n rfl rfl ?_
  refine E_getfield (v := .ref 82) rfl w65 rfl (by decide) rfl ?_
  refine E_iload_n rfl rfl ?_
  refine E_ialN (l := [112, 105, 101, 99, 101, 32, 0, 112, 101, 114, 115, 111, 110, 32, 0, 99, 111, 115, 116, 32, 0, 104, 97, 115, 32, 0, 98, 97, 99, 107, 32, 0, 103, 114, 101, 101, 100, 121, 0, 98, 101, 115, 116, 0]) (v := 0) rfl w82 (by omega) (by omega) rfl ?_
  refine E_if (t := 121) (b := true) rfl rfl (by decide) ?_
  refine E_iinc (y := nI 39) (L2 := [some (.ref 65), some (.int (nI 39)), some (.int (nI (max (max (max (max (max (max a (a + mr0 e n a)) (a + mr1 e n a)) (a + mr2 e n a)) (a + mr3 e n a)) (a + mr4 e n a)) (a + mr5 e n a)))), some (.int (nI 5)), some (.int (nI (a + mr5 e n a))), some (.int c5)]) rfl rfl (by decide) rfl ?_
  refine E_iinc (y := nI 6) (L2 := [some (.ref 65), some (.int (nI 39)), some (.int (nI (max (max (max (max (max (max a (a + mr0 e n a)) (a + mr1 e n a)) (a + mr2 e n a)) (a + mr3 e n a)) (a + mr4 e n a)) (a + mr5 e n a)))), some (.int (nI 6)), some (.int (nI (a + mr5 e n a))), some (.int c5)]) rfl rfl (by decide) rfl ?_
  refine E_goto (t := 9) rfl rfl ?_
  refine E_iload_n rfl rfl ?_
  refine E_bipush (x := nI 7) rfl (by decide) ?_
  refine E_ic (t := 130) (b := false) rfl rfl (by decide) ?_
  refine E_aload_n rfl rfl ?_
  refine E_getfield (v := .int (nI a)) rfl w65 rfl (by decide) rfl ?_
  refine E_istore (L2 := [some (.ref 65), some (.int (nI 39)), some (.int (nI (max (max (max (max (max (max a (a + mr0 e n a)) (a + mr1 e n a)) (a + mr2 e n a)) (a + mr3 e n a)) (a + mr4 e n a)) (a + mr5 e n a)))), some (.int (nI 6)), some (.int (nI a)), some (.int c5)]) rfl rfl ?_
  refine E_iload_n rfl rfl ?_
  refine E_istore (L2 := [some (.ref 65), some (.int (nI 39)), some (.int (nI (max (max (max (max (max (max a (a + mr0 e n a)) (a + mr1 e n a)) (a + mr2 e n a)) (a + mr3 e n a)) (a + mr4 e n a)) (a + mr5 e n a)))), some (.int (nI 6)), some (.int (nI a)), some (.int (nI 39))]) rfl rfl ?_
  refine mw_p6 hj hn ha l_ce hce (f0 := max (max (max (max (max (max a (a + mr0 e n a)) (a + mr1 e n a)) (a + mr2 e n a)) (a + mr3 e n a)) (a + mr4 e n a)) (a + mr5 e n a)) (by omega) (by omega) (fun c6 => ?_)
  refine E_aload_n rfl rfl ?_
  refine E_getfield (v := .ref 82) rfl w65 rfl (by decide) rfl ?_
  refine E_iload_n rfl rfl ?_
  refine E_ialN (l := [112, 105, 101, 99, 101, 32, 0, 112, 101, 114, 115, 111, 110, 32, 0, 99, 111, 115, 116, 32, 0, 104, 97, 115, 32, 0, 98, 97, 99, 107, 32, 0, 103, 114, 101, 101, 100, 121, 0, 98, 101, 115, 116, 0]) (v := 98) rfl w82 (by omega) (by omega) rfl ?_
  refine E_if (t := 121) (b := false) rfl rfl (by decide) ?_
  refine E_iinc (y := nI 40) (L2 := [some (.ref 65), some (.int (nI 40)), some (.int (nI (max (max (max (max (max (max (max a (a + mr0 e n a)) (a + mr1 e n a)) (a + mr2 e n a)) (a + mr3 e n a)) (a + mr4 e n a)) (a + mr5 e n a)) (a + mr6 e n a)))), some (.int (nI 6)), some (.int (nI (a + mr6 e n a))), some (.int c6)]) rfl rfl (by decide) rfl ?_
  refine E_goto (t := 106) rfl rfl ?_
  refine E_aload_n rfl rfl ?_
  refine E_getfield (v := .ref 82) rfl w65 rfl (by decide) rfl ?_
  refine E_iload_n rfl rfl ?_
  refine E_ialN (l := [112, 105, 101, 99, 101, 32, 0, 112, 101, 114, 115, 111, 110, 32, 0, 99, 111, 115, 116, 32, 0, 104, 97, 115, 32, 0, 98, 97, 99, 107, 32, 0, 103, 114, 101, 101, 100, 121, 0, 98, 101, 115, 116, 0]) (v := 101) rfl w82 (by omega) (by omega) rfl ?_
  refine E_if (t := 121) (b := false) rfl rfl (by decide) ?_
  refine E_iinc (y := nI 41) (L2 := [some (.ref 65), some (.int (nI 41)), some (.int (nI (max (max (max (max (max (max (max a (a + mr0 e n a)) (a + mr1 e n a)) (a + mr2 e n a)) (a + mr3 e n a)) (a + mr4 e n a)) (a + mr5 e n a)) (a + mr6 e n a)))), some (.int (nI 6)), some (.int (nI (a + mr6 e n a))), some (.int c6)]) rfl rfl (by decide) rfl ?_
  refine E_goto (t := 106) rfl rfl ?_
  refine E_aload_n rfl rfl ?_
  refine E_getfield (v := .ref 82) rfl w65 rfl (by decide) rfl ?_
  refine E_iload_n rfl rfl ?_
  refine E_ialN (l := [112, 105, 101, 99, 101, 32, 0, 112, 101, 114, 115, 111, 110, 32, 0, 99, 111, 115, 116, 32, 0, 104, 97, 115, 32, 0, 98, 97, 99, 107, 32, 0, 103, 114, 101, 101, 100, 121, 0, 98, 101, 115, 116, 0]) (v := 115) rfl w82 (by omega) (by omega) rfl ?_
  refine E_if (t := 121) (b := false) rfl rfl (by decide) ?_
  refine E_iinc (y := nI 42) (L2 := [some (.ref 65), some (.int (nI 42)), some (.int (nI (max (max (max (max (max (max (max a (a + mr0 e n a)) (a + mr1 e n a)) (a + mr2 e n a)) (a + mr3 e n a)) (a + mr4 e n a)) (a + mr5 e n a)) (a + mr6 e n a)))), some (.int (nI 6)), some (.int (nI (a + mr6 e n a))), some (.int c6)]) rfl rfl (by decide) rfl ?_
  refine E_goto (t := 106) rfl rfl ?_
  refine E_aload_n rfl rfl ?_
  refine E_getfield (v := .ref 82) rfl w65 rfl (by decide) rfl ?_
  refine E_iload_n rfl rfl ?_
  refine E_ialN (l := [112, 105, 101, 99, 101, 32, 0, 112, 101, 114, 115, 111, 110, 32, 0, 99, 111, 115, 116, 32, 0, 104, 97, 115, 32, 0, 98, 97, 99, 107, 32, 0, 103, 114, 101, 101, 100, 121, 0, 98, 101, 115, 116, 0]) (v := 116) rfl w82 (by omega) (by omega) rfl ?_
  refine E_if (t := 121) (b := false) rfl rfl (by decide) ?_
  refine E_iinc (y := nI 43) (L2 := [some (.ref 65), some (.int (nI 43)), some (.int (nI (max (max (max (max (max (max (max a (a + mr0 e n a)) (a + mr1 e n a)) (a + mr2 e n a)) (a + mr3 e n a)) (a + mr4 e n a)) (a + mr5 e n a)) (a + mr6 e n a)))), some (.int (nI 6)), some (.int (nI (a + mr6 e n a))), some (.int c6)]) rfl rfl (by decide) rfl ?_
  refine E_goto (t := 106) rfl rfl ?_
  refine E_aload_n rfl rfl ?_
  refine E_getfield (v := .ref 82) rfl w65 rfl (by decide) rfl ?_
  refine E_iload_n rfl rfl ?_
  refine E_ialN (l := [112, 105, 101, 99, 101, 32, 0, 112, 101, 114, 115, 111, 110, 32, 0, 99, 111, 115, 116, 32, 0, 104, 97, 115, 32, 0, 98, 97, 99, 107, 32, 0, 103, 114, 101, 101, 100, 121, 0, 98, 101, 115, 116, 0]) (v := 0) rfl w82 (by omega) (by omega) rfl ?_
  refine E_if (t := 121) (b := true) rfl rfl (by decide) ?_
  refine E_iinc (y := nI 44) (L2 := [some (.ref 65), some (.int (nI 44)), some (.int (nI (max (max (max (max (max (max (max a (a + mr0 e n a)) (a + mr1 e n a)) (a + mr2 e n a)) (a + mr3 e n a)) (a + mr4 e n a)) (a + mr5 e n a)) (a + mr6 e n a)))), some (.int (nI 6)), some (.int (nI (a + mr6 e n a))), some (.int c6)]) rfl rfl (by decide) rfl ?_
  refine E_iinc (y := nI 7) (L2 := [some (.ref 65), some (.int (nI 44)), some (.int (nI (max (max (max (max (max (max (max a (a + mr0 e n a)) (a + mr1 e n a)) (a + mr2 e n a)) (a + mr3 e n a)) (a + mr4 e n a)) (a + mr5 e n a)) (a + mr6 e n a)))), some (.int (nI 7)), some (.int (nI (a + mr6 e n a))), some (.int c6)]) rfl rfl (by decide) rfl ?_
  refine E_goto (t := 9) rfl rfl ?_
  refine E_iload_n rfl rfl ?_
  refine E_bipush (x := nI 7) rfl (by decide) ?_
  refine E_ic (t := 130) (b := true) rfl rfl (by decide) ?_
  refine E_aload_n rfl rfl ?_
  refine E_iload_n rfl rfl ?_
  refine E_putfield (cs2 := (ww im lf s d k ls rf rz ra rn rq lt m1 m2 m3 m4 bd fc hd sz el q (fUp (fUp (fUp (fUp (fUp (fUp g 27 (nI (160 * j))) 29 (nI n)) 6 (-1)) 28 (nI a)) 30 x30) 31 (nI (max (max (max (max (max (max (max a (a + mr0 e n a)) (a + mr1 e n a)) (a + mr2 e n a)) (a + mr3 e n a)) (a + mr4 e n a)) (a + mr5 e n a)) (a + mr6 e n a)))) fm hm so si sh ce ca td wa kp la bf oo bo pw ow tr)) rfl w65 rfl (by decide) (Nat.le_of_ble_eq_true rfl) rfl rfl rfl (w_pt65_31.trans (by rw [gn31])) ?_
  refine E_iconst (x := (-1)) rfl (by decide) ?_
  exact E_iret rfl rfl
set_option maxHeartbeats 1000000 in
theorem m_wd4b {e : List Int64} {n a j : Nat} {x30 x31 : Int32} {q : ab_q} (hj : j < 8) (hn : n ≤ 160) (ha : a ≤ n) (l_ce : ce.length = 1280) (hce : ∀ p, p < 160 → e.getD p 0 = ce.getD (160 * j + p) 0) (hw : wd e n a = 4) (hb : chB e n (a + 4) 32 = true) : Ev ab_Z0 1 158 [.ref 65] (ww im lf s d k ls rf rz ra rn rq lt m1 m2 m3 m4 bd fc hd sz el q (fUp (fUp (fUp (fUp (fUp (fUp g 27 (nI (160 * j))) 29 (nI n)) 6 (-1)) 28 (nI a)) 30 x30) 31 x31) fm hm so si sh ce ca td wa kp la bf oo bo pw ow tr) (some (.int (nI 4)), (ww im lf s d k ls rf rz ra rn rq lt m1 m2 m3 m4 bd fc hd sz el q (fUp (fUp (fUp (fUp (fUp (fUp g 27 (nI (160 * j))) 29 (nI n)) 6 (-1)) 28 (nI (a + 5))) 30 x30) 31 x31) fm hm so si sh ce ca td wa kp la bf oo bo pw ow tr)) := by
  have : ([112, 105, 101, 99, 101, 32, 0, 112, 101, 114, 115, 111, 110, 32, 0, 99, 111, 115, 116, 32, 0, 104, 97, 115, 32, 0, 98, 97, 99, 107, 32, 0, 103, 114, 101, 101, 100, 121, 0, 98, 101, 115, 116, 0] : List Nat).length = 44 := rfl
  have hwc := wd_c e n a
  have hs0 := mrS_0 e n a
  have hl0 := mr0_le e n a
  have hs1 := mrS_1 e n a
  have hl1 := mr1_le e n a
  have hs2 := mrS_2 e n a
  have hl2 := mr2_le e n a
  have hs3 := mrS_3 e n a
  have hl3 := mr3_le e n a
  have hs4 := mrS_4 e n a
  have hl4 := mr4_le e n a
  have hs5 := mrS_5 e n a
  have hl5 := mr5_le e n a
  have hs6 := mrS_6 e n a
  have hl6 := mr6_le e n a
  have hu0 : mr0 e n a = mj0 e n a := by rw [hs0]; exact if_neg (fun z => by omega)
  have hj0_ := mj0_le e n a
  have hu1 : mr1 e n a = mj1 e n a := by rw [hs1]; exact if_neg (fun z => by omega)
  have hj1_ := mj1_le e n a
  have hu2 : mr2 e n a = mj2 e n a := by rw [hs2]; exact if_neg (fun z => by omega)
  have hj2_ := mj2_le e n a
  have hu3 : mr3 e n a = mj3 e n a := by rw [hs3]; exact if_neg (fun z => by omega)
  have hj3_ := mj3_le e n a
  have hu4 : mr4 e n a = 5 := by rw [hs4]; exact if_pos ⟨by omega, hb⟩
  refine Ef.in (md := mX6_word) (L := [some (.ref 65), none, none, none, none, none]) rfl (Nat.le_of_ble_eq_true rfl) rfl ?_
  refine E_iconst (x := nI 0) rfl (by decide) ?_
  refine E_istore_n (L2 := [some (.ref 65), some (.int (nI 0)), none, none, none, none]) rfl rfl ?_
  refine E_aload_n rfl rfl ?_
  refine E_getfield (v := .int (nI a)) rfl w65 rfl (by decide) rfl ?_
  refine E_istore_n (L2 := [some (.ref 65), some (.int (nI 0)), some (.int (nI a)), none, none, none]) rfl rfl ?_
  refine E_iconst (x := nI 0) rfl (by decide) ?_
  refine E_istore_n (L2 := [some (.ref 65), some (.int (nI 0)), some (.int (nI a)), some (.int (nI 0)), none, none]) rfl rfl ?_
  refine E_iload_n rfl rfl ?_
  refine E_bipush (x := nI 7) rfl (by decide) ?_
  refine E_ic (t := 130) (b := false) rfl rfl (by decide) ?_
  refine E_aload_n rfl rfl ?_
  refine E_getfield (v := .int (nI a)) rfl w65 rfl (by decide) rfl ?_
  refine E_istore (L2 := [some (.ref 65), some (.int (nI 0)), some (.int (nI a)), some (.int (nI 0)), some (.int (nI a)), none]) rfl rfl ?_
  refine E_iload_n rfl rfl ?_
  refine E_istore (L2 := [some (.ref 65), some (.int (nI 0)), some (.int (nI a)), some (.int (nI 0)), some (.int (nI a)), some (.int (nI 0))]) rfl rfl ?_
  refine mw_p0 hj hn ha l_ce hce (f0 := a) (by omega) (by omega) (fun c0 => ?_)
  refine E_aload_n rfl rfl ?_
  refine E_getfield (v := .ref 82) rfl w65 rfl (by decide) rfl ?_
  refine E_iload_n rfl rfl ?_
  refine E_ialN (l := [112, 105, 101, 99, 101, 32, 0, 112, 101, 114, 115, 111, 110, 32, 0, 99, 111, 115, 116, 32, 0, 104, 97, 115, 32, 0, 98, 97, 99, 107, 32, 0, 103, 114, 101, 101, 100, 121, 0, 98, 101, 115, 116, 0]) (v := 112) rfl w82 (by omega) (by omega) rfl ?_
  refine E_if (t := 121) (b := false) rfl rfl (by decide) ?_
  refine E_iinc (y := nI 1) (L2 := [some (.ref 65), some (.int (nI 1)), some (.int (nI (max a (a + mr0 e n a)))), some (.int (nI 0)), some (.int (nI (a + mr0 e n a))), some (.int c0)]) rfl rfl (by decide) rfl ?_
  refine E_goto (t := 106) rfl rfl ?_
  refine E_aload_n rfl rfl ?_
  refine E_getfield (v := .ref 82) rfl w65 rfl (by decide) rfl ?_
  refine E_iload_n rfl rfl ?_
  refine E_ialN (l := [112, 105, 101, 99, 101, 32, 0, 112, 101, 114, 115, 111, 110, 32, 0, 99, 111, 115, 116, 32, 0, 104, 97, 115, 32, 0, 98, 97, 99, 107, 32, 0, 103, 114, 101, 101, 100, 121, 0, 98, 101, 115, 116, 0]) (v := 105) rfl w82 (by omega) (by omega) rfl ?_
  refine E_if (t := 121) (b := false) rfl rfl (by decide) ?_
  refine E_iinc (y := nI 2) (L2 := [some (.ref 65), some (.int (nI 2)), some (.int (nI (max a (a + mr0 e n a)))), some (.int (nI 0)), some (.int (nI (a + mr0 e n a))), some (.int c0)]) rfl rfl (by decide) rfl ?_
  refine E_goto (t := 106) rfl rfl ?_
  refine E_aload_n rfl rfl ?_
  refine E_getfield (v := .ref 82) rfl w65 rfl (by decide) rfl ?_
  refine E_iload_n rfl rfl ?_
  refine E_ialN (l := [112, 105, 101, 99, 101, 32, 0, 112, 101, 114, 115, 111, 110, 32, 0, 99, 111, 115, 116, 32, 0, 104, 97, 115, 32, 0, 98, 97, 99, 107, 32, 0, 103, 114, 101, 101, 100, 121, 0, 98, 101, 115, 116, 0]) (v := 101) rfl w82 (by omega) (by omega) rfl ?_
  refine E_if (t := 121) (b := false) rfl rfl (by decide) ?_
  refine E_iinc (y := nI 3) (L2 := [some (.ref 65), some (.int (nI 3)), some (.int (nI (max a (a + mr0 e n a)))), some (.int (nI 0)), some (.int (nI (a + mr0 e n a))), some (.int c0)]) rfl rfl (by decide) rfl ?_
  refine E_goto (t := 106) rfl rfl ?_
  refine E_aload_n rfl rfl ?_
  refine E_getfield (v := .ref 82) rfl w65 rfl (by decide) rfl ?_
  refine E_iload_n rfl rfl ?_
  refine E_ialN (l := [112, 105, 101, 99, 101, 32, 0, 112, 101, 114, 115, 111, 110, 32, 0, 99, 111, 115, 116, 32, 0, 104, 97, 115, 32, 0, 98, 97, 99, 107, 32, 0, 103, 114, 101, 101, 100, 121, 0, 98, 101, 115, 116, 0]) (v := 99) rfl w82 (by omega) (by omega) rfl ?_
  refine E_if (t := 121) (b := false) rfl rfl (by decide) ?_
  refine E_iinc (y := nI 4) (L2 := [some (.ref 65), some (.int (nI 4)), some (.int (nI (max a (a + mr0 e n a)))), some (.int (nI 0)), some (.int (nI (a + mr0 e n a))), some (.int c0)]) rfl rfl (by decide) rfl ?_
  refine E_goto (t := 106) rfl rfl ?_
  refine E_aload_n rfl rfl ?_
  refine E_getfield (v := .ref 82) rfl w65 rfl (by decide) rfl ?_
  refine E_iload_n rfl rfl ?_
  refine E_ialN (l := [112, 105, 101, 99, 101, 32, 0, 112, 101, 114, 115, 111, 110, 32, 0, 99, 111, 115, 116, 32, 0, 104, 97, 115, 32, 0, 98, 97, 99, 107, 32, 0, 103, 114, 101, 101, 100, 121, 0, 98, 101, 115, 116, 0]) (v := 101) rfl w82 (by omega) (by omega) rfl ?_
  refine E_if (t := 121) (b := false) rfl rfl (by decide) ?_
  refine E_iinc (y := nI 5) (L2 := [some (.ref 65), some (.int (nI 5)), some (.int (nI (max a (a + mr0 e n a)))), some (.int (nI 0)), some (.int (nI (a + mr0 e n a))), some (.int c0)]) rfl rfl (by decide) rfl ?_
  refine E_goto (t := 106) rfl rfl ?_
  refine E_aload_n rfl rfl ?_
  refine E_getfield (v := .ref 82) rfl w65 rfl (by decide) rfl ?_
  refine E_iload_n rfl rfl ?_
  refine E_ialN (l := [112, 105, 101, 99, 101, 32, 0, 112, 101, 114, 115, 111, 110, 32, 0, 99, 111, 115, 116, 32, 0, 104, 97, 115, 32, 0, 98, 97, 99, 107, 32, 0, 103, 114, 101, 101, 100, 121, 0, 98, 101, 115, 116, 0]) (v := 32) rfl w82 (by omega) (by omega) rfl ?_
  refine E_if (t := 121) (b := false) rfl rfl (by decide) ?_
  refine E_iinc (y := nI 6) (L2 := [some (.ref 65), some (.int (nI 6)), some (.int (nI (max a (a + mr0 e n a)))), some (.int (nI 0)), some (.int (nI (a + mr0 e n a))), some (.int c0)]) rfl rfl (by decide) rfl ?_
  refine E_goto (t := 106) rfl rfl ?_
  refine E_aload_n rfl rfl ?_
  refine E_getfield (v := .ref 82) rfl w65 rfl (by decide) rfl ?_
  refine E_iload_n rfl rfl ?_
  refine E_ialN (l := [112, 105, 101, 99, 101, 32, 0, 112, 101, 114, 115, 111, 110, 32, 0, 99, 111, 115, 116, 32, 0, 104, 97, 115, 32, 0, 98, 97, 99, 107, 32, 0, 103, 114, 101, 101, 100, 121, 0, 98, 101, 115, 116, 0]) (v := 0) rfl w82 (by omega) (by omega) rfl ?_
  refine E_if (t := 121) (b := true) rfl rfl (by decide) ?_
  refine E_iinc (y := nI 7) (L2 := [some (.ref 65), some (.int (nI 7)), some (.int (nI (max a (a + mr0 e n a)))), some (.int (nI 0)), some (.int (nI (a + mr0 e n a))), some (.int c0)]) rfl rfl (by decide) rfl ?_
  refine E_iinc (y := nI 1) (L2 := [some (.ref 65), some (.int (nI 7)), some (.int (nI (max a (a + mr0 e n a)))), some (.int (nI 1)), some (.int (nI (a + mr0 e n a))), some (.int c0)]) rfl rfl (by decide) rfl ?_
  refine E_goto (t := 9) rfl rfl ?_
  refine E_iload_n rfl rfl ?_
  refine E_bipush (x := nI 7) rfl (by decide) ?_
  refine E_ic (t := 130) (b := false) rfl rfl (by decide) ?_
  refine E_aload_n rfl rfl ?_
  refine E_getfield (v := .int (nI a)) rfl w65 rfl (by decide) rfl ?_
  refine E_istore (L2 := [some (.ref 65), some (.int (nI 7)), some (.int (nI (max a (a + mr0 e n a)))), some (.int (nI 1)), some (.int (nI a)), some (.int c0)]) rfl rfl ?_
  refine E_iload_n rfl rfl ?_
  refine E_istore (L2 := [some (.ref 65), some (.int (nI 7)), some (.int (nI (max a (a + mr0 e n a)))), some (.int (nI 1)), some (.int (nI a)), some (.int (nI 7))]) rfl rfl ?_
  refine mw_p1 hj hn ha l_ce hce (f0 := max a (a + mr0 e n a)) (by omega) (by omega) (fun c1 => ?_)
  refine E_aload_n rfl rfl ?_
  refine E_getfield (v := .ref 82) rfl w65 rfl (by decide) rfl ?_
  refine E_iload_n rfl rfl ?_
  refine E_ialN (l := [112, 105, 101, 99, 101, 32, 0, 112, 101, 114, 115, 111, 110, 32, 0, 99, 111, 115, 116, 32, 0, 104, 97, 115, 32, 0, 98, 97, 99, 107, 32, 0, 103, 114, 101, 101, 100, 121, 0, 98, 101, 115, 116, 0]) (v := 112) rfl w82 (by omega) (by omega) rfl ?_
  refine E_if (t := 121) (b := false) rfl rfl (by decide) ?_
  refine E_iinc (y := nI 8) (L2 := [some (.ref 65), some (.int (nI 8)), some (.int (nI (max (max a (a + mr0 e n a)) (a + mr1 e n a)))), some (.int (nI 1)), some (.int (nI (a + mr1 e n a))), some (.int c1)]) rfl rfl (by decide) rfl ?_
  refine E_goto (t := 106) rfl rfl ?_
  refine E_aload_n rfl rfl ?_
  refine E_getfield (v := .ref 82) rfl w65 rfl (by decide) rfl ?_
  refine E_iload_n rfl rfl ?_
  refine E_ialN (l := [112, 105, 101, 99, 101, 32, 0, 112, 101, 114, 115, 111, 110, 32, 0, 99, 111, 115, 116, 32, 0, 104, 97, 115, 32, 0, 98, 97, 99, 107, 32, 0, 103, 114, 101, 101, 100, 121, 0, 98, 101, 115, 116, 0]) (v := 101) rfl w82 (by omega) (by omega) rfl ?_
  refine E_if (t := 121) (b := false) rfl rfl (by decide) ?_
  refine E_iinc (y := nI 9) (L2 := [some (.ref 65), some (.int (nI 9)), some (.int (nI (max (max a (a + mr0 e n a)) (a + mr1 e n a)))), some (.int (nI 1)), some (.int (nI (a + mr1 e n a))), some (.int c1)]) rfl rfl (by decide) rfl ?_
  refine E_goto (t := 106) rfl rfl ?_
  refine E_aload_n rfl rfl ?_
  refine E_getfield (v := .ref 82) rfl w65 rfl (by decide) rfl ?_
  refine E_iload_n rfl rfl ?_
  refine E_ialN (l := [112, 105, 101, 99, 101, 32, 0, 112, 101, 114, 115, 111, 110, 32, 0, 99, 111, 115, 116, 32, 0, 104, 97, 115, 32, 0, 98, 97, 99, 107, 32, 0, 103, 114, 101, 101, 100, 121, 0, 98, 101, 115, 116, 0]) (v := 114) rfl w82 (by omega) (by omega) rfl ?_
  refine E_if (t := 121) (b := false) rfl rfl (by decide) ?_
  refine E_iinc (y := nI 10) (L2 := [some (.ref 65), some (.int (nI 10)), some (.int (nI (max (max a (a + mr0 e n a)) (a + mr1 e n a)))), some (.int (nI 1)), some (.int (nI (a + mr1 e n a))), some (.int c1)]) rfl rfl (by decide) rfl ?_
  refine E_goto (t := 106) rfl rfl ?_
  refine E_aload_n rfl rfl ?_
  refine E_getfield (v := .ref 82) rfl w65 rfl (by decide) rfl ?_
  refine E_iload_n rfl rfl ?_
  refine E_ialN (l := [112, 105, 101, 99, 101, 32, 0, 112, 101, 114, 115, 111, 110, 32, 0, 99, 111, 115, 116, 32, 0, 104, 97, 115, 32, 0, 98, 97, 99, 107, 32, 0, 103, 114, 101, 101, 100, 121, 0, 98, 101, 115, 116, 0]) (v := 115) rfl w82 (by omega) (by omega) rfl ?_
  refine E_if (t := 121) (b := false) rfl rfl (by decide) ?_
  refine E_iinc (y := nI 11) (L2 := [some (.ref 65), some (.int (nI 11)), some (.int (nI (max (max a (a + mr0 e n a)) (a + mr1 e n a)))), some (.int (nI 1)), some (.int (nI (a + mr1 e n a))), some (.int c1)]) rfl rfl (by decide) rfl ?_
  refine E_goto (t := 106) rfl rfl ?_
  refine E_aload_n rfl rfl ?_
  refine E_getfield (v := .ref 82) rfl w65 rfl (by decide) rfl ?_
  refine E_iload_n rfl rfl ?_
  refine E_ialN (l := [112, 105, 101, 99, 101, 32, 0, 112, 101, 114, 115, 111, 110, 32, 0, 99, 111, 115, 116, 32, 0, 104, 97, 115, 32, 0, 98, 97, 99, 107, 32, 0, 103, 114, 101, 101, 100, 121, 0, 98, 101, 115, 116, 0]) (v := 111) rfl w82 (by omega) (by omega) rfl ?_
  refine E_if (t := 121) (b := false) rfl rfl (by decide) ?_
  refine E_iinc (y := nI 12) (L2 := [some (.ref 65), some (.int (nI 12)), some (.int (nI (max (max a (a + mr0 e n a)) (a + mr1 e n a)))), some (.int (nI 1)), some (.int (nI (a + mr1 e n a))), some (.int c1)]) rfl rfl (by decide) rfl ?_
  refine E_goto (t := 106) rfl rfl ?_
  refine E_aload_n rfl rfl ?_
  refine E_getfield (v := .ref 82) rfl w65 rfl (by decide) rfl ?_
  refine E_iload_n rfl rfl ?_
  refine E_ialN (l := [112, 105, 101, 99, 101, 32, 0, 112, 101, 114, 115, 111, 110, 32, 0, 99, 111, 115, 116, 32, 0, 104, 97, 115, 32, 0, 98, 97, 99, 107, 32, 0, 103, 114, 101, 101, 100, 121, 0, 98, 101, 115, 116, 0]) (v := 110) rfl w82 (by omega) (by omega) rfl ?_
  refine E_if (t := 121) (b := false) rfl rfl (by decide) ?_
  refine E_iinc (y := nI 13) (L2 := [some (.ref 65), some (.int (nI 13)), some (.int (nI (max (max a (a + mr0 e n a)) (a + mr1 e n a)))), some (.int (nI 1)), some (.int (nI (a + mr1 e n a))), some (.int c1)]) rfl rfl (by decide) rfl ?_
  refine E_goto (t := 106) rfl rfl ?_
  refine E_aload_n rfl rfl ?_
  refine E_getfield (v := .ref 82) rfl w65 rfl (by decide) rfl ?_
  refine E_iload_n rfl rfl ?_
  refine E_ialN (l := [112, 105, 101, 99, 101, 32, 0, 112, 101, 114, 115, 111, 110, 32, 0, 99, 111, 115, 116, 32, 0, 104, 97, 115, 32, 0, 98, 97, 99, 107, 32, 0, 103, 114, 101, 101, 100, 121, 0, 98, 101, 115, 116, 0]) (v := 32) rfl w82 (by omega) (by omega) rfl ?_
  refine E_if (t := 121) (b := false) rfl rfl (by decide) ?_
  refine E_iinc (y := nI 14) (L2 := [some (.ref 65), some (.int (nI 14)), some (.int (nI (max (max a (a + mr0 e n a)) (a + mr1 e n a)))), some (.int (nI 1)), some (.int (nI (a + mr1 e n a))), some (.int c1)]) rfl rfl (by decide) rfl ?_
  refine E_goto (t := 106) rfl rfl ?_
  refine E_aload_n rfl rfl ?_
  refine E_getfield (v := .ref 82) rfl w65 rfl (by decide) rfl ?_
  refine E_iload_n rfl rfl ?_
  refine E_ialN (l := [112, 105, 101, 99, 101, 32, 0, 112, 101, 114, 115, 111, 110, 32, 0, 99, 111, 115, 116, 32, 0, 104, 97, 115, 32, 0, 98, 97, 99, 107, 32, 0, 103, 114, 101, 101, 100, 121, 0, 98, 101, 115, 116, 0]) (v := 0) rfl w82 (by omega) (by omega) rfl ?_
  refine E_if (t := 121) (b := true) rfl rfl (by decide) ?_
  refine E_iinc (y := nI 15) (L2 := [some (.ref 65), some (.int (nI 15)), some (.int (nI (max (max a (a + mr0 e n a)) (a + mr1 e n a)))), some (.int (nI 1)), some (.int (nI (a + mr1 e n a))), some (.int c1)]) rfl rfl (by decide) rfl ?_
  refine E_iinc (y := nI 2) (L2 := [some (.ref 65), some (.int (nI 15)), some (.int (nI (max (max a (a + mr0 e n a)) (a + mr1 e n a)))), some (.int (nI 2)), some (.int (nI (a + mr1 e n a))), some (.int c1)]) rfl rfl (by decide) rfl ?_
  refine E_goto (t := 9) rfl rfl ?_
  refine E_iload_n rfl rfl ?_
  refine E_bipush (x := nI 7) rfl (by decide) ?_
  refine E_ic (t := 130) (b := false) rfl rfl (by decide) ?_
  refine E_aload_n rfl rfl ?_
  refine E_getfield (v := .int (nI a)) rfl w65 rfl (by decide) rfl ?_
  refine E_istore (L2 := [some (.ref 65), some (.int (nI 15)), some (.int (nI (max (max a (a + mr0 e n a)) (a + mr1 e n a)))), some (.int (nI 2)), some (.int (nI a)), some (.int c1)]) rfl rfl ?_
  refine E_iload_n rfl rfl ?_
  refine E_istore (L2 := [some (.ref 65), some (.int (nI 15)), some (.int (nI (max (max a (a + mr0 e n a)) (a + mr1 e n a)))), some (.int (nI 2)), some (.int (nI a)), some (.int (nI 15))]) rfl rfl ?_
  refine mw_p2 hj hn ha l_ce hce (f0 := max (max a (a + mr0 e n a)) (a + mr1 e n a)) (by omega) (by omega) (fun c2 => ?_)
  refine E_aload_n rfl rfl ?_
  refine E_getfield (v := .ref 82) rfl w65 rfl (by decide) rfl ?_
  refine E_iload_n rfl rfl ?_
  refine E_ialN (l := [112, 105, 101, 99, 101, 32, 0, 112, 101, 114, 115, 111, 110, 32, 0, 99, 111, 115, 116, 32, 0, 104, 97, 115, 32, 0, 98, 97, 99, 107, 32, 0, 103, 114, 101, 101, 100, 121, 0, 98, 101, 115, 116, 0]) (v := 99) rfl w82 (by omega) (by omega) rfl ?_
  refine E_if (t := 121) (b := false) rfl rfl (by decide) ?_
  refine E_iinc (y := nI 16) (L2 := [some (.ref 65), some (.int (nI 16)), some (.int (nI (max (max (max a (a + mr0 e n a)) (a + mr1 e n a)) (a + mr2 e n a)))), some (.int (nI 2)), some (.int (nI (a + mr2 e n a))), some (.int c2)]) rfl rfl (by decide) rfl ?_
  refine E_goto (t := 106) rfl rfl ?_
  refine E_aload_n rfl rfl ?_
  refine E_getfield (v := .ref 82) rfl w65 rfl (by decide) rfl ?_
  refine E_iload_n rfl rfl ?_
  refine E_ialN (l := [112, 105, 101, 99, 101, 32, 0, 112, 101, 114, 115, 111, 110, 32, 0, 99, 111, 115, 116, 32, 0, 104, 97, 115, 32, 0, 98, 97, 99, 107, 32, 0, 103, 114, 101, 101, 100, 121, 0, 98, 101, 115, 116, 0]) (v := 111) rfl w82 (by omega) (by omega) rfl ?_
  refine E_if (t := 121) (b := false) rfl rfl (by decide) ?_
  refine E_iinc (y := nI 17) (L2 := [some (.ref 65), some (.int (nI 17)), some (.int (nI (max (max (max a (a + mr0 e n a)) (a + mr1 e n a)) (a + mr2 e n a)))), some (.int (nI 2)), some (.int (nI (a + mr2 e n a))), some (.int c2)]) rfl rfl (by decide) rfl ?_
  refine E_goto (t := 106) rfl rfl ?_
  refine E_aload_n rfl rfl ?_
  refine E_getfield (v := .ref 82) rfl w65 rfl (by decide) rfl ?_
  refine E_iload_n rfl rfl ?_
  refine E_ialN (l := [112, 105, 101, 99, 101, 32, 0, 112, 101, 114, 115, 111, 110, 32, 0, 99, 111, 115, 116, 32, 0, 104, 97, 115, 32, 0, 98, 97, 99, 107, 32, 0, 103, 114, 101, 101, 100, 121, 0, 98, 101, 115, 116, 0]) (v := 115) rfl w82 (by omega) (by omega) rfl ?_
  refine E_if (t := 121) (b := false) rfl rfl (by decide) ?_
  refine E_iinc (y := nI 18) (L2 := [some (.ref 65), some (.int (nI 18)), some (.int (nI (max (max (max a (a + mr0 e n a)) (a + mr1 e n a)) (a + mr2 e n a)))), some (.int (nI 2)), some (.int (nI (a + mr2 e n a))), some (.int c2)]) rfl rfl (by decide) rfl ?_
  refine E_goto (t := 106) rfl rfl ?_
  refine E_aload_n rfl rfl ?_
  refine E_getfield (v := .ref 82) rfl w65 rfl (by decide) rfl ?_
  refine E_iload_n rfl rfl ?_
  refine E_ialN (l := [112, 105, 101, 99, 101, 32, 0, 112, 101, 114, 115, 111, 110, 32, 0, 99, 111, 115, 116, 32, 0, 104, 97, 115, 32, 0, 98, 97, 99, 107, 32, 0, 103, 114, 101, 101, 100, 121, 0, 98, 101, 115, 116, 0]) (v := 116) rfl w82 (by omega) (by omega) rfl ?_
  refine E_if (t := 121) (b := false) rfl rfl (by decide) ?_
  refine E_iinc (y := nI 19) (L2 := [some (.ref 65), some (.int (nI 19)), some (.int (nI (max (max (max a (a + mr0 e n a)) (a + mr1 e n a)) (a + mr2 e n a)))), some (.int (nI 2)), some (.int (nI (a + mr2 e n a))), some (.int c2)]) rfl rfl (by decide) rfl ?_
  refine E_goto (t := 106) rfl rfl ?_
  refine E_aload_n rfl rfl ?_
  refine E_getfield (v := .ref 82) rfl w65 rfl (by decide) rfl ?_
  refine E_iload_n rfl rfl ?_
  refine E_ialN (l := [112, 105, 101, 99, 101, 32, 0, 112, 101, 114, 115, 111, 110, 32, 0, 99, 111, 115, 116, 32, 0, 104, 97, 115, 32, 0, 98, 97, 99, 107, 32, 0, 103, 114, 101, 101, 100, 121, 0, 98, 101, 115, 116, 0]) (v := 32) rfl w82 (by omega) (by omega) rfl ?_
  refine E_if (t := 121) (b := false) rfl rfl (by decide) ?_
  refine E_iinc (y := nI 20) (L2 := [some (.ref 65), some (.int (nI 20)), some (.int (nI (max (max (max a (a + mr0 e n a)) (a + mr1 e n a)) (a + mr2 e n a)))), some (.int (nI 2)), some (.int (nI (a + mr2 e n a))), some (.int c2)]) rfl rfl (by decide) rfl ?_
  refine E_goto (t := 106) rfl rfl ?_
  refine E_aload_n rfl rfl ?_
  refine E_getfield (v := .ref 82) rfl w65 rfl (by decide) rfl ?_
  refine E_iload_n rfl rfl ?_
  refine E_ialN (l := [112, 105, 101, 99, 101, 32, 0, 112, 101, 114, 115, 111, 110, 32, 0, 99, 111, 115, 116, 32, 0, 104, 97, 115, 32, 0, 98, 97, 99, 107, 32, 0, 103, 114, 101, 101, 100, 121, 0, 98, 101, 115, 116, 0]) (v := 0) rfl w82 (by omega) (by omega) rfl ?_
  refine E_if (t := 121) (b := true) rfl rfl (by decide) ?_
  refine E_iinc (y := nI 21) (L2 := [some (.ref 65), some (.int (nI 21)), some (.int (nI (max (max (max a (a + mr0 e n a)) (a + mr1 e n a)) (a + mr2 e n a)))), some (.int (nI 2)), some (.int (nI (a + mr2 e n a))), some (.int c2)]) rfl rfl (by decide) rfl ?_
  refine E_iinc (y := nI 3) (L2 := [some (.ref 65), some (.int (nI 21)), some (.int (nI (max (max (max a (a + mr0 e n a)) (a + mr1 e n a)) (a + mr2 e n a)))), some (.int (nI 3)), some (.int (nI (a + mr2 e n a))), some (.int c2)]) rfl rfl (by decide) rfl ?_
  refine E_goto (t := 9) rfl rfl ?_
  refine E_iload_n rfl rfl ?_
  refine E_bipush (x := nI 7) rfl (by decide) ?_
  refine E_ic (t := 130) (b := false) rfl rfl (by decide) ?_
  refine E_aload_n rfl rfl ?_
  refine E_getfield (v := .int (nI a)) rfl w65 rfl (by decide) rfl ?_
  refine E_istore (L2 := [some (.ref 65), some (.int (nI 21)), some (.int (nI (max (max (max a (a + mr0 e n a)) (a + mr1 e n a)) (a + mr2 e n a)))), some (.int (nI 3)), some (.int (nI a)), some (.int c2)]) rfl rfl ?_
  refine E_iload_n rfl rfl ?_
  refine E_istore (L2 := [some (.ref 65), some (.int (nI 21)), some (.int (nI (max (max (max a (a + mr0 e n a)) (a + mr1 e n a)) (a + mr2 e n a)))), some (.int (nI 3)), some (.int (nI a)), some (.int (nI 21))]) rfl rfl ?_
  refine mw_p3 hj hn ha l_ce hce (f0 := max (max (max a (a + mr0 e n a)) (a + mr1 e n a)) (a + mr2 e n a)) (by omega) (by omega) (fun c3 => ?_)
  refine E_aload_n rfl rfl ?_
  refine E_getfield (v := .ref 82) rfl w65 rfl (by decide) rfl ?_
  refine E_iload_n rfl rfl ?_
  refine E_ialN (l := [112, 105, 101, 99, 101, 32, 0, 112, 101, 114, 115, 111, 110, 32, 0, 99, 111, 115, 116, 32, 0, 104, 97, 115, 32, 0, 98, 97, 99, 107, 32, 0, 103, 114, 101, 101, 100, 121, 0, 98, 101, 115, 116, 0]) (v := 104) rfl w82 (by omega) (by omega) rfl ?_
  refine E_if (t := 121) (b := false) rfl rfl (by decide) ?_
  refine E_iinc (y := nI 22) (L2 := [some (.ref 65), some (.int (nI 22)), some (.int (nI (max (max (max (max a (a + mr0 e n a)) (a + mr1 e n a)) (a + mr2 e n a)) (a + mr3 e n a)))), some (.int (nI 3)), some (.int (nI (a + mr3 e n a))), some (.int c3)]) rfl rfl (by decide) rfl ?_
  refine E_goto (t := 106) rfl rfl ?_
  refine E_aload_n rfl rfl ?_
  refine E_getfield (v := .ref 82) rfl w65 rfl (by decide) rfl ?_
  refine E_iload_n rfl rfl ?_
  refine E_ialN (l := [112, 105, 101, 99, 101, 32, 0, 112, 101, 114, 115, 111, 110, 32, 0, 99, 111, 115, 116, 32, 0, 104, 97, 115, 32, 0, 98, 97, 99, 107, 32, 0, 103, 114, 101, 101, 100, 121, 0, 98, 101, 115, 116, 0]) (v := 97) rfl w82 (by omega) (by omega) rfl ?_
  refine E_if (t := 121) (b := false) rfl rfl (by decide) ?_
  refine E_iinc (y := nI 23) (L2 := [some (.ref 65), some (.int (nI 23)), some (.int (nI (max (max (max (max a (a + mr0 e n a)) (a + mr1 e n a)) (a + mr2 e n a)) (a + mr3 e n a)))), some (.int (nI 3)), some (.int (nI (a + mr3 e n a))), some (.int c3)]) rfl rfl (by decide) rfl ?_
  refine E_goto (t := 106) rfl rfl ?_
  refine E_aload_n rfl rfl ?_
  refine E_getfield (v := .ref 82) rfl w65 rfl (by decide) rfl ?_
  refine E_iload_n rfl rfl ?_
  refine E_ialN (l := [112, 105, 101, 99, 101, 32, 0, 112, 101, 114, 115, 111, 110, 32, 0, 99, 111, 115, 116, 32, 0, 104, 97, 115, 32, 0, 98, 97, 99, 107, 32, 0, 103, 114, 101, 101, 100, 121, 0, 98, 101, 115, 116, 0]) (v := 115) rfl w82 (by omega) (by omega) rfl ?_
  refine E_if (t := 121) (b := false) rfl rfl (by decide) ?_
  refine E_iinc (y := nI 24) (L2 := [some (.ref 65), some (.int (nI 24)), some (.int (nI (max (max (max (max a (a + mr0 e n a)) (a + mr1 e n a)) (a + mr2 e n a)) (a + mr3 e n a)))), some (.int (nI 3)), some (.int (nI (a + mr3 e n a))), some (.int c3)]) rfl rfl (by decide) rfl ?_
  refine E_goto (t := 106) rfl rfl ?_
  refine E_aload_n rfl rfl ?_
  refine E_getfield (v := .ref 82) rfl w65 rfl (by decide) rfl ?_
  refine E_iload_n rfl rfl ?_
  refine E_ialN (l := [112, 105, 101, 99, 101, 32, 0, 112, 101, 114, 115, 111, 110, 32, 0, 99, 111, 115, 116, 32, 0, 104, 97, 115, 32, 0, 98, 97, 99, 107, 32, 0, 103, 114, 101, 101, 100, 121, 0, 98, 101, 115, 116, 0]) (v := 32) rfl w82 (by omega) (by omega) rfl ?_
  refine E_if (t := 121) (b := false) rfl rfl (by decide) ?_
  refine E_iinc (y := nI 25) (L2 := [some (.ref 65), some (.int (nI 25)), some (.int (nI (max (max (max (max a (a + mr0 e n a)) (a + mr1 e n a)) (a + mr2 e n a)) (a + mr3 e n a)))), some (.int (nI 3)), some (.int (nI (a + mr3 e n a))), some (.int c3)]) rfl rfl (by decide) rfl ?_
  refine E_goto (t := 106) rfl rfl ?_
  refine E_aload_n rfl rfl ?_
  refine E_getfield (v := .ref 82) rfl w65 rfl (by decide) rfl ?_
  refine E_iload_n rfl rfl ?_
  refine E_ialN (l := [112, 105, 101, 99, 101, 32, 0, 112, 101, 114, 115, 111, 110, 32, 0, 99, 111, 115, 116, 32, 0, 104, 97, 115, 32, 0, 98, 97, 99, 107, 32, 0, 103, 114, 101, 101, 100, 121, 0, 98, 101, 115, 116, 0]) (v := 0) rfl w82 (by omega) (by omega) rfl ?_
  refine E_if (t := 121) (b := true) rfl rfl (by decide) ?_
  refine E_iinc (y := nI 26) (L2 := [some (.ref 65), some (.int (nI 26)), some (.int (nI (max (max (max (max a (a + mr0 e n a)) (a + mr1 e n a)) (a + mr2 e n a)) (a + mr3 e n a)))), some (.int (nI 3)), some (.int (nI (a + mr3 e n a))), some (.int c3)]) rfl rfl (by decide) rfl ?_
  refine E_iinc (y := nI 4) (L2 := [some (.ref 65), some (.int (nI 26)), some (.int (nI (max (max (max (max a (a + mr0 e n a)) (a + mr1 e n a)) (a + mr2 e n a)) (a + mr3 e n a)))), some (.int (nI 4)), some (.int (nI (a + mr3 e n a))), some (.int c3)]) rfl rfl (by decide) rfl ?_
  refine E_goto (t := 9) rfl rfl ?_
  refine E_iload_n rfl rfl ?_
  refine E_bipush (x := nI 7) rfl (by decide) ?_
  refine E_ic (t := 130) (b := false) rfl rfl (by decide) ?_
  refine E_aload_n rfl rfl ?_
  refine E_getfield (v := .int (nI a)) rfl w65 rfl (by decide) rfl ?_
  refine E_istore (L2 := [some (.ref 65), some (.int (nI 26)), some (.int (nI (max (max (max (max a (a + mr0 e n a)) (a + mr1 e n a)) (a + mr2 e n a)) (a + mr3 e n a)))), some (.int (nI 4)), some (.int (nI a)), some (.int c3)]) rfl rfl ?_
  refine E_iload_n rfl rfl ?_
  refine E_istore (L2 := [some (.ref 65), some (.int (nI 26)), some (.int (nI (max (max (max (max a (a + mr0 e n a)) (a + mr1 e n a)) (a + mr2 e n a)) (a + mr3 e n a)))), some (.int (nI 4)), some (.int (nI a)), some (.int (nI 26))]) rfl rfl ?_
  refine mw_f4 hj hn ha l_ce hce (by omega) ?_
  refine E_aload_n rfl rfl ?_
  refine E_iload rfl rfl ?_
  refine E_putfield (cs2 := (ww im lf s d k ls rf rz ra rn rq lt m1 m2 m3 m4 bd fc hd sz el q (fUp (fUp (fUp (fUp (fUp (fUp g 27 (nI (160 * j))) 29 (nI n)) 6 (-1)) 28 (nI (a + 5))) 30 x30) 31 x31) fm hm so si sh ce ca td wa kp la bf oo bo pw ow tr)) rfl w65 rfl (by decide) (Nat.le_of_ble_eq_true rfl) rfl rfl rfl (w_pt65_28.trans (by rw [gn28])) ?_
  refine E_iload_n rfl rfl ?_
  exact E_iret rfl rfl
set_option maxHeartbeats 1000000 in
theorem m_wd4n {e : List Int64} {n a j : Nat} {x30 x31 : Int32} {q : ab_q} (hj : j < 8) (hn : n ≤ 160) (ha : a ≤ n) (l_ce : ce.length = 1280) (hce : ∀ p, p < 160 → e.getD p 0 = ce.getD (160 * j + p) 0) (hw : wd e n a = 4) (hb : chB e n (a + 4) 32 = false) : Ev ab_Z0 1 158 [.ref 65] (ww im lf s d k ls rf rz ra rn rq lt m1 m2 m3 m4 bd fc hd sz el q (fUp (fUp (fUp (fUp (fUp (fUp g 27 (nI (160 * j))) 29 (nI n)) 6 (-1)) 28 (nI a)) 30 x30) 31 x31) fm hm so si sh ce ca td wa kp la bf oo bo pw ow tr) (some (.int (-1)), (ww im lf s d k ls rf rz ra rn rq lt m1 m2 m3 m4 bd fc hd sz el q (fUp (fUp (fUp (fUp (fUp (fUp g 27 (nI (160 * j))) 29 (nI n)) 6 (-1)) 28 (nI a)) 30 x30) 31 (nI (a + 4))) fm hm so si sh ce ca td wa kp la bf oo bo pw ow tr)) := by
  have : ([112, 105, 101, 99, 101, 32, 0, 112, 101, 114, 115, 111, 110, 32, 0, 99, 111, 115, 116, 32, 0, 104, 97, 115, 32, 0, 98, 97, 99, 107, 32, 0, 103, 114, 101, 101, 100, 121, 0, 98, 101, 115, 116, 0] : List Nat).length = 44 := rfl
  have hwc := wd_c e n a
  have hs0 := mrS_0 e n a
  have hl0 := mr0_le e n a
  have hs1 := mrS_1 e n a
  have hl1 := mr1_le e n a
  have hs2 := mrS_2 e n a
  have hl2 := mr2_le e n a
  have hs3 := mrS_3 e n a
  have hl3 := mr3_le e n a
  have hs4 := mrS_4 e n a
  have hl4 := mr4_le e n a
  have hs5 := mrS_5 e n a
  have hl5 := mr5_le e n a
  have hs6 := mrS_6 e n a
  have hl6 := mr6_le e n a
  have hu0 : mr0 e n a = mj0 e n a := by rw [hs0]; exact if_neg (fun z => by omega)
  have hj0_ := mj0_le e n a
  have hu1 : mr1 e n a = mj1 e n a := by rw [hs1]; exact if_neg (fun z => by omega)
  have hj1_ := mj1_le e n a
  have hu2 : mr2 e n a = mj2 e n a := by rw [hs2]; exact if_neg (fun z => by omega)
  have hj2_ := mj2_le e n a
  have hu3 : mr3 e n a = mj3 e n a := by rw [hs3]; exact if_neg (fun z => by omega)
  have hj3_ := mj3_le e n a
  have hu4 : mr4 e n a = 4 := by rw [hs4]; rw [if_neg (fun z => by rw [hb] at z; exact absurd z.2 (by decide))]; omega
  have hx5 := ex_4_5 (e := e) (n := n) (a := a) (by omega)
  have hu5 : mr5 e n a = mj5 e n a := rfl
  have hx6 := ex_4_6 (e := e) (n := n) (a := a) (by omega)
  have hu6 : mr6 e n a = mj6 e n a := rfl
  have hx0 := ex_4_0 (e := e) (n := n) (a := a) (by omega)
  have hx1 := ex_4_1 (e := e) (n := n) (a := a) (by omega)
  have hx2 := ex_4_2 (e := e) (n := n) (a := a) (by omega)
  have hx3 := ex_4_3 (e := e) (n := n) (a := a) (by omega)
  have hfar : max (max (max (max (max (max (max a (a + mr0 e n a)) (a + mr1 e n a)) (a + mr2 e n a)) (a + mr3 e n a)) (a + mr4 e n a)) (a + mr5 e n a)) (a + mr6 e n a) = a + 4 := by omega
  rw [← hfar]
  refine Ef.in (md := mX6_word) (L := [some (.ref 65), none, none, none, none, none]) rfl (Nat.le_of_ble_eq_true rfl) rfl ?_
  refine E_iconst (x := nI 0) rfl (by decide) ?_
  refine E_istore_n (L2 := [some (.ref 65), some (.int (nI 0)), none, none, none, none]) rfl rfl ?_
  refine E_aload_n rfl rfl ?_
  refine E_getfield (v := .int (nI a)) rfl w65 rfl (by decide) rfl ?_
  refine E_istore_n (L2 := [some (.ref 65), some (.int (nI 0)), some (.int (nI a)), none, none, none]) rfl rfl ?_
  refine E_iconst (x := nI 0) rfl (by decide) ?_
  refine E_istore_n (L2 := [some (.ref 65), some (.int (nI 0)), some (.int (nI a)), some (.int (nI 0)), none, none]) rfl rfl ?_
  refine E_iload_n rfl rfl ?_
  refine E_bipush (x := nI 7) rfl (by decide) ?_
  refine E_ic (t := 130) (b := false) rfl rfl (by decide) ?_
  refine E_aload_n rfl rfl ?_
  refine E_getfield (v := .int (nI a)) rfl w65 rfl (by decide) rfl ?_
  refine E_istore (L2 := [some (.ref 65), some (.int (nI 0)), some (.int (nI a)), some (.int (nI 0)), some (.int (nI a)), none]) rfl rfl ?_
  refine E_iload_n rfl rfl ?_
  refine E_istore (L2 := [some (.ref 65), some (.int (nI 0)), some (.int (nI a)), some (.int (nI 0)), some (.int (nI a)), some (.int (nI 0))]) rfl rfl ?_
  refine mw_p0 hj hn ha l_ce hce (f0 := a) (by omega) (by omega) (fun c0 => ?_)
  refine E_aload_n rfl rfl ?_
  refine E_getfield (v := .ref 82) rfl w65 rfl (by decide) rfl ?_
  refine E_iload_n rfl rfl ?_
  refine E_ialN (l := [112, 105, 101, 99, 101, 32, 0, 112, 101, 114, 115, 111, 110, 32, 0, 99, 111, 115, 116, 32, 0, 104, 97, 115, 32, 0, 98, 97, 99, 107, 32, 0, 103, 114, 101, 101, 100, 121, 0, 98, 101, 115, 116, 0]) (v := 112) rfl w82 (by omega) (by omega) rfl ?_
  refine E_if (t := 121) (b := false) rfl rfl (by decide) ?_
  refine E_iinc (y := nI 1) (L2 := [some (.ref 65), some (.int (nI 1)), some (.int (nI (max a (a + mr0 e n a)))), some (.int (nI 0)), some (.int (nI (a + mr0 e n a))), some (.int c0)]) rfl rfl (by decide) rfl ?_
  refine E_goto (t := 106) rfl rfl ?_
  refine E_aload_n rfl rfl ?_
  refine E_getfield (v := .ref 82) rfl w65 rfl (by decide) rfl ?_
  refine E_iload_n rfl rfl ?_
  refine E_ialN (l := [112, 105, 101, 99, 101, 32, 0, 112, 101, 114, 115, 111, 110, 32, 0, 99, 111, 115, 116, 32, 0, 104, 97, 115, 32, 0, 98, 97, 99, 107, 32, 0, 103, 114, 101, 101, 100, 121, 0, 98, 101, 115, 116, 0]) (v := 105) rfl w82 (by omega) (by omega) rfl ?_
  refine E_if (t := 121) (b := false) rfl rfl (by decide) ?_
  refine E_iinc (y := nI 2) (L2 := [some (.ref 65), some (.int (nI 2)), some (.int (nI (max a (a + mr0 e n a)))), some (.int (nI 0)), some (.int (nI (a + mr0 e n a))), some (.int c0)]) rfl rfl (by decide) rfl ?_
  refine E_goto (t := 106) rfl rfl ?_
  refine E_aload_n rfl rfl ?_
  refine E_getfield (v := .ref 82) rfl w65 rfl (by decide) rfl ?_
  refine E_iload_n rfl rfl ?_
  refine E_ialN (l := [112, 105, 101, 99, 101, 32, 0, 112, 101, 114, 115, 111, 110, 32, 0, 99, 111, 115, 116, 32, 0, 104, 97, 115, 32, 0, 98, 97, 99, 107, 32, 0, 103, 114, 101, 101, 100, 121, 0, 98, 101, 115, 116, 0]) (v := 101) rfl w82 (by omega) (by omega) rfl ?_
  refine E_if (t := 121) (b := false) rfl rfl (by decide) ?_
  refine E_iinc (y := nI 3) (L2 := [some (.ref 65), some (.int (nI 3)), some (.int (nI (max a (a + mr0 e n a)))), some (.int (nI 0)), some (.int (nI (a + mr0 e n a))), some (.int c0)]) rfl rfl (by decide) rfl ?_
  refine E_goto (t := 106) rfl rfl ?_
  refine E_aload_n rfl rfl ?_
  refine E_getfield (v := .ref 82) rfl w65 rfl (by decide) rfl ?_
  refine E_iload_n rfl rfl ?_
  refine E_ialN (l := [112, 105, 101, 99, 101, 32, 0, 112, 101, 114, 115, 111, 110, 32, 0, 99, 111, 115, 116, 32, 0, 104, 97, 115, 32, 0, 98, 97, 99, 107, 32, 0, 103, 114, 101, 101, 100, 121, 0, 98, 101, 115, 116, 0]) (v := 99) rfl w82 (by omega) (by omega) rfl ?_
  refine E_if (t := 121) (b := false) rfl rfl (by decide) ?_
  refine E_iinc (y := nI 4) (L2 := [some (.ref 65), some (.int (nI 4)), some (.int (nI (max a (a + mr0 e n a)))), some (.int (nI 0)), some (.int (nI (a + mr0 e n a))), some (.int c0)]) rfl rfl (by decide) rfl ?_
  refine E_goto (t := 106) rfl rfl ?_
  refine E_aload_n rfl rfl ?_
  refine E_getfield (v := .ref 82) rfl w65 rfl (by decide) rfl ?_
  refine E_iload_n rfl rfl ?_
  refine E_ialN (l := [112, 105, 101, 99, 101, 32, 0, 112, 101, 114, 115, 111, 110, 32, 0, 99, 111, 115, 116, 32, 0, 104, 97, 115, 32, 0, 98, 97, 99, 107, 32, 0, 103, 114, 101, 101, 100, 121, 0, 98, 101, 115, 116, 0]) (v := 101) rfl w82 (by omega) (by omega) rfl ?_
  refine E_if (t := 121) (b := false) rfl rfl (by decide) ?_
  refine E_iinc (y := nI 5) (L2 := [some (.ref 65), some (.int (nI 5)), some (.int (nI (max a (a + mr0 e n a)))), some (.int (nI 0)), some (.int (nI (a + mr0 e n a))), some (.int c0)]) rfl rfl (by decide) rfl ?_
  refine E_goto (t := 106) rfl rfl ?_
  refine E_aload_n rfl rfl ?_
  refine E_getfield (v := .ref 82) rfl w65 rfl (by decide) rfl ?_
  refine E_iload_n rfl rfl ?_
  refine E_ialN (l := [112, 105, 101, 99, 101, 32, 0, 112, 101, 114, 115, 111, 110, 32, 0, 99, 111, 115, 116, 32, 0, 104, 97, 115, 32, 0, 98, 97, 99, 107, 32, 0, 103, 114, 101, 101, 100, 121, 0, 98, 101, 115, 116, 0]) (v := 32) rfl w82 (by omega) (by omega) rfl ?_
  refine E_if (t := 121) (b := false) rfl rfl (by decide) ?_
  refine E_iinc (y := nI 6) (L2 := [some (.ref 65), some (.int (nI 6)), some (.int (nI (max a (a + mr0 e n a)))), some (.int (nI 0)), some (.int (nI (a + mr0 e n a))), some (.int c0)]) rfl rfl (by decide) rfl ?_
  refine E_goto (t := 106) rfl rfl ?_
  refine E_aload_n rfl rfl ?_
  refine E_getfield (v := .ref 82) rfl w65 rfl (by decide) rfl ?_
  refine E_iload_n rfl rfl ?_
  refine E_ialN (l := [112, 105, 101, 99, 101, 32, 0, 112, 101, 114, 115, 111, 110, 32, 0, 99, 111, 115, 116, 32, 0, 104, 97, 115, 32, 0, 98, 97, 99, 107, 32, 0, 103, 114, 101, 101, 100, 121, 0, 98, 101, 115, 116, 0]) (v := 0) rfl w82 (by omega) (by omega) rfl ?_
  refine E_if (t := 121) (b := true) rfl rfl (by decide) ?_
  refine E_iinc (y := nI 7) (L2 := [some (.ref 65), some (.int (nI 7)), some (.int (nI (max a (a + mr0 e n a)))), some (.int (nI 0)), some (.int (nI (a + mr0 e n a))), some (.int c0)]) rfl rfl (by decide) rfl ?_
  refine E_iinc (y := nI 1) (L2 := [some (.ref 65), some (.int (nI 7)), some (.int (nI (max a (a + mr0 e n a)))), some (.int (nI 1)), some (.int (nI (a + mr0 e n a))), some (.int c0)]) rfl rfl (by decide) rfl ?_
  refine E_goto (t := 9) rfl rfl ?_
  refine E_iload_n rfl rfl ?_
  refine E_bipush (x := nI 7) rfl (by decide) ?_
  refine E_ic (t := 130) (b := false) rfl rfl (by decide) ?_
  refine E_aload_n rfl rfl ?_
  refine E_getfield (v := .int (nI a)) rfl w65 rfl (by decide) rfl ?_
  refine E_istore (L2 := [some (.ref 65), some (.int (nI 7)), some (.int (nI (max a (a + mr0 e n a)))), some (.int (nI 1)), some (.int (nI a)), some (.int c0)]) rfl rfl ?_
  refine E_iload_n rfl rfl ?_
  refine E_istore (L2 := [some (.ref 65), some (.int (nI 7)), some (.int (nI (max a (a + mr0 e n a)))), some (.int (nI 1)), some (.int (nI a)), some (.int (nI 7))]) rfl rfl ?_
  refine mw_p1 hj hn ha l_ce hce (f0 := max a (a + mr0 e n a)) (by omega) (by omega) (fun c1 => ?_)
  refine E_aload_n rfl rfl ?_
  refine E_getfield (v := .ref 82) rfl w65 rfl (by decide) rfl ?_
  refine E_iload_n rfl rfl ?_
  refine E_ialN (l := [112, 105, 101, 99, 101, 32, 0, 112, 101, 114, 115, 111, 110, 32, 0, 99, 111, 115, 116, 32, 0, 104, 97, 115, 32, 0, 98, 97, 99, 107, 32, 0, 103, 114, 101, 101, 100, 121, 0, 98, 101, 115, 116, 0]) (v := 112) rfl w82 (by omega) (by omega) rfl ?_
  refine E_if (t := 121) (b := false) rfl rfl (by decide) ?_
  refine E_iinc (y := nI 8) (L2 := [some (.ref 65), some (.int (nI 8)), some (.int (nI (max (max a (a + mr0 e n a)) (a + mr1 e n a)))), some (.int (nI 1)), some (.int (nI (a + mr1 e n a))), some (.int c1)]) rfl rfl (by decide) rfl ?_
  refine E_goto (t := 106) rfl rfl ?_
  refine E_aload_n rfl rfl ?_
  refine E_getfield (v := .ref 82) rfl w65 rfl (by decide) rfl ?_
  refine E_iload_n rfl rfl ?_
  refine E_ialN (l := [112, 105, 101, 99, 101, 32, 0, 112, 101, 114, 115, 111, 110, 32, 0, 99, 111, 115, 116, 32, 0, 104, 97, 115, 32, 0, 98, 97, 99, 107, 32, 0, 103, 114, 101, 101, 100, 121, 0, 98, 101, 115, 116, 0]) (v := 101) rfl w82 (by omega) (by omega) rfl ?_
  refine E_if (t := 121) (b := false) rfl rfl (by decide) ?_
  refine E_iinc (y := nI 9) (L2 := [some (.ref 65), some (.int (nI 9)), some (.int (nI (max (max a (a + mr0 e n a)) (a + mr1 e n a)))), some (.int (nI 1)), some (.int (nI (a + mr1 e n a))), some (.int c1)]) rfl rfl (by decide) rfl ?_
  refine E_goto (t := 106) rfl rfl ?_
  refine E_aload_n rfl rfl ?_
  refine E_getfield (v := .ref 82) rfl w65 rfl (by decide) rfl ?_
  refine E_iload_n rfl rfl ?_
  refine E_ialN (l := [112, 105, 101, 99, 101, 32, 0, 112, 101, 114, 115, 111, 110, 32, 0, 99, 111, 115, 116, 32, 0, 104, 97, 115, 32, 0, 98, 97, 99, 107, 32, 0, 103, 114, 101, 101, 100, 121, 0, 98, 101, 115, 116, 0]) (v := 114) rfl w82 (by omega) (by omega) rfl ?_
  refine E_if (t := 121) (b := false) rfl rfl (by decide) ?_
  refine E_iinc (y := nI 10) (L2 := [some (.ref 65), some (.int (nI 10)), some (.int (nI (max (max a (a + mr0 e n a)) (a + mr1 e n a)))), some (.int (nI 1)), some (.int (nI (a + mr1 e n a))), some (.int c1)]) rfl rfl (by decide) rfl ?_
  refine E_goto (t := 106) rfl rfl ?_
  refine E_aload_n rfl rfl ?_
  refine E_getfield (v := .ref 82) rfl w65 rfl (by decide) rfl ?_
  refine E_iload_n rfl rfl ?_
  refine E_ialN (l := [112, 105, 101, 99, 101, 32, 0, 112, 101, 114, 115, 111, 110, 32, 0, 99, 111, 115, 116, 32, 0, 104, 97, 115, 32, 0, 98, 97, 99, 107, 32, 0, 103, 114, 101, 101, 100, 121, 0, 98, 101, 115, 116, 0]) (v := 115) rfl w82 (by omega) (by omega) rfl ?_
  refine E_if (t := 121) (b := false) rfl rfl (by decide) ?_
  refine E_iinc (y := nI 11) (L2 := [some (.ref 65), some (.int (nI 11)), some (.int (nI (max (max a (a + mr0 e n a)) (a + mr1 e n a)))), some (.int (nI 1)), some (.int (nI (a + mr1 e n a))), some (.int c1)]) rfl rfl (by decide) rfl ?_
  refine E_goto (t := 106) rfl rfl ?_
  refine E_aload_n rfl rfl ?_
  refine E_getfield (v := .ref 82) rfl w65 rfl (by decide) rfl ?_
  refine E_iload_n rfl rfl ?_
  refine E_ialN (l := [112, 105, 101, 99, 101, 32, 0, 112, 101, 114, 115, 111, 110, 32, 0, 99, 111, 115, 116, 32, 0, 104, 97, 115, 32, 0, 98, 97, 99, 107, 32, 0, 103, 114, 101, 101, 100, 121, 0, 98, 101, 115, 116, 0]) (v := 111) rfl w82 (by omega) (by omega) rfl ?_
  refine E_if (t := 121) (b := false) rfl rfl (by decide) ?_
  refine E_iinc (y := nI 12) (L2 := [some (.ref 65), some (.int (nI 12)), some (.int (nI (max (max a (a + mr0 e n a)) (a + mr1 e n a)))), some (.int (nI 1)), some (.int (nI (a + mr1 e n a))), some (.int c1)]) rfl rfl (by decide) rfl ?_
  refine E_goto (t := 106) rfl rfl ?_
  refine E_aload_n rfl rfl ?_
  refine E_getfield (v := .ref 82) rfl w65 rfl (by decide) rfl ?_
  refine E_iload_n rfl rfl ?_
  refine E_ialN (l := [112, 105, 101, 99, 101, 32, 0, 112, 101, 114, 115, 111, 110, 32, 0, 99, 111, 115, 116, 32, 0, 104, 97, 115, 32, 0, 98, 97, 99, 107, 32, 0, 103, 114, 101, 101, 100, 121, 0, 98, 101, 115, 116, 0]) (v := 110) rfl w82 (by omega) (by omega) rfl ?_
  refine E_if (t := 121) (b := false) rfl rfl (by decide) ?_
  refine E_iinc (y := nI 13) (L2 := [some (.ref 65), some (.int (nI 13)), some (.int (nI (max (max a (a + mr0 e n a)) (a + mr1 e n a)))), some (.int (nI 1)), some (.int (nI (a + mr1 e n a))), some (.int c1)]) rfl rfl (by decide) rfl ?_
  refine E_goto (t := 106) rfl rfl ?_
  refine E_aload_n rfl rfl ?_
  refine E_getfield (v := .ref 82) rfl w65 rfl (by decide) rfl ?_
  refine E_iload_n rfl rfl ?_
  refine E_ialN (l := [112, 105, 101, 99, 101, 32, 0, 112, 101, 114, 115, 111, 110, 32, 0, 99, 111, 115, 116, 32, 0, 104, 97, 115, 32, 0, 98, 97, 99, 107, 32, 0, 103, 114, 101, 101, 100, 121, 0, 98, 101, 115, 116, 0]) (v := 32) rfl w82 (by omega) (by omega) rfl ?_
  refine E_if (t := 121) (b := false) rfl rfl (by decide) ?_
  refine E_iinc (y := nI 14) (L2 := [some (.ref 65), some (.int (nI 14)), some (.int (nI (max (max a (a + mr0 e n a)) (a + mr1 e n a)))), some (.int (nI 1)), some (.int (nI (a + mr1 e n a))), some (.int c1)]) rfl rfl (by decide) rfl ?_
  refine E_goto (t := 106) rfl rfl ?_
  refine E_aload_n rfl rfl ?_
  refine E_getfield (v := .ref 82) rfl w65 rfl (by decide) rfl ?_
  refine E_iload_n rfl rfl ?_
  refine E_ialN (l := [112, 105, 101, 99, 101, 32, 0, 112, 101, 114, 115, 111, 110, 32, 0, 99, 111, 115, 116, 32, 0, 104, 97, 115, 32, 0, 98, 97, 99, 107, 32, 0, 103, 114, 101, 101, 100, 121, 0, 98, 101, 115, 116, 0]) (v := 0) rfl w82 (by omega) (by omega) rfl ?_
  refine E_if (t := 121) (b := true) rfl rfl (by decide) ?_
  refine E_iinc (y := nI 15) (L2 := [some (.ref 65), some (.int (nI 15)), some (.int (nI (max (max a (a + mr0 e n a)) (a + mr1 e n a)))), some (.int (nI 1)), some (.int (nI (a + mr1 e n a))), some (.int c1)]) rfl rfl (by decide) rfl ?_
  refine E_iinc (y := nI 2) (L2 := [some (.ref 65), some (.int (nI 15)), some (.int (nI (max (max a (a + mr0 e n a)) (a + mr1 e n a)))), some (.int (nI 2)), some (.int (nI (a + mr1 e n a))), some (.int c1)]) rfl rfl (by decide) rfl ?_
  refine E_goto (t := 9) rfl rfl ?_
  refine E_iload_n rfl rfl ?_
  refine E_bipush (x := nI 7) rfl (by decide) ?_
  refine E_ic (t := 130) (b := false) rfl rfl (by decide) ?_
  refine E_aload_n rfl rfl ?_
  refine E_getfield (v := .int (nI a)) rfl w65 rfl (by decide) rfl ?_
  refine E_istore (L2 := [some (.ref 65), some (.int (nI 15)), some (.int (nI (max (max a (a + mr0 e n a)) (a + mr1 e n a)))), some (.int (nI 2)), some (.int (nI a)), some (.int c1)]) rfl rfl ?_
  refine E_iload_n rfl rfl ?_
  refine E_istore (L2 := [some (.ref 65), some (.int (nI 15)), some (.int (nI (max (max a (a + mr0 e n a)) (a + mr1 e n a)))), some (.int (nI 2)), some (.int (nI a)), some (.int (nI 15))]) rfl rfl ?_
  refine mw_p2 hj hn ha l_ce hce (f0 := max (max a (a + mr0 e n a)) (a + mr1 e n a)) (by omega) (by omega) (fun c2 => ?_)
  refine E_aload_n rfl rfl ?_
  refine E_getfield (v := .ref 82) rfl w65 rfl (by decide) rfl ?_
  refine E_iload_n rfl rfl ?_
  refine E_ialN (l := [112, 105, 101, 99, 101, 32, 0, 112, 101, 114, 115, 111, 110, 32, 0, 99, 111, 115, 116, 32, 0, 104, 97, 115, 32, 0, 98, 97, 99, 107, 32, 0, 103, 114, 101, 101, 100, 121, 0, 98, 101, 115, 116, 0]) (v := 99) rfl w82 (by omega) (by omega) rfl ?_
  refine E_if (t := 121) (b := false) rfl rfl (by decide) ?_
  refine E_iinc (y := nI 16) (L2 := [some (.ref 65), some (.int (nI 16)), some (.int (nI (max (max (max a (a + mr0 e n a)) (a + mr1 e n a)) (a + mr2 e n a)))), some (.int (nI 2)), some (.int (nI (a + mr2 e n a))), some (.int c2)]) rfl rfl (by decide) rfl ?_
  refine E_goto (t := 106) rfl rfl ?_
  refine E_aload_n rfl rfl ?_
  refine E_getfield (v := .ref 82) rfl w65 rfl (by decide) rfl ?_
  refine E_iload_n rfl rfl ?_
  refine E_ialN (l := [112, 105, 101, 99, 101, 32, 0, 112, 101, 114, 115, 111, 110, 32, 0, 99, 111, 115, 116, 32, 0, 104, 97, 115, 32, 0, 98, 97, 99, 107, 32, 0, 103, 114, 101, 101, 100, 121, 0, 98, 101, 115, 116, 0]) (v := 111) rfl w82 (by omega) (by omega) rfl ?_
  refine E_if (t := 121) (b := false) rfl rfl (by decide) ?_
  refine E_iinc (y := nI 17) (L2 := [some (.ref 65), some (.int (nI 17)), some (.int (nI (max (max (max a (a + mr0 e n a)) (a + mr1 e n a)) (a + mr2 e n a)))), some (.int (nI 2)), some (.int (nI (a + mr2 e n a))), some (.int c2)]) rfl rfl (by decide) rfl ?_
  refine E_goto (t := 106) rfl rfl ?_
  refine E_aload_n rfl rfl ?_
  refine E_getfield (v := .ref 82) rfl w65 rfl (by decide) rfl ?_
  refine E_iload_n rfl rfl ?_
  refine E_ialN (l := [112, 105, 101, 99, 101, 32, 0, 112, 101, 114, 115, 111, 110, 32, 0, 99, 111, 115, 116, 32, 0, 104, 97, 115, 32, 0, 98, 97, 99, 107, 32, 0, 103, 114, 101, 101, 100, 121, 0, 98, 101, 115, 116, 0]) (v := 115) rfl w82 (by omega) (by omega) rfl ?_
  refine E_if (t := 121) (b := false) rfl rfl (by decide) ?_
  refine E_iinc (y := nI 18) (L2 := [some (.ref 65), some (.int (nI 18)), some (.int (nI (max (max (max a (a + mr0 e n a)) (a + mr1 e n a)) (a + mr2 e n a)))), some (.int (nI 2)), some (.int (nI (a + mr2 e n a))), some (.int c2)]) rfl rfl (by decide) rfl ?_
  refine E_goto (t := 106) rfl rfl ?_
  refine E_aload_n rfl rfl ?_
  refine E_getfield (v := .ref 82) rfl w65 rfl (by decide) rfl ?_
  refine E_iload_n rfl rfl ?_
  refine E_ialN (l := [112, 105, 101, 99, 101, 32, 0, 112, 101, 114, 115, 111, 110, 32, 0, 99, 111, 115, 116, 32, 0, 104, 97, 115, 32, 0, 98, 97, 99, 107, 32, 0, 103, 114, 101, 101, 100, 121, 0, 98, 101, 115, 116, 0]) (v := 116) rfl w82 (by omega) (by omega) rfl ?_
  refine E_if (t := 121) (b := false) rfl rfl (by decide) ?_
  refine E_iinc (y := nI 19) (L2 := [some (.ref 65), some (.int (nI 19)), some (.int (nI (max (max (max a (a + mr0 e n a)) (a + mr1 e n a)) (a + mr2 e n a)))), some (.int (nI 2)), some (.int (nI (a + mr2 e n a))), some (.int c2)]) rfl rfl (by decide) rfl ?_
  refine E_goto (t := 106) rfl rfl ?_
  refine E_aload_n rfl rfl ?_
  refine E_getfield (v := .ref 82) rfl w65 rfl (by decide) rfl ?_
  refine E_iload_n rfl rfl ?_
  refine E_ialN (l := [112, 105, 101, 99, 101, 32, 0, 112, 101, 114, 115, 111, 110, 32, 0, 99, 111, 115, 116, 32, 0, 104, 97, 115, 32, 0, 98, 97, 99, 107, 32, 0, 103, 114, 101, 101, 100, 121, 0, 98, 101, 115, 116, 0]) (v := 32) rfl w82 (by omega) (by omega) rfl ?_
  refine E_if (t := 121) (b := false) rfl rfl (by decide) ?_
  refine E_iinc (y := nI 20) (L2 := [some (.ref 65), some (.int (nI 20)), some (.int (nI (max (max (max a (a + mr0 e n a)) (a + mr1 e n a)) (a + mr2 e n a)))), some (.int (nI 2)), some (.int (nI (a + mr2 e n a))), some (.int c2)]) rfl rfl (by decide) rfl ?_
  refine E_goto (t := 106) rfl rfl ?_
  refine E_aload_n rfl rfl ?_
  refine E_getfield (v := .ref 82) rfl w65 rfl (by decide) rfl ?_
  refine E_iload_n rfl rfl ?_
  refine E_ialN (l := [112, 105, 101, 99, 101, 32, 0, 112, 101, 114, 115, 111, 110, 32, 0, 99, 111, 115, 116, 32, 0, 104, 97, 115, 32, 0, 98, 97, 99, 107, 32, 0, 103, 114, 101, 101, 100, 121, 0, 98, 101, 115, 116, 0]) (v := 0) rfl w82 (by omega) (by omega) rfl ?_
  refine E_if (t := 121) (b := true) rfl rfl (by decide) ?_
  refine E_iinc (y := nI 21) (L2 := [some (.ref 65), some (.int (nI 21)), some (.int (nI (max (max (max a (a + mr0 e n a)) (a + mr1 e n a)) (a + mr2 e n a)))), some (.int (nI 2)), some (.int (nI (a + mr2 e n a))), some (.int c2)]) rfl rfl (by decide) rfl ?_
  refine E_iinc (y := nI 3) (L2 := [some (.ref 65), some (.int (nI 21)), some (.int (nI (max (max (max a (a + mr0 e n a)) (a + mr1 e n a)) (a + mr2 e n a)))), some (.int (nI 3)), some (.int (nI (a + mr2 e n a))), some (.int c2)]) rfl rfl (by decide) rfl ?_
  refine E_goto (t := 9) rfl rfl ?_
  refine E_iload_n rfl rfl ?_
  refine E_bipush (x := nI 7) rfl (by decide) ?_
  refine E_ic (t := 130) (b := false) rfl rfl (by decide) ?_
  refine E_aload_n rfl rfl ?_
  refine E_getfield (v := .int (nI a)) rfl w65 rfl (by decide) rfl ?_
  refine E_istore (L2 := [some (.ref 65), some (.int (nI 21)), some (.int (nI (max (max (max a (a + mr0 e n a)) (a + mr1 e n a)) (a + mr2 e n a)))), some (.int (nI 3)), some (.int (nI a)), some (.int c2)]) rfl rfl ?_
  refine E_iload_n rfl rfl ?_
  refine E_istore (L2 := [some (.ref 65), some (.int (nI 21)), some (.int (nI (max (max (max a (a + mr0 e n a)) (a + mr1 e n a)) (a + mr2 e n a)))), some (.int (nI 3)), some (.int (nI a)), some (.int (nI 21))]) rfl rfl ?_
  refine mw_p3 hj hn ha l_ce hce (f0 := max (max (max a (a + mr0 e n a)) (a + mr1 e n a)) (a + mr2 e n a)) (by omega) (by omega) (fun c3 => ?_)
  refine E_aload_n rfl rfl ?_
  refine E_getfield (v := .ref 82) rfl w65 rfl (by decide) rfl ?_
  refine E_iload_n rfl rfl ?_
  refine E_ialN (l := [112, 105, 101, 99, 101, 32, 0, 112, 101, 114, 115, 111, 110, 32, 0, 99, 111, 115, 116, 32, 0, 104, 97, 115, 32, 0, 98, 97, 99, 107, 32, 0, 103, 114, 101, 101, 100, 121, 0, 98, 101, 115, 116, 0]) (v := 104) rfl w82 (by omega) (by omega) rfl ?_
  refine E_if (t := 121) (b := false) rfl rfl (by decide) ?_
  refine E_iinc (y := nI 22) (L2 := [some (.ref 65), some (.int (nI 22)), some (.int (nI (max (max (max (max a (a + mr0 e n a)) (a + mr1 e n a)) (a + mr2 e n a)) (a + mr3 e n a)))), some (.int (nI 3)), some (.int (nI (a + mr3 e n a))), some (.int c3)]) rfl rfl (by decide) rfl ?_
  refine E_goto (t := 106) rfl rfl ?_
  refine E_aload_n rfl rfl ?_
  refine E_getfield (v := .ref 82) rfl w65 rfl (by decide) rfl ?_
  refine E_iload_n rfl rfl ?_
  refine E_ialN (l := [112, 105, 101, 99, 101, 32, 0, 112, 101, 114, 115, 111, 110, 32, 0, 99, 111, 115, 116, 32, 0, 104, 97, 115, 32, 0, 98, 97, 99, 107, 32, 0, 103, 114, 101, 101, 100, 121, 0, 98, 101, 115, 116, 0]) (v := 97) rfl w82 (by omega) (by omega) rfl ?_
  refine E_if (t := 121) (b := false) rfl rfl (by decide) ?_
  refine E_iinc (y := nI 23) (L2 := [some (.ref 65), some (.int (nI 23)), some (.int (nI (max (max (max (max a (a + mr0 e n a)) (a + mr1 e n a)) (a + mr2 e n a)) (a + mr3 e n a)))), some (.int (nI 3)), some (.int (nI (a + mr3 e n a))), some (.int c3)]) rfl rfl (by decide) rfl ?_
  refine E_goto (t := 106) rfl rfl ?_
  refine E_aload_n rfl rfl ?_
  refine E_getfield (v := .ref 82) rfl w65 rfl (by decide) rfl ?_
  refine E_iload_n rfl rfl ?_
  refine E_ialN (l := [112, 105, 101, 99, 101, 32, 0, 112, 101, 114, 115, 111, 110, 32, 0, 99, 111, 115, 116, 32, 0, 104, 97, 115, 32, 0, 98, 97, 99, 107, 32, 0, 103, 114, 101, 101, 100, 121, 0, 98, 101, 115, 116, 0]) (v := 115) rfl w82 (by omega) (by omega) rfl ?_
  refine E_if (t := 121) (b := false) rfl rfl (by decide) ?_
  refine E_iinc (y := nI 24) (L2 := [some (.ref 65), some (.int (nI 24)), some (.int (nI (max (max (max (max a (a + mr0 e n a)) (a + mr1 e n a)) (a + mr2 e n a)) (a + mr3 e n a)))), some (.int (nI 3)), some (.int (nI (a + mr3 e n a))), some (.int c3)]) rfl rfl (by decide) rfl ?_
  refine E_goto (t := 106) rfl rfl ?_
  refine E_aload_n rfl rfl ?_
  refine E_getfield (v := .ref 82) rfl w65 rfl (by decide) rfl ?_
  refine E_iload_n rfl rfl ?_
  refine E_ialN (l := [112, 105, 101, 99, 101, 32, 0, 112, 101, 114, 115, 111, 110, 32, 0, 99, 111, 115, 116, 32, 0, 104, 97, 115, 32, 0, 98, 97, 99, 107, 32, 0, 103, 114, 101, 101, 100, 121, 0, 98, 101, 115, 116, 0]) (v := 32) rfl w82 (by omega) (by omega) rfl ?_
  refine E_if (t := 121) (b := false) rfl rfl (by decide) ?_
  refine E_iinc (y := nI 25) (L2 := [some (.ref 65), some (.int (nI 25)), some (.int (nI (max (max (max (max a (a + mr0 e n a)) (a + mr1 e n a)) (a + mr2 e n a)) (a + mr3 e n a)))), some (.int (nI 3)), some (.int (nI (a + mr3 e n a))), some (.int c3)]) rfl rfl (by decide) rfl ?_
  refine E_goto (t := 106) rfl rfl ?_
  refine E_aload_n rfl rfl ?_
  refine E_getfield (v := .ref 82) rfl w65 rfl (by decide) rfl ?_
  refine E_iload_n rfl rfl ?_
  refine E_ialN (l := [112, 105, 101, 99, 101, 32, 0, 112, 101, 114, 115, 111, 110, 32, 0, 99, 111, 115, 116, 32, 0, 104, 97, 115, 32, 0, 98, 97, 99, 107, 32, 0, 103, 114, 101, 101, 100, 121, 0, 98, 101, 115, 116, 0]) (v := 0) rfl w82 (by omega) (by omega) rfl ?_
  refine E_if (t := 121) (b := true) rfl rfl (by decide) ?_
  refine E_iinc (y := nI 26) (L2 := [some (.ref 65), some (.int (nI 26)), some (.int (nI (max (max (max (max a (a + mr0 e n a)) (a + mr1 e n a)) (a + mr2 e n a)) (a + mr3 e n a)))), some (.int (nI 3)), some (.int (nI (a + mr3 e n a))), some (.int c3)]) rfl rfl (by decide) rfl ?_
  refine E_iinc (y := nI 4) (L2 := [some (.ref 65), some (.int (nI 26)), some (.int (nI (max (max (max (max a (a + mr0 e n a)) (a + mr1 e n a)) (a + mr2 e n a)) (a + mr3 e n a)))), some (.int (nI 4)), some (.int (nI (a + mr3 e n a))), some (.int c3)]) rfl rfl (by decide) rfl ?_
  refine E_goto (t := 9) rfl rfl ?_
  refine E_iload_n rfl rfl ?_
  refine E_bipush (x := nI 7) rfl (by decide) ?_
  refine E_ic (t := 130) (b := false) rfl rfl (by decide) ?_
  refine E_aload_n rfl rfl ?_
  refine E_getfield (v := .int (nI a)) rfl w65 rfl (by decide) rfl ?_
  refine E_istore (L2 := [some (.ref 65), some (.int (nI 26)), some (.int (nI (max (max (max (max a (a + mr0 e n a)) (a + mr1 e n a)) (a + mr2 e n a)) (a + mr3 e n a)))), some (.int (nI 4)), some (.int (nI a)), some (.int c3)]) rfl rfl ?_
  refine E_iload_n rfl rfl ?_
  refine E_istore (L2 := [some (.ref 65), some (.int (nI 26)), some (.int (nI (max (max (max (max a (a + mr0 e n a)) (a + mr1 e n a)) (a + mr2 e n a)) (a + mr3 e n a)))), some (.int (nI 4)), some (.int (nI a)), some (.int (nI 26))]) rfl rfl ?_
  refine mw_p4 hj hn ha l_ce hce (f0 := max (max (max (max a (a + mr0 e n a)) (a + mr1 e n a)) (a + mr2 e n a)) (a + mr3 e n a)) (by omega) (by omega) (fun c4 => ?_)
  refine E_aload_n rfl rfl ?_
  refine E_getfield (v := .ref 82) rfl w65 rfl (by decide) rfl ?_
  refine E_iload_n rfl rfl ?_
  refine E_ialN (l := [112, 105, 101, 99, 101, 32, 0, 112, 101, 114, 115, 111, 110, 32, 0, 99, 111, 115, 116, 32, 0, 104, 97, 115, 32, 0, 98, 97, 99, 107, 32, 0, 103, 114, 101, 101, 100, 121, 0, 98, 101, 115, 116, 0]) (v := 98) rfl w82 (by omega) (by omega) rfl ?_
  refine E_if (t := 121) (b := false) rfl rfl (by decide) ?_
  refine E_iinc (y := nI 27) (L2 := [some (.ref 65), some (.int (nI 27)), some (.int (nI (max (max (max (max (max a (a + mr0 e n a)) (a + mr1 e n a)) (a + mr2 e n a)) (a + mr3 e n a)) (a + mr4 e n a)))), some (.int (nI 4)), some (.int (nI (a + mr4 e n a))), some (.int c4)]) rfl rfl (by decide) rfl ?_
  refine E_goto (t := 106) rfl rfl ?_
  refine E_aload_n rfl rfl ?_
  refine E_getfield (v := .ref 82) rfl w65 rfl (by decide) rfl ?_
  refine E_iload_n rfl rfl ?_
  refine E_ialN (l := [112, 105, 101, 99, 101, 32, 0, 112, 101, 114, 115, 111, 110, 32, 0, 99, 111, 115, 116, 32, 0, 104, 97, 115, 32, 0, 98, 97, 99, 107, 32, 0, 103, 114, 101, 101, 100, 121, 0, 98, 101, 115, 116, 0]) (v := 97) rfl w82 (by omega) (by omega) rfl ?_
  refine E_if (t := 121) (b := false) rfl rfl (by decide) ?_
  refine E_iinc (y := nI 28) (L2 := [some (.ref 65), some (.int (nI 28)), some (.int (nI (max (max (max (max (max a (a + mr0 e n a)) (a + mr1 e n a)) (a + mr2 e n a)) (a + mr3 e n a)) (a + mr4 e n a)))), some (.int (nI 4)), some (.int (nI (a + mr4 e n a))), some (.int c4)]) rfl rfl (by decide) rfl ?_
  refine E_goto (t := 106) rfl rfl ?_
  refine E_aload_n rfl rfl ?_
  refine E_getfield (v := .ref 82) rfl w65 rfl (by decide) rfl ?_
  refine E_iload_n rfl rfl ?_
  refine E_ialN (l := [112, 105, 101, 99, 101, 32, 0, 112, 101, 114, 115, 111, 110, 32, 0, 99, 111, 115, 116, 32, 0, 104, 97, 115, 32, 0, 98, 97, 99, 107, 32, 0, 103, 114, 101, 101, 100, 121, 0, 98, 101, 115, 116, 0]) (v := 99) rfl w82 (by omega) (by omega) rfl ?_
  refine E_if (t := 121) (b := false) rfl rfl (by decide) ?_
  refine E_iinc (y := nI 29) (L2 := [some (.ref 65), some (.int (nI 29)), some (.int (nI (max (max (max (max (max a (a + mr0 e n a)) (a + mr1 e n a)) (a + mr2 e n a)) (a + mr3 e n a)) (a + mr4 e n a)))), some (.int (nI 4)), some (.int (nI (a + mr4 e n a))), some (.int c4)]) rfl rfl (by decide) rfl ?_
  refine E_goto (t := 106) rfl rfl ?_
  refine E_aload_n rfl rfl ?_
  refine E_getfield (v := .ref 82) rfl w65 rfl (by decide) rfl ?_
  refine E_iload_n rfl rfl ?_
  refine E_ialN (l := [112, 105, 101, 99, 101, 32, 0, 112, 101, 114, 115, 111, 110, 32, 0, 99, 111, 115, 116, 32, 0, 104, 97, 115, 32, 0, 98, 97, 99, 107, 32, 0, 103, 114, 101, 101, 100, 121, 0, 98, 101, 115, 116, 0]) (v := 107) rfl w82 (by omega) (by omega) rfl ?_
  refine E_if (t := 121) (b := false) rfl rfl (by decide) ?_
  refine E_iinc (y := nI 30) (L2 := [some (.ref 65), some (.int (nI 30)), some (.int (nI (max (max (max (max (max a (a + mr0 e n a)) (a + mr1 e n a)) (a + mr2 e n a)) (a + mr3 e n a)) (a + mr4 e n a)))), some (.int (nI 4)), some (.int (nI (a + mr4 e n a))), some (.int c4)]) rfl rfl (by decide) rfl ?_
  refine E_goto (t := 106) rfl rfl ?_
  refine E_aload_n rfl rfl ?_
  refine E_getfield (v := .ref 82) rfl w65 rfl (by decide) rfl ?_
  refine E_iload_n rfl rfl ?_
  refine E_ialN (l := [112, 105, 101, 99, 101, 32, 0, 112, 101, 114, 115, 111, 110, 32, 0, 99, 111, 115, 116, 32, 0, 104, 97, 115, 32, 0, 98, 97, 99, 107, 32, 0, 103, 114, 101, 101, 100, 121, 0, 98, 101, 115, 116, 0]) (v := 32) rfl w82 (by omega) (by omega) rfl ?_
  refine E_if (t := 121) (b := false) rfl rfl (by decide) ?_
  refine E_iinc (y := nI 31) (L2 := [some (.ref 65), some (.int (nI 31)), some (.int (nI (max (max (max (max (max a (a + mr0 e n a)) (a + mr1 e n a)) (a + mr2 e n a)) (a + mr3 e n a)) (a + mr4 e n a)))), some (.int (nI 4)), some (.int (nI (a + mr4 e n a))), some (.int c4)]) rfl rfl (by decide) rfl ?_
  refine E_goto (t := 106) rfl rfl ?_
  refine E_aload_n rfl rfl ?_
  refine E_getfield (v := .ref 82) rfl w65 rfl (by decide) rfl ?_
  refine E_iload_n rfl rfl ?_
  refine E_ialN (l := [112, 105, 101, 99, 101, 32, 0, 112, 101, 114, 115, 111, 110, 32, 0, 99, 111, 115, 116, 32, 0, 104, 97, 115, 32, 0, 98, 97, 99, 107, 32, 0, 103, 114, 101, 101, 100, 121, 0, 98, 101, 115, 116, 0]) (v := 0) rfl w82 (by omega) (by omega) rfl ?_
  refine E_if (t := 121) (b := true) rfl rfl (by decide) ?_
  refine E_iinc (y := nI 32) (L2 := [some (.ref 65), some (.int (nI 32)), some (.int (nI (max (max (max (max (max a (a + mr0 e n a)) (a + mr1 e n a)) (a + mr2 e n a)) (a + mr3 e n a)) (a + mr4 e n a)))), some (.int (nI 4)), some (.int (nI (a + mr4 e n a))), some (.int c4)]) rfl rfl (by decide) rfl ?_
  refine E_iinc (y := nI 5) (L2 := [some (.ref 65), some (.int (nI 32)), some (.int (nI (max (max (max (max (max a (a + mr0 e n a)) (a + mr1 e n a)) (a + mr2 e n a)) (a + mr3 e n a)) (a + mr4 e n a)))), some (.int (nI 5)), some (.int (nI (a + mr4 e n a))), some (.int c4)]) rfl rfl (by decide) rfl ?_
  refine E_goto (t := 9) rfl rfl ?_
  refine E_iload_n rfl rfl ?_
  refine E_bipush (x := nI 7) rfl (by decide) ?_
  refine E_ic (t := 130) (b := false) rfl rfl (by decide) ?_
  refine E_aload_n rfl rfl ?_
  refine E_getfield (v := .int (nI a)) rfl w65 rfl (by decide) rfl ?_
  refine E_istore (L2 := [some (.ref 65), some (.int (nI 32)), some (.int (nI (max (max (max (max (max a (a + mr0 e n a)) (a + mr1 e n a)) (a + mr2 e n a)) (a + mr3 e n a)) (a + mr4 e n a)))), some (.int (nI 5)), some (.int (nI a)), some (.int c4)]) rfl rfl ?_
  refine E_iload_n rfl rfl ?_
  refine E_istore (L2 := [some (.ref 65), some (.int (nI 32)), some (.int (nI (max (max (max (max (max a (a + mr0 e n a)) (a + mr1 e n a)) (a + mr2 e n a)) (a + mr3 e n a)) (a + mr4 e n a)))), some (.int (nI 5)), some (.int (nI a)), some (.int (nI 32))]) rfl rfl ?_
  refine mw_p5 hj hn ha l_ce hce (f0 := max (max (max (max (max a (a + mr0 e n a)) (a + mr1 e n a)) (a + mr2 e n a)) (a + mr3 e n a)) (a + mr4 e n a)) (by omega) (by omega) (fun c5 => ?_)
  refine E_aload_n rfl rfl ?_
  refine E_getfield (v := .ref 82) rfl w65 rfl (by decide) rfl ?_
  refine E_iload_n rfl rfl ?_
  refine E_ialN (l := [112, 105, 101, 99, 101, 32, 0, 112, 101, 114, 115, 111, 110, 32, 0, 99, 111, 115, 116, 32, 0, 104, 97, 115, 32, 0, 98, 97, 99, 107, 32, 0, 103, 114, 101, 101, 100, 121, 0, 98, 101, 115, 116, 0]) (v := 103) rfl w82 (by omega) (by omega) rfl ?_
  refine E_if (t := 121) (b := false) rfl rfl (by decide) ?_
  refine E_iinc (y := nI 33) (L2 := [some (.ref 65), some (.int (nI 33)), some (.int (nI (max (max (max (max (max (max a (a + mr0 e n a)) (a + mr1 e n a)) (a + mr2 e n a)) (a + mr3 e n a)) (a + mr4 e n a)) (a + mr5 e n a)))), some (.int (nI 5)), some (.int (nI (a + mr5 e n a))), some (.int c5)]) rfl rfl (by decide) rfl ?_
  refine E_goto (t := 106) rfl rfl ?_
  refine E_aload_n rfl rfl ?_
  refine E_getfield (v := .ref 82) rfl w65 rfl (by decide) rfl ?_
  refine E_iload_n rfl rfl ?_
  refine E_ialN (l := [112, 105, 101, 99, 101, 32, 0, 112, 101, 114, 115, 111, 110, 32, 0, 99, 111, 115, 116, 32, 0, 104, 97, 115, 32, 0, 98, 97, 99, 107, 32, 0, 103, 114, 101, 101, 100, 121, 0, 98, 101, 115, 116, 0]) (v := 114) rfl w82 (by omega) (by omega) rfl ?_
  refine E_if (t := 121) (b := false) rfl rfl (by decide) ?_
  refine E_iinc (y := nI 34) (L2 := [some (.ref 65), some (.int (nI 34)), some (.int (nI (max (max (max (max (max (max a (a + mr0 e n a)) (a + mr1 e n a)) (a + mr2 e n a)) (a + mr3 e n a)) (a + mr4 e n a)) (a + mr5 e n a)))), some (.int (nI 5)), some (.int (nI (a + mr5 e n a))), some (.int c5)]) rfl rfl (by decide) rfl ?_
  refine E_goto (t := 106) rfl rfl ?_
  refine E_aload_n rfl rfl ?_
  refine E_getfield (v := .ref 82) rfl w65 rfl (by decide) rfl ?_
  refine E_iload_n rfl rfl ?_
  refine E_ialN (l := [112, 105, 101, 99, 101, 32, 0, 112, 101, 114, 115, 111, 110, 32, 0, 99, 111, 115, 116, 32, 0, 104, 97, 115, 32, 0, 98, 97, 99, 107, 32, 0, 103, 114, 101, 101, 100, 121, 0, 98, 101, 115, 116, 0]) (v := 101) rfl w82 (by omega) (by omega) rfl ?_
  refine E_if (t := 121) (b := false) rfl rfl (by decide) ?_
  refine E_iinc (y := nI 35) (L2 := [some (.ref 65), some (.int (nI 35)), some (.int (nI (max (max (max (max (max (max a (a + mr0 e n a)) (a + mr1 e n a)) (a + mr2 e n a)) (a + mr3 e n a)) (a + mr4 e n a)) (a + mr5 e n a)))), some (.int (nI 5)), some (.int (nI (a + mr5 e n a))), some (.int c5)]) rfl rfl (by decide) rfl ?_
  refine E_goto (t := 106) rfl rfl ?_
  refine E_aload_n rfl rfl ?_
  refine E_getfield (v := .ref 82) rfl w65 rfl (by decide) rfl ?_
  refine E_iload_n rfl rfl ?_
  refine E_ialN (l := [112, 105, 101, 99, 101, 32, 0, 112, 101, 114, 115, 111, 110, 32, 0, 99, 111, 115, 116, 32, 0, 104, 97, 115, 32, 0, 98, 97, 99, 107, 32, 0, 103, 114, 101, 101, 100, 121, 0, 98, 101, 115, 116, 0]) (v := 101) rfl w82 (by omega) (by omega) rfl ?_
  refine E_if (t := 121) (b := false) rfl rfl (by decide) ?_
  refine E_iinc (y := nI 36) (L2 := [some (.ref 65), some (.int (nI 36)), some (.int (nI (max (max (max (max (max (max a (a + mr0 e n a)) (a + mr1 e n a)) (a + mr2 e n a)) (a + mr3 e n a)) (a + mr4 e n a)) (a + mr5 e n a)))), some (.int (nI 5)), some (.int (nI (a + mr5 e n a))), some (.int c5)]) rfl rfl (by decide) rfl ?_
  refine E_goto (t := 106) rfl rfl ?_
  refine E_aload_n rfl rfl ?_
  refine E_getfield (v := .ref 82) rfl w65 rfl (by decide) rfl ?_
  refine E_iload_n rfl rfl ?_
  refine E_ialN (l := [112, 105, 101, 99, 101, 32, 0, 112, 101, 114, 115, 111, 110, 32, 0, 99, 111, 115, 116, 32, 0, 104, 97, 115, 32, 0, 98, 97, 99, 107, 32, 0, 103, 114, 101, 101, 100, 121, 0, 98, 101, 115, 116, 0]) (v := 100) rfl w82 (by omega) (by omega) rfl ?_
  refine E_if (t := 121) (b := false) rfl rfl (by decide) ?_
  refine E_iinc (y := nI 37) (L2 := [some (.ref 65), some (.int (nI 37)), some (.int (nI (max (max (max (max (max (max a (a + mr0 e n a)) (a + mr1 e n a)) (a + mr2 e n a)) (a + mr3 e n a)) (a + mr4 e n a)) (a + mr5 e n a)))), some (.int (nI 5)), some (.int (nI (a + mr5 e n a))), some (.int c5)]) rfl rfl (by decide) rfl ?_
  refine E_goto (t := 106) rfl rfl ?_
  refine E_aload_n rfl rfl ?_
  refine E_getfield (v := .ref 82) rfl w65 rfl (by decide) rfl ?_
  refine E_iload_n rfl rfl ?_
  refine E_ialN (l := [112, 105, 101, 99, 101, 32, 0, 112, 101, 114, 115, 111, 110, 32, 0, 99, 111, 115, 116, 32, 0, 104, 97, 115, 32, 0, 98, 97, 99, 107, 32, 0, 103, 114, 101, 101, 100, 121, 0, 98, 101, 115, 116, 0]) (v := 121) rfl w82 (by omega) (by omega) rfl ?_
  refine E_if (t := 121) (b := false) rfl rfl (by decide) ?_
  refine E_iinc (y := nI 38) (L2 := [some (.ref 65), some (.int (nI 38)), some (.int (nI (max (max (max (max (max (max a (a + mr0 e n a)) (a + mr1 e n a)) (a + mr2 e n a)) (a + mr3 e n a)) (a + mr4 e n a)) (a + mr5 e n a)))), some (.int (nI 5)), some (.int (nI (a + mr5 e n a))), some (.int c5)]) rfl rfl (by decide) rfl ?_
  refine E_goto (t := 106) rfl rfl ?_
  refine E_aload_n rfl rfl ?_
  refine E_getfield (v := .ref 82) rfl w65 rfl (by decide) rfl ?_
  refine E_iload_n rfl rfl ?_
  refine E_ialN (l := [112, 105, 101, 99, 101, 32, 0, 112, 101, 114, 115, 111, 110, 32, 0, 99, 111, 115, 116, 32, 0, 104, 97, 115, 32, 0, 98, 97, 99, 107, 32, 0, 103, 114, 101, 101, 100, 121, 0, 98, 101, 115, 116, 0]) (v := 0) rfl w82 (by omega) (by omega) rfl ?_
  refine E_if (t := 121) (b := true) rfl rfl (by decide) ?_
  refine E_iinc (y := nI 39) (L2 := [some (.ref 65), some (.int (nI 39)), some (.int (nI (max (max (max (max (max (max a (a + mr0 e n a)) (a + mr1 e n a)) (a + mr2 e n a)) (a + mr3 e n a)) (a + mr4 e n a)) (a + mr5 e n a)))), some (.int (nI 5)), some (.int (nI (a + mr5 e n a))), some (.int c5)]) rfl rfl (by decide) rfl ?_
  refine E_iinc (y := nI 6) (L2 := [some (.ref 65), some (.int (nI 39)), some (.int (nI (max (max (max (max (max (max a (a + mr0 e n a)) (a + mr1 e n a)) (a + mr2 e n a)) (a + mr3 e n a)) (a + mr4 e n a)) (a + mr5 e n a)))), some (.int (nI 6)), some (.int (nI (a + mr5 e n a))), some (.int c5)]) rfl rfl (by decide) rfl ?_
  refine E_goto (t := 9) rfl rfl ?_
  refine E_iload_n rfl rfl ?_
  refine E_bipush (x := nI 7) rfl (by decide) ?_
  refine E_ic (t := 130) (b := false) rfl rfl (by decide) ?_
  refine E_aload_n rfl rfl ?_
  refine E_getfield (v := .int (nI a)) rfl w65 rfl (by decide) rfl ?_
  refine E_istore (L2 := [some (.ref 65), some (.int (nI 39)), some (.int (nI (max (max (max (max (max (max a (a + mr0 e n a)) (a + mr1 e n a)) (a + mr2 e n a)) (a + mr3 e n a)) (a + mr4 e n a)) (a + mr5 e n a)))), some (.int (nI 6)), some (.int (nI a)), some (.int c5)]) rfl rfl ?_
  refine E_iload_n rfl rfl ?_
  refine E_istore (L2 := [some (.ref 65), some (.int (nI 39)), some (.int (nI (max (max (max (max (max (max a (a + mr0 e n a)) (a + mr1 e n a)) (a + mr2 e n a)) (a + mr3 e n a)) (a + mr4 e n a)) (a + mr5 e n a)))), some (.int (nI 6)), some (.int (nI a)), some (.int (nI 39))]) rfl rfl ?_
  refine mw_p6 hj hn ha l_ce hce (f0 := max (max (max (max (max (max a (a + mr0 e n a)) (a + mr1 e n a)) (a + mr2 e n a)) (a + mr3 e n a)) (a + mr4 e n a)) (a + mr5 e n a)) (by omega) (by omega) (fun c6 => ?_)
  refine E_aload_n rfl rfl ?_
  refine E_getfield (v := .ref 82) rfl w65 rfl (by decide) rfl ?_
  refine E_iload_n rfl rfl ?_
  refine E_ialN (l := [112, 105, 101, 99, 101, 32, 0, 112, 101, 114, 115, 111, 110, 32, 0, 99, 111, 115, 116, 32, 0, 104, 97, 115, 32, 0, 98, 97, 99, 107, 32, 0, 103, 114, 101, 101, 100, 121, 0, 98, 101, 115, 116, 0]) (v := 98) rfl w82 (by omega) (by omega) rfl ?_
  refine E_if (t := 121) (b := false) rfl rfl (by decide) ?_
  refine E_iinc (y := nI 40) (L2 := [some (.ref 65), some (.int (nI 40)), some (.int (nI (max (max (max (max (max (max (max a (a + mr0 e n a)) (a + mr1 e n a)) (a + mr2 e n a)) (a + mr3 e n a)) (a + mr4 e n a)) (a + mr5 e n a)) (a + mr6 e n a)))), some (.int (nI 6)), some (.int (nI (a + mr6 e n a))), some (.int c6)]) rfl rfl (by decide) rfl ?_
  refine E_goto (t := 106) rfl rfl ?_
  refine E_aload_n rfl rfl ?_
  refine E_getfield (v := .ref 82) rfl w65 rfl (by decide) rfl ?_
  refine E_iload_n rfl rfl ?_
  refine E_ialN (l := [112, 105, 101, 99, 101, 32, 0, 112, 101, 114, 115, 111, 110, 32, 0, 99, 111, 115, 116, 32, 0, 104, 97, 115, 32, 0, 98, 97, 99, 107, 32, 0, 103, 114, 101, 101, 100, 121, 0, 98, 101, 115, 116, 0]) (v := 101) rfl w82 (by omega) (by omega) rfl ?_
  refine E_if (t := 121) (b := false) rfl rfl (by decide) ?_
  refine E_iinc (y := nI 41) (L2 := [some (.ref 65), some (.int (nI 41)), some (.int (nI (max (max (max (max (max (max (max a (a + mr0 e n a)) (a + mr1 e n a)) (a + mr2 e n a)) (a + mr3 e n a)) (a + mr4 e n a)) (a + mr5 e n a)) (a + mr6 e n a)))), some (.int (nI 6)), some (.int (nI (a + mr6 e n a))), some (.int c6)]) rfl rfl (by decide) rfl ?_
  refine E_goto (t := 106) rfl rfl ?_
  refine E_aload_n rfl rfl ?_
  refine E_getfield (v := .ref 82) rfl w65 rfl (by decide) rfl ?_
  refine E_iload_n rfl rfl ?_
  refine E_ialN (l := [112, 105, 101, 99, 101, 32, 0, 112, 101, 114, 115, 111, 110, 32, 0, 99, 111, 115, 116, 32, 0, 104, 97, 115, 32, 0, 98, 97, 99, 107, 32, 0, 103, 114, 101, 101, 100, 121, 0, 98, 101, 115, 116, 0]) (v := 115) rfl w82 (by omega) (by omega) rfl ?_
  refine E_if (t := 121) (b := false) rfl rfl (by decide) ?_
  refine E_iinc (y := nI 42) (L2 := [some (.ref 65), some (.int (nI 42)), some (.int (nI (max (max (max (max (max (max (max a (a + mr0 e n a)) (a + mr1 e n a)) (a + mr2 e n a)) (a + mr3 e n a)) (a + mr4 e n a)) (a + mr5 e n a)) (a + mr6 e n a)))), some (.int (nI 6)), some (.int (nI (a + mr6 e n a))), some (.int c6)]) rfl rfl (by decide) rfl ?_
  refine E_goto (t := 106) rfl rfl ?_
  refine E_aload_n rfl rfl ?_
  refine E_getfield (v := .ref 82) rfl w65 rfl (by decide) rfl ?_
  refine E_iload_n rfl rfl ?_
  refine E_ialN (l := [112, 105, 101, 99, 101, 32, 0, 112, 101, 114, 115, 111, 110, 32, 0, 99, 111, 115, 116, 32, 0, 104, 97, 115, 32, 0, 98, 97, 99, 107, 32, 0, 103, 114, 101, 101, 100, 121, 0, 98, 101, 115, 116, 0]) (v := 116) rfl w82 (by omega) (by omega) rfl ?_
  refine E_if (t := 121) (b := false) rfl rfl (by decide) ?_
  refine E_iinc (y := nI 43) (L2 := [some (.ref 65), some (.int (nI 43)), some (.int (nI (max (max (max (max (max (max (max a (a + mr0 e n a)) (a + mr1 e n a)) (a + mr2 e n a)) (a + mr3 e n a)) (a + mr4 e n a)) (a + mr5 e n a)) (a + mr6 e n a)))), some (.int (nI 6)), some (.int (nI (a + mr6 e n a))), some (.int c6)]) rfl rfl (by decide) rfl ?_
  refine E_goto (t := 106) rfl rfl ?_
  refine E_aload_n rfl rfl ?_
  refine E_getfield (v := .ref 82) rfl w65 rfl (by decide) rfl ?_
  refine E_iload_n rfl rfl ?_
  refine E_ialN (l := [112, 105, 101, 99, 101, 32, 0, 112, 101, 114, 115, 111, 110, 32, 0, 99, 111, 115, 116, 32, 0, 104, 97, 115, 32, 0, 98, 97, 99, 107, 32, 0, 103, 114, 101, 101, 100, 121, 0, 98, 101, 115, 116, 0]) (v := 0) rfl w82 (by omega) (by omega) rfl ?_
  refine E_if (t := 121) (b := true) rfl rfl (by decide) ?_
  refine E_iinc (y := nI 44) (L2 := [some (.ref 65), some (.int (nI 44)), some (.int (nI (max (max (max (max (max (max (max a (a + mr0 e n a)) (a + mr1 e n a)) (a + mr2 e n a)) (a + mr3 e n a)) (a + mr4 e n a)) (a + mr5 e n a)) (a + mr6 e n a)))), some (.int (nI 6)), some (.int (nI (a + mr6 e n a))), some (.int c6)]) rfl rfl (by decide) rfl ?_
  refine E_iinc (y := nI 7) (L2 := [some (.ref 65), some (.int (nI 44)), some (.int (nI (max (max (max (max (max (max (max a (a + mr0 e n a)) (a + mr1 e n a)) (a + mr2 e n a)) (a + mr3 e n a)) (a + mr4 e n a)) (a + mr5 e n a)) (a + mr6 e n a)))), some (.int (nI 7)), some (.int (nI (a + mr6 e n a))), some (.int c6)]) rfl rfl (by decide) rfl ?_
  refine E_goto (t := 9) rfl rfl ?_
  refine E_iload_n rfl rfl ?_
  refine E_bipush (x := nI 7) rfl (by decide) ?_
  refine E_ic (t := 130) (b := true) rfl rfl (by decide) ?_
  refine E_aload_n rfl rfl ?_
  refine E_iload_n rfl rfl ?_
  refine E_putfield (cs2 := (ww im lf s d k ls rf rz ra rn rq lt m1 m2 m3 m4 bd fc hd sz el q (fUp (fUp (fUp (fUp (fUp (fUp g 27 (nI (160 * j))) 29 (nI n)) 6 (-1)) 28 (nI a)) 30 x30) 31 (nI (max (max (max (max (max (max (max a (a + mr0 e n a)) (a + mr1 e n a)) (a + mr2 e n a)) (a + mr3 e n a)) (a + mr4 e n a)) (a + mr5 e n a)) (a + mr6 e n a)))) fm hm so si sh ce ca td wa kp la bf oo bo pw ow tr)) rfl w65 rfl (by decide) (Nat.le_of_ble_eq_true rfl) rfl rfl rfl (w_pt65_31.trans (by rw [gn31])) ?_
  refine E_iconst (x := (-1)) rfl (by decide) ?_
  exact E_iret rfl rfl
set_option maxHeartbeats 1000000 in
theorem m_wd5 {e : List Int64} {n a j : Nat} {x30 x31 : Int32} {q : ab_q} (hj : j < 8) (hn : n ≤ 160) (ha : a ≤ n) (l_ce : ce.length = 1280) (hce : ∀ p, p < 160 → e.getD p 0 = ce.getD (160 * j + p) 0) (hw : wd e n a = 5) : Ev ab_Z0 1 158 [.ref 65] (ww im lf s d k ls rf rz ra rn rq lt m1 m2 m3 m4 bd fc hd sz el q (fUp (fUp (fUp (fUp (fUp (fUp g 27 (nI (160 * j))) 29 (nI n)) 6 (-1)) 28 (nI a)) 30 x30) 31 x31) fm hm so si sh ce ca td wa kp la bf oo bo pw ow tr) (some (.int (nI 5)), (ww im lf s d k ls rf rz ra rn rq lt m1 m2 m3 m4 bd fc hd sz el q (fUp (fUp (fUp (fUp (fUp (fUp g 27 (nI (160 * j))) 29 (nI n)) 6 (-1)) 28 (nI (a + 6))) 30 x30) 31 x31) fm hm so si sh ce ca td wa kp la bf oo bo pw ow tr)) := by
  have : ([112, 105, 101, 99, 101, 32, 0, 112, 101, 114, 115, 111, 110, 32, 0, 99, 111, 115, 116, 32, 0, 104, 97, 115, 32, 0, 98, 97, 99, 107, 32, 0, 103, 114, 101, 101, 100, 121, 0, 98, 101, 115, 116, 0] : List Nat).length = 44 := rfl
  have hwc := wd_c e n a
  have hs0 := mrS_0 e n a
  have hl0 := mr0_le e n a
  have hs1 := mrS_1 e n a
  have hl1 := mr1_le e n a
  have hs2 := mrS_2 e n a
  have hl2 := mr2_le e n a
  have hs3 := mrS_3 e n a
  have hl3 := mr3_le e n a
  have hs4 := mrS_4 e n a
  have hl4 := mr4_le e n a
  have hs5 := mrS_5 e n a
  have hl5 := mr5_le e n a
  have hs6 := mrS_6 e n a
  have hl6 := mr6_le e n a
  have hu0 : mr0 e n a = mj0 e n a := by rw [hs0]; exact if_neg (fun z => by omega)
  have hj0_ := mj0_le e n a
  have hu1 : mr1 e n a = mj1 e n a := by rw [hs1]; exact if_neg (fun z => by omega)
  have hj1_ := mj1_le e n a
  have hu2 : mr2 e n a = mj2 e n a := by rw [hs2]; exact if_neg (fun z => by omega)
  have hj2_ := mj2_le e n a
  have hu3 : mr3 e n a = mj3 e n a := by rw [hs3]; exact if_neg (fun z => by omega)
  have hj3_ := mj3_le e n a
  have hu4 : mr4 e n a = mj4 e n a := by rw [hs4]; exact if_neg (fun z => by omega)
  have hj4_ := mj4_le e n a
  have hu5 : mr5 e n a = 6 := by omega
  refine Ef.in (md := mX6_word) (L := [some (.ref 65), none, none, none, none, none]) rfl (Nat.le_of_ble_eq_true rfl) rfl ?_
  refine E_iconst (x := nI 0) rfl (by decide) ?_
  refine E_istore_n (L2 := [some (.ref 65), some (.int (nI 0)), none, none, none, none]) rfl rfl ?_
  refine E_aload_n rfl rfl ?_
  refine E_getfield (v := .int (nI a)) rfl w65 rfl (by decide) rfl ?_
  refine E_istore_n (L2 := [some (.ref 65), some (.int (nI 0)), some (.int (nI a)), none, none, none]) rfl rfl ?_
  refine E_iconst (x := nI 0) rfl (by decide) ?_
  refine E_istore_n (L2 := [some (.ref 65), some (.int (nI 0)), some (.int (nI a)), some (.int (nI 0)), none, none]) rfl rfl ?_
  refine E_iload_n rfl rfl ?_
  refine E_bipush (x := nI 7) rfl (by decide) ?_
  refine E_ic (t := 130) (b := false) rfl rfl (by decide) ?_
  refine E_aload_n rfl rfl ?_
  refine E_getfield (v := .int (nI a)) rfl w65 rfl (by decide) rfl ?_
  refine E_istore (L2 := [some (.ref 65), some (.int (nI 0)), some (.int (nI a)), some (.int (nI 0)), some (.int (nI a)), none]) rfl rfl ?_
  refine E_iload_n rfl rfl ?_
  refine E_istore (L2 := [some (.ref 65), some (.int (nI 0)), some (.int (nI a)), some (.int (nI 0)), some (.int (nI a)), some (.int (nI 0))]) rfl rfl ?_
  refine mw_p0 hj hn ha l_ce hce (f0 := a) (by omega) (by omega) (fun c0 => ?_)
  refine E_aload_n rfl rfl ?_
  refine E_getfield (v := .ref 82) rfl w65 rfl (by decide) rfl ?_
  refine E_iload_n rfl rfl ?_
  refine E_ialN (l := [112, 105, 101, 99, 101, 32, 0, 112, 101, 114, 115, 111, 110, 32, 0, 99, 111, 115, 116, 32, 0, 104, 97, 115, 32, 0, 98, 97, 99, 107, 32, 0, 103, 114, 101, 101, 100, 121, 0, 98, 101, 115, 116, 0]) (v := 112) rfl w82 (by omega) (by omega) rfl ?_
  refine E_if (t := 121) (b := false) rfl rfl (by decide) ?_
  refine E_iinc (y := nI 1) (L2 := [some (.ref 65), some (.int (nI 1)), some (.int (nI (max a (a + mr0 e n a)))), some (.int (nI 0)), some (.int (nI (a + mr0 e n a))), some (.int c0)]) rfl rfl (by decide) rfl ?_
  refine E_goto (t := 106) rfl rfl ?_
  refine E_aload_n rfl rfl ?_
  refine E_getfield (v := .ref 82) rfl w65 rfl (by decide) rfl ?_
  refine E_iload_n rfl rfl ?_
  refine E_ialN (l := [112, 105, 101, 99, 101, 32, 0, 112, 101, 114, 115, 111, 110, 32, 0, 99, 111, 115, 116, 32, 0, 104, 97, 115, 32, 0, 98, 97, 99, 107, 32, 0, 103, 114, 101, 101, 100, 121, 0, 98, 101, 115, 116, 0]) (v := 105) rfl w82 (by omega) (by omega) rfl ?_
  refine E_if (t := 121) (b := false) rfl rfl (by decide) ?_
  refine E_iinc (y := nI 2) (L2 := [some (.ref 65), some (.int (nI 2)), some (.int (nI (max a (a + mr0 e n a)))), some (.int (nI 0)), some (.int (nI (a + mr0 e n a))), some (.int c0)]) rfl rfl (by decide) rfl ?_
  refine E_goto (t := 106) rfl rfl ?_
  refine E_aload_n rfl rfl ?_
  refine E_getfield (v := .ref 82) rfl w65 rfl (by decide) rfl ?_
  refine E_iload_n rfl rfl ?_
  refine E_ialN (l := [112, 105, 101, 99, 101, 32, 0, 112, 101, 114, 115, 111, 110, 32, 0, 99, 111, 115, 116, 32, 0, 104, 97, 115, 32, 0, 98, 97, 99, 107, 32, 0, 103, 114, 101, 101, 100, 121, 0, 98, 101, 115, 116, 0]) (v := 101) rfl w82 (by omega) (by omega) rfl ?_
  refine E_if (t := 121) (b := false) rfl rfl (by decide) ?_
  refine E_iinc (y := nI 3) (L2 := [some (.ref 65), some (.int (nI 3)), some (.int (nI (max a (a + mr0 e n a)))), some (.int (nI 0)), some (.int (nI (a + mr0 e n a))), some (.int c0)]) rfl rfl (by decide) rfl ?_
  refine E_goto (t := 106) rfl rfl ?_
  refine E_aload_n rfl rfl ?_
  refine E_getfield (v := .ref 82) rfl w65 rfl (by decide) rfl ?_
  refine E_iload_n rfl rfl ?_
  refine E_ialN (l := [112, 105, 101, 99, 101, 32, 0, 112, 101, 114, 115, 111, 110, 32, 0, 99, 111, 115, 116, 32, 0, 104, 97, 115, 32, 0, 98, 97, 99, 107, 32, 0, 103, 114, 101, 101, 100, 121, 0, 98, 101, 115, 116, 0]) (v := 99) rfl w82 (by omega) (by omega) rfl ?_
  refine E_if (t := 121) (b := false) rfl rfl (by decide) ?_
  refine E_iinc (y := nI 4) (L2 := [some (.ref 65), some (.int (nI 4)), some (.int (nI (max a (a + mr0 e n a)))), some (.int (nI 0)), some (.int (nI (a + mr0 e n a))), some (.int c0)]) rfl rfl (by decide) rfl ?_
  refine E_goto (t := 106) rfl rfl ?_
  refine E_aload_n rfl rfl ?_
  refine E_getfield (v := .ref 82) rfl w65 rfl (by decide) rfl ?_
  refine E_iload_n rfl rfl ?_
  refine E_ialN (l := [112, 105, 101, 99, 101, 32, 0, 112, 101, 114, 115, 111, 110, 32, 0, 99, 111, 115, 116, 32, 0, 104, 97, 115, 32, 0, 98, 97, 99, 107, 32, 0, 103, 114, 101, 101, 100, 121, 0, 98, 101, 115, 116, 0]) (v := 101) rfl w82 (by omega) (by omega) rfl ?_
  refine E_if (t := 121) (b := false) rfl rfl (by decide) ?_
  refine E_iinc (y := nI 5) (L2 := [some (.ref 65), some (.int (nI 5)), some (.int (nI (max a (a + mr0 e n a)))), some (.int (nI 0)), some (.int (nI (a + mr0 e n a))), some (.int c0)]) rfl rfl (by decide) rfl ?_
  refine E_goto (t := 106) rfl rfl ?_
  refine E_aload_n rfl rfl ?_
  refine E_getfield (v := .ref 82) rfl w65 rfl (by decide) rfl ?_
  refine E_iload_n rfl rfl ?_
  refine E_ialN (l := [112, 105, 101, 99, 101, 32, 0, 112, 101, 114, 115, 111, 110, 32, 0, 99, 111, 115, 116, 32, 0, 104, 97, 115, 32, 0, 98, 97, 99, 107, 32, 0, 103, 114, 101, 101, 100, 121, 0, 98, 101, 115, 116, 0]) (v := 32) rfl w82 (by omega) (by omega) rfl ?_
  refine E_if (t := 121) (b := false) rfl rfl (by decide) ?_
  refine E_iinc (y := nI 6) (L2 := [some (.ref 65), some (.int (nI 6)), some (.int (nI (max a (a + mr0 e n a)))), some (.int (nI 0)), some (.int (nI (a + mr0 e n a))), some (.int c0)]) rfl rfl (by decide) rfl ?_
  refine E_goto (t := 106) rfl rfl ?_
  refine E_aload_n rfl rfl ?_
  refine E_getfield (v := .ref 82) rfl w65 rfl (by decide) rfl ?_
  refine E_iload_n rfl rfl ?_
  refine E_ialN (l := [112, 105, 101, 99, 101, 32, 0, 112, 101, 114, 115, 111, 110, 32, 0, 99, 111, 115, 116, 32, 0, 104, 97, 115, 32, 0, 98, 97, 99, 107, 32, 0, 103, 114, 101, 101, 100, 121, 0, 98, 101, 115, 116, 0]) (v := 0) rfl w82 (by omega) (by omega) rfl ?_
  refine E_if (t := 121) (b := true) rfl rfl (by decide) ?_
  refine E_iinc (y := nI 7) (L2 := [some (.ref 65), some (.int (nI 7)), some (.int (nI (max a (a + mr0 e n a)))), some (.int (nI 0)), some (.int (nI (a + mr0 e n a))), some (.int c0)]) rfl rfl (by decide) rfl ?_
  refine E_iinc (y := nI 1) (L2 := [some (.ref 65), some (.int (nI 7)), some (.int (nI (max a (a + mr0 e n a)))), some (.int (nI 1)), some (.int (nI (a + mr0 e n a))), some (.int c0)]) rfl rfl (by decide) rfl ?_
  refine E_goto (t := 9) rfl rfl ?_
  refine E_iload_n rfl rfl ?_
  refine E_bipush (x := nI 7) rfl (by decide) ?_
  refine E_ic (t := 130) (b := false) rfl rfl (by decide) ?_
  refine E_aload_n rfl rfl ?_
  refine E_getfield (v := .int (nI a)) rfl w65 rfl (by decide) rfl ?_
  refine E_istore (L2 := [some (.ref 65), some (.int (nI 7)), some (.int (nI (max a (a + mr0 e n a)))), some (.int (nI 1)), some (.int (nI a)), some (.int c0)]) rfl rfl ?_
  refine E_iload_n rfl rfl ?_
  refine E_istore (L2 := [some (.ref 65), some (.int (nI 7)), some (.int (nI (max a (a + mr0 e n a)))), some (.int (nI 1)), some (.int (nI a)), some (.int (nI 7))]) rfl rfl ?_
  refine mw_p1 hj hn ha l_ce hce (f0 := max a (a + mr0 e n a)) (by omega) (by omega) (fun c1 => ?_)
  refine E_aload_n rfl rfl ?_
  refine E_getfield (v := .ref 82) rfl w65 rfl (by decide) rfl ?_
  refine E_iload_n rfl rfl ?_
  refine E_ialN (l := [112, 105, 101, 99, 101, 32, 0, 112, 101, 114, 115, 111, 110, 32, 0, 99, 111, 115, 116, 32, 0, 104, 97, 115, 32, 0, 98, 97, 99, 107, 32, 0, 103, 114, 101, 101, 100, 121, 0, 98, 101, 115, 116, 0]) (v := 112) rfl w82 (by omega) (by omega) rfl ?_
  refine E_if (t := 121) (b := false) rfl rfl (by decide) ?_
  refine E_iinc (y := nI 8) (L2 := [some (.ref 65), some (.int (nI 8)), some (.int (nI (max (max a (a + mr0 e n a)) (a + mr1 e n a)))), some (.int (nI 1)), some (.int (nI (a + mr1 e n a))), some (.int c1)]) rfl rfl (by decide) rfl ?_
  refine E_goto (t := 106) rfl rfl ?_
  refine E_aload_n rfl rfl ?_
  refine E_getfield (v := .ref 82) rfl w65 rfl (by decide) rfl ?_
  refine E_iload_n rfl rfl ?_
  refine E_ialN (l := [112, 105, 101, 99, 101, 32, 0, 112, 101, 114, 115, 111, 110, 32, 0, 99, 111, 115, 116, 32, 0, 104, 97, 115, 32, 0, 98, 97, 99, 107, 32, 0, 103, 114, 101, 101, 100, 121, 0, 98, 101, 115, 116, 0]) (v := 101) rfl w82 (by omega) (by omega) rfl ?_
  refine E_if (t := 121) (b := false) rfl rfl (by decide) ?_
  refine E_iinc (y := nI 9) (L2 := [some (.ref 65), some (.int (nI 9)), some (.int (nI (max (max a (a + mr0 e n a)) (a + mr1 e n a)))), some (.int (nI 1)), some (.int (nI (a + mr1 e n a))), some (.int c1)]) rfl rfl (by decide) rfl ?_
  refine E_goto (t := 106) rfl rfl ?_
  refine E_aload_n rfl rfl ?_
  refine E_getfield (v := .ref 82) rfl w65 rfl (by decide) rfl ?_
  refine E_iload_n rfl rfl ?_
  refine E_ialN (l := [112, 105, 101, 99, 101, 32, 0, 112, 101, 114, 115, 111, 110, 32, 0, 99, 111, 115, 116, 32, 0, 104, 97, 115, 32, 0, 98, 97, 99, 107, 32, 0, 103, 114, 101, 101, 100, 121, 0, 98, 101, 115, 116, 0]) (v := 114) rfl w82 (by omega) (by omega) rfl ?_
  refine E_if (t := 121) (b := false) rfl rfl (by decide) ?_
  refine E_iinc (y := nI 10) (L2 := [some (.ref 65), some (.int (nI 10)), some (.int (nI (max (max a (a + mr0 e n a)) (a + mr1 e n a)))), some (.int (nI 1)), some (.int (nI (a + mr1 e n a))), some (.int c1)]) rfl rfl (by decide) rfl ?_
  refine E_goto (t := 106) rfl rfl ?_
  refine E_aload_n rfl rfl ?_
  refine E_getfield (v := .ref 82) rfl w65 rfl (by decide) rfl ?_
  refine E_iload_n rfl rfl ?_
  refine E_ialN (l := [112, 105, 101, 99, 101, 32, 0, 112, 101, 114, 115, 111, 110, 32, 0, 99, 111, 115, 116, 32, 0, 104, 97, 115, 32, 0, 98, 97, 99, 107, 32, 0, 103, 114, 101, 101, 100, 121, 0, 98, 101, 115, 116, 0]) (v := 115) rfl w82 (by omega) (by omega) rfl ?_
  refine E_if (t := 121) (b := false) rfl rfl (by decide) ?_
  refine E_iinc (y := nI 11) (L2 := [some (.ref 65), some (.int (nI 11)), some (.int (nI (max (max a (a + mr0 e n a)) (a + mr1 e n a)))), some (.int (nI 1)), some (.int (nI (a + mr1 e n a))), some (.int c1)]) rfl rfl (by decide) rfl ?_
  refine E_goto (t := 106) rfl rfl ?_
  refine E_aload_n rfl rfl ?_
  refine E_getfield (v := .ref 82) rfl w65 rfl (by decide) rfl ?_
  refine E_iload_n rfl rfl ?_
  refine E_ialN (l := [112, 105, 101, 99, 101, 32, 0, 112, 101, 114, 115, 111, 110, 32, 0, 99, 111, 115, 116, 32, 0, 104, 97, 115, 32, 0, 98, 97, 99, 107, 32, 0, 103, 114, 101, 101, 100, 121, 0, 98, 101, 115, 116, 0]) (v := 111) rfl w82 (by omega) (by omega) rfl ?_
  refine E_if (t := 121) (b := false) rfl rfl (by decide) ?_
  refine E_iinc (y := nI 12) (L2 := [some (.ref 65), some (.int (nI 12)), some (.int (nI (max (max a (a + mr0 e n a)) (a + mr1 e n a)))), some (.int (nI 1)), some (.int (nI (a + mr1 e n a))), some (.int c1)]) rfl rfl (by decide) rfl ?_
  refine E_goto (t := 106) rfl rfl ?_
  refine E_aload_n rfl rfl ?_
  refine E_getfield (v := .ref 82) rfl w65 rfl (by decide) rfl ?_
  refine E_iload_n rfl rfl ?_
  refine E_ialN (l := [112, 105, 101, 99, 101, 32, 0, 112, 101, 114, 115, 111, 110, 32, 0, 99, 111, 115, 116, 32, 0, 104, 97, 115, 32, 0, 98, 97, 99, 107, 32, 0, 103, 114, 101, 101, 100, 121, 0, 98, 101, 115, 116, 0]) (v := 110) rfl w82 (by omega) (by omega) rfl ?_
  refine E_if (t := 121) (b := false) rfl rfl (by decide) ?_
  refine E_iinc (y := nI 13) (L2 := [some (.ref 65), some (.int (nI 13)), some (.int (nI (max (max a (a + mr0 e n a)) (a + mr1 e n a)))), some (.int (nI 1)), some (.int (nI (a + mr1 e n a))), some (.int c1)]) rfl rfl (by decide) rfl ?_
  refine E_goto (t := 106) rfl rfl ?_
  refine E_aload_n rfl rfl ?_
  refine E_getfield (v := .ref 82) rfl w65 rfl (by decide) rfl ?_
  refine E_iload_n rfl rfl ?_
  refine E_ialN (l := [112, 105, 101, 99, 101, 32, 0, 112, 101, 114, 115, 111, 110, 32, 0, 99, 111, 115, 116, 32, 0, 104, 97, 115, 32, 0, 98, 97, 99, 107, 32, 0, 103, 114, 101, 101, 100, 121, 0, 98, 101, 115, 116, 0]) (v := 32) rfl w82 (by omega) (by omega) rfl ?_
  refine E_if (t := 121) (b := false) rfl rfl (by decide) ?_
  refine E_iinc (y := nI 14) (L2 := [some (.ref 65), some (.int (nI 14)), some (.int (nI (max (max a (a + mr0 e n a)) (a + mr1 e n a)))), some (.int (nI 1)), some (.int (nI (a + mr1 e n a))), some (.int c1)]) rfl rfl (by decide) rfl ?_
  refine E_goto (t := 106) rfl rfl ?_
  refine E_aload_n rfl rfl ?_
  refine E_getfield (v := .ref 82) rfl w65 rfl (by decide) rfl ?_
  refine E_iload_n rfl rfl ?_
  refine E_ialN (l := [112, 105, 101, 99, 101, 32, 0, 112, 101, 114, 115, 111, 110, 32, 0, 99, 111, 115, 116, 32, 0, 104, 97, 115, 32, 0, 98, 97, 99, 107, 32, 0, 103, 114, 101, 101, 100, 121, 0, 98, 101, 115, 116, 0]) (v := 0) rfl w82 (by omega) (by omega) rfl ?_
  refine E_if (t := 121) (b := true) rfl rfl (by decide) ?_
  refine E_iinc (y := nI 15) (L2 := [some (.ref 65), some (.int (nI 15)), some (.int (nI (max (max a (a + mr0 e n a)) (a + mr1 e n a)))), some (.int (nI 1)), some (.int (nI (a + mr1 e n a))), some (.int c1)]) rfl rfl (by decide) rfl ?_
  refine E_iinc (y := nI 2) (L2 := [some (.ref 65), some (.int (nI 15)), some (.int (nI (max (max a (a + mr0 e n a)) (a + mr1 e n a)))), some (.int (nI 2)), some (.int (nI (a + mr1 e n a))), some (.int c1)]) rfl rfl (by decide) rfl ?_
  refine E_goto (t := 9) rfl rfl ?_
  refine E_iload_n rfl rfl ?_
  refine E_bipush (x := nI 7) rfl (by decide) ?_
  refine E_ic (t := 130) (b := false) rfl rfl (by decide) ?_
  refine E_aload_n rfl rfl ?_
  refine E_getfield (v := .int (nI a)) rfl w65 rfl (by decide) rfl ?_
  refine E_istore (L2 := [some (.ref 65), some (.int (nI 15)), some (.int (nI (max (max a (a + mr0 e n a)) (a + mr1 e n a)))), some (.int (nI 2)), some (.int (nI a)), some (.int c1)]) rfl rfl ?_
  refine E_iload_n rfl rfl ?_
  refine E_istore (L2 := [some (.ref 65), some (.int (nI 15)), some (.int (nI (max (max a (a + mr0 e n a)) (a + mr1 e n a)))), some (.int (nI 2)), some (.int (nI a)), some (.int (nI 15))]) rfl rfl ?_
  refine mw_p2 hj hn ha l_ce hce (f0 := max (max a (a + mr0 e n a)) (a + mr1 e n a)) (by omega) (by omega) (fun c2 => ?_)
  refine E_aload_n rfl rfl ?_
  refine E_getfield (v := .ref 82) rfl w65 rfl (by decide) rfl ?_
  refine E_iload_n rfl rfl ?_
  refine E_ialN (l := [112, 105, 101, 99, 101, 32, 0, 112, 101, 114, 115, 111, 110, 32, 0, 99, 111, 115, 116, 32, 0, 104, 97, 115, 32, 0, 98, 97, 99, 107, 32, 0, 103, 114, 101, 101, 100, 121, 0, 98, 101, 115, 116, 0]) (v := 99) rfl w82 (by omega) (by omega) rfl ?_
  refine E_if (t := 121) (b := false) rfl rfl (by decide) ?_
  refine E_iinc (y := nI 16) (L2 := [some (.ref 65), some (.int (nI 16)), some (.int (nI (max (max (max a (a + mr0 e n a)) (a + mr1 e n a)) (a + mr2 e n a)))), some (.int (nI 2)), some (.int (nI (a + mr2 e n a))), some (.int c2)]) rfl rfl (by decide) rfl ?_
  refine E_goto (t := 106) rfl rfl ?_
  refine E_aload_n rfl rfl ?_
  refine E_getfield (v := .ref 82) rfl w65 rfl (by decide) rfl ?_
  refine E_iload_n rfl rfl ?_
  refine E_ialN (l := [112, 105, 101, 99, 101, 32, 0, 112, 101, 114, 115, 111, 110, 32, 0, 99, 111, 115, 116, 32, 0, 104, 97, 115, 32, 0, 98, 97, 99, 107, 32, 0, 103, 114, 101, 101, 100, 121, 0, 98, 101, 115, 116, 0]) (v := 111) rfl w82 (by omega) (by omega) rfl ?_
  refine E_if (t := 121) (b := false) rfl rfl (by decide) ?_
  refine E_iinc (y := nI 17) (L2 := [some (.ref 65), some (.int (nI 17)), some (.int (nI (max (max (max a (a + mr0 e n a)) (a + mr1 e n a)) (a + mr2 e n a)))), some (.int (nI 2)), some (.int (nI (a + mr2 e n a))), some (.int c2)]) rfl rfl (by decide) rfl ?_
  refine E_goto (t := 106) rfl rfl ?_
  refine E_aload_n rfl rfl ?_
  refine E_getfield (v := .ref 82) rfl w65 rfl (by decide) rfl ?_
  refine E_iload_n rfl rfl ?_
  refine E_ialN (l := [112, 105, 101, 99, 101, 32, 0, 112, 101, 114, 115, 111, 110, 32, 0, 99, 111, 115, 116, 32, 0, 104, 97, 115, 32, 0, 98, 97, 99, 107, 32, 0, 103, 114, 101, 101, 100, 121, 0, 98, 101, 115, 116, 0]) (v := 115) rfl w82 (by omega) (by omega) rfl ?_
  refine E_if (t := 121) (b := false) rfl rfl (by decide) ?_
  refine E_iinc (y := nI 18) (L2 := [some (.ref 65), some (.int (nI 18)), some (.int (nI (max (max (max a (a + mr0 e n a)) (a + mr1 e n a)) (a + mr2 e n a)))), some (.int (nI 2)), some (.int (nI (a + mr2 e n a))), some (.int c2)]) rfl rfl (by decide) rfl ?_
  refine E_goto (t := 106) rfl rfl ?_
  refine E_aload_n rfl rfl ?_
  refine E_getfield (v := .ref 82) rfl w65 rfl (by decide) rfl ?_
  refine E_iload_n rfl rfl ?_
  refine E_ialN (l := [112, 105, 101, 99, 101, 32, 0, 112, 101, 114, 115, 111, 110, 32, 0, 99, 111, 115, 116, 32, 0, 104, 97, 115, 32, 0, 98, 97, 99, 107, 32, 0, 103, 114, 101, 101, 100, 121, 0, 98, 101, 115, 116, 0]) (v := 116) rfl w82 (by omega) (by omega) rfl ?_
  refine E_if (t := 121) (b := false) rfl rfl (by decide) ?_
  refine E_iinc (y := nI 19) (L2 := [some (.ref 65), some (.int (nI 19)), some (.int (nI (max (max (max a (a + mr0 e n a)) (a + mr1 e n a)) (a + mr2 e n a)))), some (.int (nI 2)), some (.int (nI (a + mr2 e n a))), some (.int c2)]) rfl rfl (by decide) rfl ?_
  refine E_goto (t := 106) rfl rfl ?_
  refine E_aload_n rfl rfl ?_
  refine E_getfield (v := .ref 82) rfl w65 rfl (by decide) rfl ?_
  refine E_iload_n rfl rfl ?_
  refine E_ialN (l := [112, 105, 101, 99, 101, 32, 0, 112, 101, 114, 115, 111, 110, 32, 0, 99, 111, 115, 116, 32, 0, 104, 97, 115, 32, 0, 98, 97, 99, 107, 32, 0, 103, 114, 101, 101, 100, 121, 0, 98, 101, 115, 116, 0]) (v := 32) rfl w82 (by omega) (by omega) rfl ?_
  refine E_if (t := 121) (b := false) rfl rfl (by decide) ?_
  refine E_iinc (y := nI 20) (L2 := [some (.ref 65), some (.int (nI 20)), some (.int (nI (max (max (max a (a + mr0 e n a)) (a + mr1 e n a)) (a + mr2 e n a)))), some (.int (nI 2)), some (.int (nI (a + mr2 e n a))), some (.int c2)]) rfl rfl (by decide) rfl ?_
  refine E_goto (t := 106) rfl rfl ?_
  refine E_aload_n rfl rfl ?_
  refine E_getfield (v := .ref 82) rfl w65 rfl (by decide) rfl ?_
  refine E_iload_n rfl rfl ?_
  refine E_ialN (l := [112, 105, 101, 99, 101, 32, 0, 112, 101, 114, 115, 111, 110, 32, 0, 99, 111, 115, 116, 32, 0, 104, 97, 115, 32, 0, 98, 97, 99, 107, 32, 0, 103, 114, 101, 101, 100, 121, 0, 98, 101, 115, 116, 0]) (v := 0) rfl w82 (by omega) (by omega) rfl ?_
  refine E_if (t := 121) (b := true) rfl rfl (by decide) ?_
  refine E_iinc (y := nI 21) (L2 := [some (.ref 65), some (.int (nI 21)), some (.int (nI (max (max (max a (a + mr0 e n a)) (a + mr1 e n a)) (a + mr2 e n a)))), some (.int (nI 2)), some (.int (nI (a + mr2 e n a))), some (.int c2)]) rfl rfl (by decide) rfl ?_
  refine E_iinc (y := nI 3) (L2 := [some (.ref 65), some (.int (nI 21)), some (.int (nI (max (max (max a (a + mr0 e n a)) (a + mr1 e n a)) (a + mr2 e n a)))), some (.int (nI 3)), some (.int (nI (a + mr2 e n a))), some (.int c2)]) rfl rfl (by decide) rfl ?_
  refine E_goto (t := 9) rfl rfl ?_
  refine E_iload_n rfl rfl ?_
  refine E_bipush (x := nI 7) rfl (by decide) ?_
  refine E_ic (t := 130) (b := false) rfl rfl (by decide) ?_
  refine E_aload_n rfl rfl ?_
  refine E_getfield (v := .int (nI a)) rfl w65 rfl (by decide) rfl ?_
  refine E_istore (L2 := [some (.ref 65), some (.int (nI 21)), some (.int (nI (max (max (max a (a + mr0 e n a)) (a + mr1 e n a)) (a + mr2 e n a)))), some (.int (nI 3)), some (.int (nI a)), some (.int c2)]) rfl rfl ?_
  refine E_iload_n rfl rfl ?_
  refine E_istore (L2 := [some (.ref 65), some (.int (nI 21)), some (.int (nI (max (max (max a (a + mr0 e n a)) (a + mr1 e n a)) (a + mr2 e n a)))), some (.int (nI 3)), some (.int (nI a)), some (.int (nI 21))]) rfl rfl ?_
  refine mw_p3 hj hn ha l_ce hce (f0 := max (max (max a (a + mr0 e n a)) (a + mr1 e n a)) (a + mr2 e n a)) (by omega) (by omega) (fun c3 => ?_)
  refine E_aload_n rfl rfl ?_
  refine E_getfield (v := .ref 82) rfl w65 rfl (by decide) rfl ?_
  refine E_iload_n rfl rfl ?_
  refine E_ialN (l := [112, 105, 101, 99, 101, 32, 0, 112, 101, 114, 115, 111, 110, 32, 0, 99, 111, 115, 116, 32, 0, 104, 97, 115, 32, 0, 98, 97, 99, 107, 32, 0, 103, 114, 101, 101, 100, 121, 0, 98, 101, 115, 116, 0]) (v := 104) rfl w82 (by omega) (by omega) rfl ?_
  refine E_if (t := 121) (b := false) rfl rfl (by decide) ?_
  refine E_iinc (y := nI 22) (L2 := [some (.ref 65), some (.int (nI 22)), some (.int (nI (max (max (max (max a (a + mr0 e n a)) (a + mr1 e n a)) (a + mr2 e n a)) (a + mr3 e n a)))), some (.int (nI 3)), some (.int (nI (a + mr3 e n a))), some (.int c3)]) rfl rfl (by decide) rfl ?_
  refine E_goto (t := 106) rfl rfl ?_
  refine E_aload_n rfl rfl ?_
  refine E_getfield (v := .ref 82) rfl w65 rfl (by decide) rfl ?_
  refine E_iload_n rfl rfl ?_
  refine E_ialN (l := [112, 105, 101, 99, 101, 32, 0, 112, 101, 114, 115, 111, 110, 32, 0, 99, 111, 115, 116, 32, 0, 104, 97, 115, 32, 0, 98, 97, 99, 107, 32, 0, 103, 114, 101, 101, 100, 121, 0, 98, 101, 115, 116, 0]) (v := 97) rfl w82 (by omega) (by omega) rfl ?_
  refine E_if (t := 121) (b := false) rfl rfl (by decide) ?_
  refine E_iinc (y := nI 23) (L2 := [some (.ref 65), some (.int (nI 23)), some (.int (nI (max (max (max (max a (a + mr0 e n a)) (a + mr1 e n a)) (a + mr2 e n a)) (a + mr3 e n a)))), some (.int (nI 3)), some (.int (nI (a + mr3 e n a))), some (.int c3)]) rfl rfl (by decide) rfl ?_
  refine E_goto (t := 106) rfl rfl ?_
  refine E_aload_n rfl rfl ?_
  refine E_getfield (v := .ref 82) rfl w65 rfl (by decide) rfl ?_
  refine E_iload_n rfl rfl ?_
  refine E_ialN (l := [112, 105, 101, 99, 101, 32, 0, 112, 101, 114, 115, 111, 110, 32, 0, 99, 111, 115, 116, 32, 0, 104, 97, 115, 32, 0, 98, 97, 99, 107, 32, 0, 103, 114, 101, 101, 100, 121, 0, 98, 101, 115, 116, 0]) (v := 115) rfl w82 (by omega) (by omega) rfl ?_
  refine E_if (t := 121) (b := false) rfl rfl (by decide) ?_
  refine E_iinc (y := nI 24) (L2 := [some (.ref 65), some (.int (nI 24)), some (.int (nI (max (max (max (max a (a + mr0 e n a)) (a + mr1 e n a)) (a + mr2 e n a)) (a + mr3 e n a)))), some (.int (nI 3)), some (.int (nI (a + mr3 e n a))), some (.int c3)]) rfl rfl (by decide) rfl ?_
  refine E_goto (t := 106) rfl rfl ?_
  refine E_aload_n rfl rfl ?_
  refine E_getfield (v := .ref 82) rfl w65 rfl (by decide) rfl ?_
  refine E_iload_n rfl rfl ?_
  refine E_ialN (l := [112, 105, 101, 99, 101, 32, 0, 112, 101, 114, 115, 111, 110, 32, 0, 99, 111, 115, 116, 32, 0, 104, 97, 115, 32, 0, 98, 97, 99, 107, 32, 0, 103, 114, 101, 101, 100, 121, 0, 98, 101, 115, 116, 0]) (v := 32) rfl w82 (by omega) (by omega) rfl ?_
  refine E_if (t := 121) (b := false) rfl rfl (by decide) ?_
  refine E_iinc (y := nI 25) (L2 := [some (.ref 65), some (.int (nI 25)), some (.int (nI (max (max (max (max a (a + mr0 e n a)) (a + mr1 e n a)) (a + mr2 e n a)) (a + mr3 e n a)))), some (.int (nI 3)), some (.int (nI (a + mr3 e n a))), some (.int c3)]) rfl rfl (by decide) rfl ?_
  refine E_goto (t := 106) rfl rfl ?_
  refine E_aload_n rfl rfl ?_
  refine E_getfield (v := .ref 82) rfl w65 rfl (by decide) rfl ?_
  refine E_iload_n rfl rfl ?_
  refine E_ialN (l := [112, 105, 101, 99, 101, 32, 0, 112, 101, 114, 115, 111, 110, 32, 0, 99, 111, 115, 116, 32, 0, 104, 97, 115, 32, 0, 98, 97, 99, 107, 32, 0, 103, 114, 101, 101, 100, 121, 0, 98, 101, 115, 116, 0]) (v := 0) rfl w82 (by omega) (by omega) rfl ?_
  refine E_if (t := 121) (b := true) rfl rfl (by decide) ?_
  refine E_iinc (y := nI 26) (L2 := [some (.ref 65), some (.int (nI 26)), some (.int (nI (max (max (max (max a (a + mr0 e n a)) (a + mr1 e n a)) (a + mr2 e n a)) (a + mr3 e n a)))), some (.int (nI 3)), some (.int (nI (a + mr3 e n a))), some (.int c3)]) rfl rfl (by decide) rfl ?_
  refine E_iinc (y := nI 4) (L2 := [some (.ref 65), some (.int (nI 26)), some (.int (nI (max (max (max (max a (a + mr0 e n a)) (a + mr1 e n a)) (a + mr2 e n a)) (a + mr3 e n a)))), some (.int (nI 4)), some (.int (nI (a + mr3 e n a))), some (.int c3)]) rfl rfl (by decide) rfl ?_
  refine E_goto (t := 9) rfl rfl ?_
  refine E_iload_n rfl rfl ?_
  refine E_bipush (x := nI 7) rfl (by decide) ?_
  refine E_ic (t := 130) (b := false) rfl rfl (by decide) ?_
  refine E_aload_n rfl rfl ?_
  refine E_getfield (v := .int (nI a)) rfl w65 rfl (by decide) rfl ?_
  refine E_istore (L2 := [some (.ref 65), some (.int (nI 26)), some (.int (nI (max (max (max (max a (a + mr0 e n a)) (a + mr1 e n a)) (a + mr2 e n a)) (a + mr3 e n a)))), some (.int (nI 4)), some (.int (nI a)), some (.int c3)]) rfl rfl ?_
  refine E_iload_n rfl rfl ?_
  refine E_istore (L2 := [some (.ref 65), some (.int (nI 26)), some (.int (nI (max (max (max (max a (a + mr0 e n a)) (a + mr1 e n a)) (a + mr2 e n a)) (a + mr3 e n a)))), some (.int (nI 4)), some (.int (nI a)), some (.int (nI 26))]) rfl rfl ?_
  refine mw_p4 hj hn ha l_ce hce (f0 := max (max (max (max a (a + mr0 e n a)) (a + mr1 e n a)) (a + mr2 e n a)) (a + mr3 e n a)) (by omega) (by omega) (fun c4 => ?_)
  refine E_aload_n rfl rfl ?_
  refine E_getfield (v := .ref 82) rfl w65 rfl (by decide) rfl ?_
  refine E_iload_n rfl rfl ?_
  refine E_ialN (l := [112, 105, 101, 99, 101, 32, 0, 112, 101, 114, 115, 111, 110, 32, 0, 99, 111, 115, 116, 32, 0, 104, 97, 115, 32, 0, 98, 97, 99, 107, 32, 0, 103, 114, 101, 101, 100, 121, 0, 98, 101, 115, 116, 0]) (v := 98) rfl w82 (by omega) (by omega) rfl ?_
  refine E_if (t := 121) (b := false) rfl rfl (by decide) ?_
  refine E_iinc (y := nI 27) (L2 := [some (.ref 65), some (.int (nI 27)), some (.int (nI (max (max (max (max (max a (a + mr0 e n a)) (a + mr1 e n a)) (a + mr2 e n a)) (a + mr3 e n a)) (a + mr4 e n a)))), some (.int (nI 4)), some (.int (nI (a + mr4 e n a))), some (.int c4)]) rfl rfl (by decide) rfl ?_
  refine E_goto (t := 106) rfl rfl ?_
  refine E_aload_n rfl rfl ?_
  refine E_getfield (v := .ref 82) rfl w65 rfl (by decide) rfl ?_
  refine E_iload_n rfl rfl ?_
  refine E_ialN (l := [112, 105, 101, 99, 101, 32, 0, 112, 101, 114, 115, 111, 110, 32, 0, 99, 111, 115, 116, 32, 0, 104, 97, 115, 32, 0, 98, 97, 99, 107, 32, 0, 103, 114, 101, 101, 100, 121, 0, 98, 101, 115, 116, 0]) (v := 97) rfl w82 (by omega) (by omega) rfl ?_
  refine E_if (t := 121) (b := false) rfl rfl (by decide) ?_
  refine E_iinc (y := nI 28) (L2 := [some (.ref 65), some (.int (nI 28)), some (.int (nI (max (max (max (max (max a (a + mr0 e n a)) (a + mr1 e n a)) (a + mr2 e n a)) (a + mr3 e n a)) (a + mr4 e n a)))), some (.int (nI 4)), some (.int (nI (a + mr4 e n a))), some (.int c4)]) rfl rfl (by decide) rfl ?_
  refine E_goto (t := 106) rfl rfl ?_
  refine E_aload_n rfl rfl ?_
  refine E_getfield (v := .ref 82) rfl w65 rfl (by decide) rfl ?_
  refine E_iload_n rfl rfl ?_
  refine E_ialN (l := [112, 105, 101, 99, 101, 32, 0, 112, 101, 114, 115, 111, 110, 32, 0, 99, 111, 115, 116, 32, 0, 104, 97, 115, 32, 0, 98, 97, 99, 107, 32, 0, 103, 114, 101, 101, 100, 121, 0, 98, 101, 115, 116, 0]) (v := 99) rfl w82 (by omega) (by omega) rfl ?_
  refine E_if (t := 121) (b := false) rfl rfl (by decide) ?_
  refine E_iinc (y := nI 29) (L2 := [some (.ref 65), some (.int (nI 29)), some (.int (nI (max (max (max (max (max a (a + mr0 e n a)) (a + mr1 e n a)) (a + mr2 e n a)) (a + mr3 e n a)) (a + mr4 e n a)))), some (.int (nI 4)), some (.int (nI (a + mr4 e n a))), some (.int c4)]) rfl rfl (by decide) rfl ?_
  refine E_goto (t := 106) rfl rfl ?_
  refine E_aload_n rfl rfl ?_
  refine E_getfield (v := .ref 82) rfl w65 rfl (by decide) rfl ?_
  refine E_iload_n rfl rfl ?_
  refine E_ialN (l := [112, 105, 101, 99, 101, 32, 0, 112, 101, 114, 115, 111, 110, 32, 0, 99, 111, 115, 116, 32, 0, 104, 97, 115, 32, 0, 98, 97, 99, 107, 32, 0, 103, 114, 101, 101, 100, 121, 0, 98, 101, 115, 116, 0]) (v := 107) rfl w82 (by omega) (by omega) rfl ?_
  refine E_if (t := 121) (b := false) rfl rfl (by decide) ?_
  refine E_iinc (y := nI 30) (L2 := [some (.ref 65), some (.int (nI 30)), some (.int (nI (max (max (max (max (max a (a + mr0 e n a)) (a + mr1 e n a)) (a + mr2 e n a)) (a + mr3 e n a)) (a + mr4 e n a)))), some (.int (nI 4)), some (.int (nI (a + mr4 e n a))), some (.int c4)]) rfl rfl (by decide) rfl ?_
  refine E_goto (t := 106) rfl rfl ?_
  refine E_aload_n rfl rfl ?_
  refine E_getfield (v := .ref 82) rfl w65 rfl (by decide) rfl ?_
  refine E_iload_n rfl rfl ?_
  refine E_ialN (l := [112, 105, 101, 99, 101, 32, 0, 112, 101, 114, 115, 111, 110, 32, 0, 99, 111, 115, 116, 32, 0, 104, 97, 115, 32, 0, 98, 97, 99, 107, 32, 0, 103, 114, 101, 101, 100, 121, 0, 98, 101, 115, 116, 0]) (v := 32) rfl w82 (by omega) (by omega) rfl ?_
  refine E_if (t := 121) (b := false) rfl rfl (by decide) ?_
  refine E_iinc (y := nI 31) (L2 := [some (.ref 65), some (.int (nI 31)), some (.int (nI (max (max (max (max (max a (a + mr0 e n a)) (a + mr1 e n a)) (a + mr2 e n a)) (a + mr3 e n a)) (a + mr4 e n a)))), some (.int (nI 4)), some (.int (nI (a + mr4 e n a))), some (.int c4)]) rfl rfl (by decide) rfl ?_
  refine E_goto (t := 106) rfl rfl ?_
  refine E_aload_n rfl rfl ?_
  refine E_getfield (v := .ref 82) rfl w65 rfl (by decide) rfl ?_
  refine E_iload_n rfl rfl ?_
  refine E_ialN (l := [112, 105, 101, 99, 101, 32, 0, 112, 101, 114, 115, 111, 110, 32, 0, 99, 111, 115, 116, 32, 0, 104, 97, 115, 32, 0, 98, 97, 99, 107, 32, 0, 103, 114, 101, 101, 100, 121, 0, 98, 101, 115, 116, 0]) (v := 0) rfl w82 (by omega) (by omega) rfl ?_
  refine E_if (t := 121) (b := true) rfl rfl (by decide) ?_
  refine E_iinc (y := nI 32) (L2 := [some (.ref 65), some (.int (nI 32)), some (.int (nI (max (max (max (max (max a (a + mr0 e n a)) (a + mr1 e n a)) (a + mr2 e n a)) (a + mr3 e n a)) (a + mr4 e n a)))), some (.int (nI 4)), some (.int (nI (a + mr4 e n a))), some (.int c4)]) rfl rfl (by decide) rfl ?_
  refine E_iinc (y := nI 5) (L2 := [some (.ref 65), some (.int (nI 32)), some (.int (nI (max (max (max (max (max a (a + mr0 e n a)) (a + mr1 e n a)) (a + mr2 e n a)) (a + mr3 e n a)) (a + mr4 e n a)))), some (.int (nI 5)), some (.int (nI (a + mr4 e n a))), some (.int c4)]) rfl rfl (by decide) rfl ?_
  refine E_goto (t := 9) rfl rfl ?_
  refine E_iload_n rfl rfl ?_
  refine E_bipush (x := nI 7) rfl (by decide) ?_
  refine E_ic (t := 130) (b := false) rfl rfl (by decide) ?_
  refine E_aload_n rfl rfl ?_
  refine E_getfield (v := .int (nI a)) rfl w65 rfl (by decide) rfl ?_
  refine E_istore (L2 := [some (.ref 65), some (.int (nI 32)), some (.int (nI (max (max (max (max (max a (a + mr0 e n a)) (a + mr1 e n a)) (a + mr2 e n a)) (a + mr3 e n a)) (a + mr4 e n a)))), some (.int (nI 5)), some (.int (nI a)), some (.int c4)]) rfl rfl ?_
  refine E_iload_n rfl rfl ?_
  refine E_istore (L2 := [some (.ref 65), some (.int (nI 32)), some (.int (nI (max (max (max (max (max a (a + mr0 e n a)) (a + mr1 e n a)) (a + mr2 e n a)) (a + mr3 e n a)) (a + mr4 e n a)))), some (.int (nI 5)), some (.int (nI a)), some (.int (nI 32))]) rfl rfl ?_
  refine mw_f5 hj hn ha l_ce hce (by omega) ?_
  refine E_aload_n rfl rfl ?_
  refine E_iload rfl rfl ?_
  refine E_putfield (cs2 := (ww im lf s d k ls rf rz ra rn rq lt m1 m2 m3 m4 bd fc hd sz el q (fUp (fUp (fUp (fUp (fUp (fUp g 27 (nI (160 * j))) 29 (nI n)) 6 (-1)) 28 (nI (a + 6))) 30 x30) 31 x31) fm hm so si sh ce ca td wa kp la bf oo bo pw ow tr)) rfl w65 rfl (by decide) (Nat.le_of_ble_eq_true rfl) rfl rfl rfl (w_pt65_28.trans (by rw [gn28])) ?_
  refine E_iload_n rfl rfl ?_
  exact E_iret rfl rfl
set_option maxHeartbeats 1000000 in
theorem m_wd6 {e : List Int64} {n a j : Nat} {x30 x31 : Int32} {q : ab_q} (hj : j < 8) (hn : n ≤ 160) (ha : a ≤ n) (l_ce : ce.length = 1280) (hce : ∀ p, p < 160 → e.getD p 0 = ce.getD (160 * j + p) 0) (hw : wd e n a = 6) : Ev ab_Z0 1 158 [.ref 65] (ww im lf s d k ls rf rz ra rn rq lt m1 m2 m3 m4 bd fc hd sz el q (fUp (fUp (fUp (fUp (fUp (fUp g 27 (nI (160 * j))) 29 (nI n)) 6 (-1)) 28 (nI a)) 30 x30) 31 x31) fm hm so si sh ce ca td wa kp la bf oo bo pw ow tr) (some (.int (nI 6)), (ww im lf s d k ls rf rz ra rn rq lt m1 m2 m3 m4 bd fc hd sz el q (fUp (fUp (fUp (fUp (fUp (fUp g 27 (nI (160 * j))) 29 (nI n)) 6 (-1)) 28 (nI (a + 4))) 30 x30) 31 x31) fm hm so si sh ce ca td wa kp la bf oo bo pw ow tr)) := by
  have : ([112, 105, 101, 99, 101, 32, 0, 112, 101, 114, 115, 111, 110, 32, 0, 99, 111, 115, 116, 32, 0, 104, 97, 115, 32, 0, 98, 97, 99, 107, 32, 0, 103, 114, 101, 101, 100, 121, 0, 98, 101, 115, 116, 0] : List Nat).length = 44 := rfl
  have hwc := wd_c e n a
  have hs0 := mrS_0 e n a
  have hl0 := mr0_le e n a
  have hs1 := mrS_1 e n a
  have hl1 := mr1_le e n a
  have hs2 := mrS_2 e n a
  have hl2 := mr2_le e n a
  have hs3 := mrS_3 e n a
  have hl3 := mr3_le e n a
  have hs4 := mrS_4 e n a
  have hl4 := mr4_le e n a
  have hs5 := mrS_5 e n a
  have hl5 := mr5_le e n a
  have hs6 := mrS_6 e n a
  have hl6 := mr6_le e n a
  have hu0 : mr0 e n a = mj0 e n a := by rw [hs0]; exact if_neg (fun z => by omega)
  have hj0_ := mj0_le e n a
  have hu1 : mr1 e n a = mj1 e n a := by rw [hs1]; exact if_neg (fun z => by omega)
  have hj1_ := mj1_le e n a
  have hu2 : mr2 e n a = mj2 e n a := by rw [hs2]; exact if_neg (fun z => by omega)
  have hj2_ := mj2_le e n a
  have hu3 : mr3 e n a = mj3 e n a := by rw [hs3]; exact if_neg (fun z => by omega)
  have hj3_ := mj3_le e n a
  have hu4 : mr4 e n a = mj4 e n a := by rw [hs4]; exact if_neg (fun z => by omega)
  have hj4_ := mj4_le e n a
  have hu5 : mr5 e n a = mj5 e n a := rfl
  have hj5_ := mj5_le e n a
  have hu6 : mr6 e n a = 4 := by omega
  refine Ef.in (md := mX6_word) (L := [some (.ref 65), none, none, none, none, none]) rfl (Nat.le_of_ble_eq_true rfl) rfl ?_
  refine E_iconst (x := nI 0) rfl (by decide) ?_
  refine E_istore_n (L2 := [some (.ref 65), some (.int (nI 0)), none, none, none, none]) rfl rfl ?_
  refine E_aload_n rfl rfl ?_
  refine E_getfield (v := .int (nI a)) rfl w65 rfl (by decide) rfl ?_
  refine E_istore_n (L2 := [some (.ref 65), some (.int (nI 0)), some (.int (nI a)), none, none, none]) rfl rfl ?_
  refine E_iconst (x := nI 0) rfl (by decide) ?_
  refine E_istore_n (L2 := [some (.ref 65), some (.int (nI 0)), some (.int (nI a)), some (.int (nI 0)), none, none]) rfl rfl ?_
  refine E_iload_n rfl rfl ?_
  refine E_bipush (x := nI 7) rfl (by decide) ?_
  refine E_ic (t := 130) (b := false) rfl rfl (by decide) ?_
  refine E_aload_n rfl rfl ?_
  refine E_getfield (v := .int (nI a)) rfl w65 rfl (by decide) rfl ?_
  refine E_istore (L2 := [some (.ref 65), some (.int (nI 0)), some (.int (nI a)), some (.int (nI 0)), some (.int (nI a)), none]) rfl rfl ?_
  refine E_iload_n rfl rfl ?_
  refine E_istore (L2 := [some (.ref 65), some (.int (nI 0)), some (.int (nI a)), some (.int (nI 0)), some (.int (nI a)), some (.int (nI 0))]) rfl rfl ?_
  refine mw_p0 hj hn ha l_ce hce (f0 := a) (by omega) (by omega) (fun c0 => ?_)
  refine E_aload_n rfl rfl ?_
  refine E_getfield (v := .ref 82) rfl w65 rfl (by decide) rfl ?_
  refine E_iload_n rfl rfl ?_
  refine E_ialN (l := [112, 105, 101, 99, 101, 32, 0, 112, 101, 114, 115, 111, 110, 32, 0, 99, 111, 115, 116, 32, 0, 104, 97, 115, 32, 0, 98, 97, 99, 107, 32, 0, 103, 114, 101, 101, 100, 121, 0, 98, 101, 115, 116, 0]) (v := 112) rfl w82 (by omega) (by omega) rfl ?_
  refine E_if (t := 121) (b := false) rfl rfl (by decide) ?_
  refine E_iinc (y := nI 1) (L2 := [some (.ref 65), some (.int (nI 1)), some (.int (nI (max a (a + mr0 e n a)))), some (.int (nI 0)), some (.int (nI (a + mr0 e n a))), some (.int c0)]) rfl rfl (by decide) rfl ?_
  refine E_goto (t := 106) rfl rfl ?_
  refine E_aload_n rfl rfl ?_
  refine E_getfield (v := .ref 82) rfl w65 rfl (by decide) rfl ?_
  refine E_iload_n rfl rfl ?_
  refine E_ialN (l := [112, 105, 101, 99, 101, 32, 0, 112, 101, 114, 115, 111, 110, 32, 0, 99, 111, 115, 116, 32, 0, 104, 97, 115, 32, 0, 98, 97, 99, 107, 32, 0, 103, 114, 101, 101, 100, 121, 0, 98, 101, 115, 116, 0]) (v := 105) rfl w82 (by omega) (by omega) rfl ?_
  refine E_if (t := 121) (b := false) rfl rfl (by decide) ?_
  refine E_iinc (y := nI 2) (L2 := [some (.ref 65), some (.int (nI 2)), some (.int (nI (max a (a + mr0 e n a)))), some (.int (nI 0)), some (.int (nI (a + mr0 e n a))), some (.int c0)]) rfl rfl (by decide) rfl ?_
  refine E_goto (t := 106) rfl rfl ?_
  refine E_aload_n rfl rfl ?_
  refine E_getfield (v := .ref 82) rfl w65 rfl (by decide) rfl ?_
  refine E_iload_n rfl rfl ?_
  refine E_ialN (l := [112, 105, 101, 99, 101, 32, 0, 112, 101, 114, 115, 111, 110, 32, 0, 99, 111, 115, 116, 32, 0, 104, 97, 115, 32, 0, 98, 97, 99, 107, 32, 0, 103, 114, 101, 101, 100, 121, 0, 98, 101, 115, 116, 0]) (v := 101) rfl w82 (by omega) (by omega) rfl ?_
  refine E_if (t := 121) (b := false) rfl rfl (by decide) ?_
  refine E_iinc (y := nI 3) (L2 := [some (.ref 65), some (.int (nI 3)), some (.int (nI (max a (a + mr0 e n a)))), some (.int (nI 0)), some (.int (nI (a + mr0 e n a))), some (.int c0)]) rfl rfl (by decide) rfl ?_
  refine E_goto (t := 106) rfl rfl ?_
  refine E_aload_n rfl rfl ?_
  refine E_getfield (v := .ref 82) rfl w65 rfl (by decide) rfl ?_
  refine E_iload_n rfl rfl ?_
  refine E_ialN (l := [112, 105, 101, 99, 101, 32, 0, 112, 101, 114, 115, 111, 110, 32, 0, 99, 111, 115, 116, 32, 0, 104, 97, 115, 32, 0, 98, 97, 99, 107, 32, 0, 103, 114, 101, 101, 100, 121, 0, 98, 101, 115, 116, 0]) (v := 99) rfl w82 (by omega) (by omega) rfl ?_
  refine E_if (t := 121) (b := false) rfl rfl (by decide) ?_
  refine E_iinc (y := nI 4) (L2 := [some (.ref 65), some (.int (nI 4)), some (.int (nI (max a (a + mr0 e n a)))), some (.int (nI 0)), some (.int (nI (a + mr0 e n a))), some (.int c0)]) rfl rfl (by decide) rfl ?_
  refine E_goto (t := 106) rfl rfl ?_
  refine E_aload_n rfl rfl ?_
  refine E_getfield (v := .ref 82) rfl w65 rfl (by decide) rfl ?_
  refine E_iload_n rfl rfl ?_
  refine E_ialN (l := [112, 105, 101, 99, 101, 32, 0, 112, 101, 114, 115, 111, 110, 32, 0, 99, 111, 115, 116, 32, 0, 104, 97, 115, 32, 0, 98, 97, 99, 107, 32, 0, 103, 114, 101, 101, 100, 121, 0, 98, 101, 115, 116, 0]) (v := 101) rfl w82 (by omega) (by omega) rfl ?_
  refine E_if (t := 121) (b := false) rfl rfl (by decide) ?_
  refine E_iinc (y := nI 5) (L2 := [some (.ref 65), some (.int (nI 5)), some (.int (nI (max a (a + mr0 e n a)))), some (.int (nI 0)), some (.int (nI (a + mr0 e n a))), some (.int c0)]) rfl rfl (by decide) rfl ?_
  refine E_goto (t := 106) rfl rfl ?_
  refine E_aload_n rfl rfl ?_
  refine E_getfield (v := .ref 82) rfl w65 rfl (by decide) rfl ?_
  refine E_iload_n rfl rfl ?_
  refine E_ialN (l := [112, 105, 101, 99, 101, 32, 0, 112, 101, 114, 115, 111, 110, 32, 0, 99, 111, 115, 116, 32, 0, 104, 97, 115, 32, 0, 98, 97, 99, 107, 32, 0, 103, 114, 101, 101, 100, 121, 0, 98, 101, 115, 116, 0]) (v := 32) rfl w82 (by omega) (by omega) rfl ?_
  refine E_if (t := 121) (b := false) rfl rfl (by decide) ?_
  refine E_iinc (y := nI 6) (L2 := [some (.ref 65), some (.int (nI 6)), some (.int (nI (max a (a + mr0 e n a)))), some (.int (nI 0)), some (.int (nI (a + mr0 e n a))), some (.int c0)]) rfl rfl (by decide) rfl ?_
  refine E_goto (t := 106) rfl rfl ?_
  refine E_aload_n rfl rfl ?_
  refine E_getfield (v := .ref 82) rfl w65 rfl (by decide) rfl ?_
  refine E_iload_n rfl rfl ?_
  refine E_ialN (l := [112, 105, 101, 99, 101, 32, 0, 112, 101, 114, 115, 111, 110, 32, 0, 99, 111, 115, 116, 32, 0, 104, 97, 115, 32, 0, 98, 97, 99, 107, 32, 0, 103, 114, 101, 101, 100, 121, 0, 98, 101, 115, 116, 0]) (v := 0) rfl w82 (by omega) (by omega) rfl ?_
  refine E_if (t := 121) (b := true) rfl rfl (by decide) ?_
  refine E_iinc (y := nI 7) (L2 := [some (.ref 65), some (.int (nI 7)), some (.int (nI (max a (a + mr0 e n a)))), some (.int (nI 0)), some (.int (nI (a + mr0 e n a))), some (.int c0)]) rfl rfl (by decide) rfl ?_
  refine E_iinc (y := nI 1) (L2 := [some (.ref 65), some (.int (nI 7)), some (.int (nI (max a (a + mr0 e n a)))), some (.int (nI 1)), some (.int (nI (a + mr0 e n a))), some (.int c0)]) rfl rfl (by decide) rfl ?_
  refine E_goto (t := 9) rfl rfl ?_
  refine E_iload_n rfl rfl ?_
  refine E_bipush (x := nI 7) rfl (by decide) ?_
  refine E_ic (t := 130) (b := false) rfl rfl (by decide) ?_
  refine E_aload_n rfl rfl ?_
  refine E_getfield (v := .int (nI a)) rfl w65 rfl (by decide) rfl ?_
  refine E_istore (L2 := [some (.ref 65), some (.int (nI 7)), some (.int (nI (max a (a + mr0 e n a)))), some (.int (nI 1)), some (.int (nI a)), some (.int c0)]) rfl rfl ?_
  refine E_iload_n rfl rfl ?_
  refine E_istore (L2 := [some (.ref 65), some (.int (nI 7)), some (.int (nI (max a (a + mr0 e n a)))), some (.int (nI 1)), some (.int (nI a)), some (.int (nI 7))]) rfl rfl ?_
  refine mw_p1 hj hn ha l_ce hce (f0 := max a (a + mr0 e n a)) (by omega) (by omega) (fun c1 => ?_)
  refine E_aload_n rfl rfl ?_
  refine E_getfield (v := .ref 82) rfl w65 rfl (by decide) rfl ?_
  refine E_iload_n rfl rfl ?_
  refine E_ialN (l := [112, 105, 101, 99, 101, 32, 0, 112, 101, 114, 115, 111, 110, 32, 0, 99, 111, 115, 116, 32, 0, 104, 97, 115, 32, 0, 98, 97, 99, 107, 32, 0, 103, 114, 101, 101, 100, 121, 0, 98, 101, 115, 116, 0]) (v := 112) rfl w82 (by omega) (by omega) rfl ?_
  refine E_if (t := 121) (b := false) rfl rfl (by decide) ?_
  refine E_iinc (y := nI 8) (L2 := [some (.ref 65), some (.int (nI 8)), some (.int (nI (max (max a (a + mr0 e n a)) (a + mr1 e n a)))), some (.int (nI 1)), some (.int (nI (a + mr1 e n a))), some (.int c1)]) rfl rfl (by decide) rfl ?_
  refine E_goto (t := 106) rfl rfl ?_
  refine E_aload_n rfl rfl ?_
  refine E_getfield (v := .ref 82) rfl w65 rfl (by decide) rfl ?_
  refine E_iload_n rfl rfl ?_
  refine E_ialN (l := [112, 105, 101, 99, 101, 32, 0, 112, 101, 114, 115, 111, 110, 32, 0, 99, 111, 115, 116, 32, 0, 104, 97, 115, 32, 0, 98, 97, 99, 107, 32, 0, 103, 114, 101, 101, 100, 121, 0, 98, 101, 115, 116, 0]) (v := 101) rfl w82 (by omega) (by omega) rfl ?_
  refine E_if (t := 121) (b := false) rfl rfl (by decide) ?_
  refine E_iinc (y := nI 9) (L2 := [some (.ref 65), some (.int (nI 9)), some (.int (nI (max (max a (a + mr0 e n a)) (a + mr1 e n a)))), some (.int (nI 1)), some (.int (nI (a + mr1 e n a))), some (.int c1)]) rfl rfl (by decide) rfl ?_
  refine E_goto (t := 106) rfl rfl ?_
  refine E_aload_n rfl rfl ?_
  refine E_getfield (v := .ref 82) rfl w65 rfl (by decide) rfl ?_
  refine E_iload_n rfl rfl ?_
  refine E_ialN (l := [112, 105, 101, 99, 101, 32, 0, 112, 101, 114, 115, 111, 110, 32, 0, 99, 111, 115, 116, 32, 0, 104, 97, 115, 32, 0, 98, 97, 99, 107, 32, 0, 103, 114, 101, 101, 100, 121, 0, 98, 101, 115, 116, 0]) (v := 114) rfl w82 (by omega) (by omega) rfl ?_
  refine E_if (t := 121) (b := false) rfl rfl (by decide) ?_
  refine E_iinc (y := nI 10) (L2 := [some (.ref 65), some (.int (nI 10)), some (.int (nI (max (max a (a + mr0 e n a)) (a + mr1 e n a)))), some (.int (nI 1)), some (.int (nI (a + mr1 e n a))), some (.int c1)]) rfl rfl (by decide) rfl ?_
  refine E_goto (t := 106) rfl rfl ?_
  refine E_aload_n rfl rfl ?_
  refine E_getfield (v := .ref 82) rfl w65 rfl (by decide) rfl ?_
  refine E_iload_n rfl rfl ?_
  refine E_ialN (l := [112, 105, 101, 99, 101, 32, 0, 112, 101, 114, 115, 111, 110, 32, 0, 99, 111, 115, 116, 32, 0, 104, 97, 115, 32, 0, 98, 97, 99, 107, 32, 0, 103, 114, 101, 101, 100, 121, 0, 98, 101, 115, 116, 0]) (v := 115) rfl w82 (by omega) (by omega) rfl ?_
  refine E_if (t := 121) (b := false) rfl rfl (by decide) ?_
  refine E_iinc (y := nI 11) (L2 := [some (.ref 65), some (.int (nI 11)), some (.int (nI (max (max a (a + mr0 e n a)) (a + mr1 e n a)))), some (.int (nI 1)), some (.int (nI (a + mr1 e n a))), some (.int c1)]) rfl rfl (by decide) rfl ?_
  refine E_goto (t := 106) rfl rfl ?_
  refine E_aload_n rfl rfl ?_
  refine E_getfield (v := .ref 82) rfl w65 rfl (by decide) rfl ?_
  refine E_iload_n rfl rfl ?_
  refine E_ialN (l := [112, 105, 101, 99, 101, 32, 0, 112, 101, 114, 115, 111, 110, 32, 0, 99, 111, 115, 116, 32, 0, 104, 97, 115, 32, 0, 98, 97, 99, 107, 32, 0, 103, 114, 101, 101, 100, 121, 0, 98, 101, 115, 116, 0]) (v := 111) rfl w82 (by omega) (by omega) rfl ?_
  refine E_if (t := 121) (b := false) rfl rfl (by decide) ?_
  refine E_iinc (y := nI 12) (L2 := [some (.ref 65), some (.int (nI 12)), some (.int (nI (max (max a (a + mr0 e n a)) (a + mr1 e n a)))), some (.int (nI 1)), some (.int (nI (a + mr1 e n a))), some (.int c1)]) rfl rfl (by decide) rfl ?_
  refine E_goto (t := 106) rfl rfl ?_
  refine E_aload_n rfl rfl ?_
  refine E_getfield (v := .ref 82) rfl w65 rfl (by decide) rfl ?_
  refine E_iload_n rfl rfl ?_
  refine E_ialN (l := [112, 105, 101, 99, 101, 32, 0, 112, 101, 114, 115, 111, 110, 32, 0, 99, 111, 115, 116, 32, 0, 104, 97, 115, 32, 0, 98, 97, 99, 107, 32, 0, 103, 114, 101, 101, 100, 121, 0, 98, 101, 115, 116, 0]) (v := 110) rfl w82 (by omega) (by omega) rfl ?_
  refine E_if (t := 121) (b := false) rfl rfl (by decide) ?_
  refine E_iinc (y := nI 13) (L2 := [some (.ref 65), some (.int (nI 13)), some (.int (nI (max (max a (a + mr0 e n a)) (a + mr1 e n a)))), some (.int (nI 1)), some (.int (nI (a + mr1 e n a))), some (.int c1)]) rfl rfl (by decide) rfl ?_
  refine E_goto (t := 106) rfl rfl ?_
  refine E_aload_n rfl rfl ?_
  refine E_getfield (v := .ref 82) rfl w65 rfl (by decide) rfl ?_
  refine E_iload_n rfl rfl ?_
  refine E_ialN (l := [112, 105, 101, 99, 101, 32, 0, 112, 101, 114, 115, 111, 110, 32, 0, 99, 111, 115, 116, 32, 0, 104, 97, 115, 32, 0, 98, 97, 99, 107, 32, 0, 103, 114, 101, 101, 100, 121, 0, 98, 101, 115, 116, 0]) (v := 32) rfl w82 (by omega) (by omega) rfl ?_
  refine E_if (t := 121) (b := false) rfl rfl (by decide) ?_
  refine E_iinc (y := nI 14) (L2 := [some (.ref 65), some (.int (nI 14)), some (.int (nI (max (max a (a + mr0 e n a)) (a + mr1 e n a)))), some (.int (nI 1)), some (.int (nI (a + mr1 e n a))), some (.int c1)]) rfl rfl (by decide) rfl ?_
  refine E_goto (t := 106) rfl rfl ?_
  refine E_aload_n rfl rfl ?_
  refine E_getfield (v := .ref 82) rfl w65 rfl (by decide) rfl ?_
  refine E_iload_n rfl rfl ?_
  refine E_ialN (l := [112, 105, 101, 99, 101, 32, 0, 112, 101, 114, 115, 111, 110, 32, 0, 99, 111, 115, 116, 32, 0, 104, 97, 115, 32, 0, 98, 97, 99, 107, 32, 0, 103, 114, 101, 101, 100, 121, 0, 98, 101, 115, 116, 0]) (v := 0) rfl w82 (by omega) (by omega) rfl ?_
  refine E_if (t := 121) (b := true) rfl rfl (by decide) ?_
  refine E_iinc (y := nI 15) (L2 := [some (.ref 65), some (.int (nI 15)), some (.int (nI (max (max a (a + mr0 e n a)) (a + mr1 e n a)))), some (.int (nI 1)), some (.int (nI (a + mr1 e n a))), some (.int c1)]) rfl rfl (by decide) rfl ?_
  refine E_iinc (y := nI 2) (L2 := [some (.ref 65), some (.int (nI 15)), some (.int (nI (max (max a (a + mr0 e n a)) (a + mr1 e n a)))), some (.int (nI 2)), some (.int (nI (a + mr1 e n a))), some (.int c1)]) rfl rfl (by decide) rfl ?_
  refine E_goto (t := 9) rfl rfl ?_
  refine E_iload_n rfl rfl ?_
  refine E_bipush (x := nI 7) rfl (by decide) ?_
  refine E_ic (t := 130) (b := false) rfl rfl (by decide) ?_
  refine E_aload_n rfl rfl ?_
  refine E_getfield (v := .int (nI a)) rfl w65 rfl (by decide) rfl ?_
  refine E_istore (L2 := [some (.ref 65), some (.int (nI 15)), some (.int (nI (max (max a (a + mr0 e n a)) (a + mr1 e n a)))), some (.int (nI 2)), some (.int (nI a)), some (.int c1)]) rfl rfl ?_
  refine E_iload_n rfl rfl ?_
  refine E_istore (L2 := [some (.ref 65), some (.int (nI 15)), some (.int (nI (max (max a (a + mr0 e n a)) (a + mr1 e n a)))), some (.int (nI 2)), some (.int (nI a)), some (.int (nI 15))]) rfl rfl ?_
  refine mw_p2 hj hn ha l_ce hce (f0 := max (max a (a + mr0 e n a)) (a + mr1 e n a)) (by omega) (by omega) (fun c2 => ?_)
  refine E_aload_n rfl rfl ?_
  refine E_getfield (v := .ref 82) rfl w65 rfl (by decide) rfl ?_
  refine E_iload_n rfl rfl ?_
  refine E_ialN (l := [112, 105, 101, 99, 101, 32, 0, 112, 101, 114, 115, 111, 110, 32, 0, 99, 111, 115, 116, 32, 0, 104, 97, 115, 32, 0, 98, 97, 99, 107, 32, 0, 103, 114, 101, 101, 100, 121, 0, 98, 101, 115, 116, 0]) (v := 99) rfl w82 (by omega) (by omega) rfl ?_
  refine E_if (t := 121) (b := false) rfl rfl (by decide) ?_
  refine E_iinc (y := nI 16) (L2 := [some (.ref 65), some (.int (nI 16)), some (.int (nI (max (max (max a (a + mr0 e n a)) (a + mr1 e n a)) (a + mr2 e n a)))), some (.int (nI 2)), some (.int (nI (a + mr2 e n a))), some (.int c2)]) rfl rfl (by decide) rfl ?_
  refine E_goto (t := 106) rfl rfl ?_
  refine E_aload_n rfl rfl ?_
  refine E_getfield (v := .ref 82) rfl w65 rfl (by decide) rfl ?_
  refine E_iload_n rfl rfl ?_
  refine E_ialN (l := [112, 105, 101, 99, 101, 32, 0, 112, 101, 114, 115, 111, 110, 32, 0, 99, 111, 115, 116, 32, 0, 104, 97, 115, 32, 0, 98, 97, 99, 107, 32, 0, 103, 114, 101, 101, 100, 121, 0, 98, 101, 115, 116, 0]) (v := 111) rfl w82 (by omega) (by omega) rfl ?_
  refine E_if (t := 121) (b := false) rfl rfl (by decide) ?_
  refine E_iinc (y := nI 17) (L2 := [some (.ref 65), some (.int (nI 17)), some (.int (nI (max (max (max a (a + mr0 e n a)) (a + mr1 e n a)) (a + mr2 e n a)))), some (.int (nI 2)), some (.int (nI (a + mr2 e n a))), some (.int c2)]) rfl rfl (by decide) rfl ?_
  refine E_goto (t := 106) rfl rfl ?_
  refine E_aload_n rfl rfl ?_
  refine E_getfield (v := .ref 82) rfl w65 rfl (by decide) rfl ?_
  refine E_iload_n rfl rfl ?_
  refine E_ialN (l := [112, 105, 101, 99, 101, 32, 0, 112, 101, 114, 115, 111, 110, 32, 0, 99, 111, 115, 116, 32, 0, 104, 97, 115, 32, 0, 98, 97, 99, 107, 32, 0, 103, 114, 101, 101, 100, 121, 0, 98, 101, 115, 116, 0]) (v := 115) rfl w82 (by omega) (by omega) rfl ?_
  refine E_if (t := 121) (b := false) rfl rfl (by decide) ?_
  refine E_iinc (y := nI 18) (L2 := [some (.ref 65), some (.int (nI 18)), some (.int (nI (max (max (max a (a + mr0 e n a)) (a + mr1 e n a)) (a + mr2 e n a)))), some (.int (nI 2)), some (.int (nI (a + mr2 e n a))), some (.int c2)]) rfl rfl (by decide) rfl ?_
  refine E_goto (t := 106) rfl rfl ?_
  refine E_aload_n rfl rfl ?_
  refine E_getfield (v := .ref 82) rfl w65 rfl (by decide) rfl ?_
  refine E_iload_n rfl rfl ?_
  refine E_ialN (l := [112, 105, 101, 99, 101, 32, 0, 112, 101, 114, 115, 111, 110, 32, 0, 99, 111, 115, 116, 32, 0, 104, 97, 115, 32, 0, 98, 97, 99, 107, 32, 0, 103, 114, 101, 101, 100, 121, 0, 98, 101, 115, 116, 0]) (v := 116) rfl w82 (by omega) (by omega) rfl ?_
  refine E_if (t := 121) (b := false) rfl rfl (by decide) ?_
  refine E_iinc (y := nI 19) (L2 := [some (.ref 65), some (.int (nI 19)), some (.int (nI (max (max (max a (a + mr0 e n a)) (a + mr1 e n a)) (a + mr2 e n a)))), some (.int (nI 2)), some (.int (nI (a + mr2 e n a))), some (.int c2)]) rfl rfl (by decide) rfl ?_
  refine E_goto (t := 106) rfl rfl ?_
  refine E_aload_n rfl rfl ?_
  refine E_getfield (v := .ref 82) rfl w65 rfl (by decide) rfl ?_
  refine E_iload_n rfl rfl ?_
  refine E_ialN (l := [112, 105, 101, 99, 101, 32, 0, 112, 101, 114, 115, 111, 110, 32, 0, 99, 111, 115, 116, 32, 0, 104, 97, 115, 32, 0, 98, 97, 99, 107, 32, 0, 103, 114, 101, 101, 100, 121, 0, 98, 101, 115, 116, 0]) (v := 32) rfl w82 (by omega) (by omega) rfl ?_
  refine E_if (t := 121) (b := false) rfl rfl (by decide) ?_
  refine E_iinc (y := nI 20) (L2 := [some (.ref 65), some (.int (nI 20)), some (.int (nI (max (max (max a (a + mr0 e n a)) (a + mr1 e n a)) (a + mr2 e n a)))), some (.int (nI 2)), some (.int (nI (a + mr2 e n a))), some (.int c2)]) rfl rfl (by decide) rfl ?_
  refine E_goto (t := 106) rfl rfl ?_
  refine E_aload_n rfl rfl ?_
  refine E_getfield (v := .ref 82) rfl w65 rfl (by decide) rfl ?_
  refine E_iload_n rfl rfl ?_
  refine E_ialN (l := [112, 105, 101, 99, 101, 32, 0, 112, 101, 114, 115, 111, 110, 32, 0, 99, 111, 115, 116, 32, 0, 104, 97, 115, 32, 0, 98, 97, 99, 107, 32, 0, 103, 114, 101, 101, 100, 121, 0, 98, 101, 115, 116, 0]) (v := 0) rfl w82 (by omega) (by omega) rfl ?_
  refine E_if (t := 121) (b := true) rfl rfl (by decide) ?_
  refine E_iinc (y := nI 21) (L2 := [some (.ref 65), some (.int (nI 21)), some (.int (nI (max (max (max a (a + mr0 e n a)) (a + mr1 e n a)) (a + mr2 e n a)))), some (.int (nI 2)), some (.int (nI (a + mr2 e n a))), some (.int c2)]) rfl rfl (by decide) rfl ?_
  refine E_iinc (y := nI 3) (L2 := [some (.ref 65), some (.int (nI 21)), some (.int (nI (max (max (max a (a + mr0 e n a)) (a + mr1 e n a)) (a + mr2 e n a)))), some (.int (nI 3)), some (.int (nI (a + mr2 e n a))), some (.int c2)]) rfl rfl (by decide) rfl ?_
  refine E_goto (t := 9) rfl rfl ?_
  refine E_iload_n rfl rfl ?_
  refine E_bipush (x := nI 7) rfl (by decide) ?_
  refine E_ic (t := 130) (b := false) rfl rfl (by decide) ?_
  refine E_aload_n rfl rfl ?_
  refine E_getfield (v := .int (nI a)) rfl w65 rfl (by decide) rfl ?_
  refine E_istore (L2 := [some (.ref 65), some (.int (nI 21)), some (.int (nI (max (max (max a (a + mr0 e n a)) (a + mr1 e n a)) (a + mr2 e n a)))), some (.int (nI 3)), some (.int (nI a)), some (.int c2)]) rfl rfl ?_
  refine E_iload_n rfl rfl ?_
  refine E_istore (L2 := [some (.ref 65), some (.int (nI 21)), some (.int (nI (max (max (max a (a + mr0 e n a)) (a + mr1 e n a)) (a + mr2 e n a)))), some (.int (nI 3)), some (.int (nI a)), some (.int (nI 21))]) rfl rfl ?_
  refine mw_p3 hj hn ha l_ce hce (f0 := max (max (max a (a + mr0 e n a)) (a + mr1 e n a)) (a + mr2 e n a)) (by omega) (by omega) (fun c3 => ?_)
  refine E_aload_n rfl rfl ?_
  refine E_getfield (v := .ref 82) rfl w65 rfl (by decide) rfl ?_
  refine E_iload_n rfl rfl ?_
  refine E_ialN (l := [112, 105, 101, 99, 101, 32, 0, 112, 101, 114, 115, 111, 110, 32, 0, 99, 111, 115, 116, 32, 0, 104, 97, 115, 32, 0, 98, 97, 99, 107, 32, 0, 103, 114, 101, 101, 100, 121, 0, 98, 101, 115, 116, 0]) (v := 104) rfl w82 (by omega) (by omega) rfl ?_
  refine E_if (t := 121) (b := false) rfl rfl (by decide) ?_
  refine E_iinc (y := nI 22) (L2 := [some (.ref 65), some (.int (nI 22)), some (.int (nI (max (max (max (max a (a + mr0 e n a)) (a + mr1 e n a)) (a + mr2 e n a)) (a + mr3 e n a)))), some (.int (nI 3)), some (.int (nI (a + mr3 e n a))), some (.int c3)]) rfl rfl (by decide) rfl ?_
  refine E_goto (t := 106) rfl rfl ?_
  refine E_aload_n rfl rfl ?_
  refine E_getfield (v := .ref 82) rfl w65 rfl (by decide) rfl ?_
  refine E_iload_n rfl rfl ?_
  refine E_ialN (l := [112, 105, 101, 99, 101, 32, 0, 112, 101, 114, 115, 111, 110, 32, 0, 99, 111, 115, 116, 32, 0, 104, 97, 115, 32, 0, 98, 97, 99, 107, 32, 0, 103, 114, 101, 101, 100, 121, 0, 98, 101, 115, 116, 0]) (v := 97) rfl w82 (by omega) (by omega) rfl ?_
  refine E_if (t := 121) (b := false) rfl rfl (by decide) ?_
  refine E_iinc (y := nI 23) (L2 := [some (.ref 65), some (.int (nI 23)), some (.int (nI (max (max (max (max a (a + mr0 e n a)) (a + mr1 e n a)) (a + mr2 e n a)) (a + mr3 e n a)))), some (.int (nI 3)), some (.int (nI (a + mr3 e n a))), some (.int c3)]) rfl rfl (by decide) rfl ?_
  refine E_goto (t := 106) rfl rfl ?_
  refine E_aload_n rfl rfl ?_
  refine E_getfield (v := .ref 82) rfl w65 rfl (by decide) rfl ?_
  refine E_iload_n rfl rfl ?_
  refine E_ialN (l := [112, 105, 101, 99, 101, 32, 0, 112, 101, 114, 115, 111, 110, 32, 0, 99, 111, 115, 116, 32, 0, 104, 97, 115, 32, 0, 98, 97, 99, 107, 32, 0, 103, 114, 101, 101, 100, 121, 0, 98, 101, 115, 116, 0]) (v := 115) rfl w82 (by omega) (by omega) rfl ?_
  refine E_if (t := 121) (b := false) rfl rfl (by decide) ?_
  refine E_iinc (y := nI 24) (L2 := [some (.ref 65), some (.int (nI 24)), some (.int (nI (max (max (max (max a (a + mr0 e n a)) (a + mr1 e n a)) (a + mr2 e n a)) (a + mr3 e n a)))), some (.int (nI 3)), some (.int (nI (a + mr3 e n a))), some (.int c3)]) rfl rfl (by decide) rfl ?_
  refine E_goto (t := 106) rfl rfl ?_
  refine E_aload_n rfl rfl ?_
  refine E_getfield (v := .ref 82) rfl w65 rfl (by decide) rfl ?_
  refine E_iload_n rfl rfl ?_
  refine E_ialN (l := [112, 105, 101, 99, 101, 32, 0, 112, 101, 114, 115, 111, 110, 32, 0, 99, 111, 115, 116, 32, 0, 104, 97, 115, 32, 0, 98, 97, 99, 107, 32, 0, 103, 114, 101, 101, 100, 121, 0, 98, 101, 115, 116, 0]) (v := 32) rfl w82 (by omega) (by omega) rfl ?_
  refine E_if (t := 121) (b := false) rfl rfl (by decide) ?_
  refine E_iinc (y := nI 25) (L2 := [some (.ref 65), some (.int (nI 25)), some (.int (nI (max (max (max (max a (a + mr0 e n a)) (a + mr1 e n a)) (a + mr2 e n a)) (a + mr3 e n a)))), some (.int (nI 3)), some (.int (nI (a + mr3 e n a))), some (.int c3)]) rfl rfl (by decide) rfl ?_
  refine E_goto (t := 106) rfl rfl ?_
  refine E_aload_n rfl rfl ?_
  refine E_getfield (v := .ref 82) rfl w65 rfl (by decide) rfl ?_
  refine E_iload_n rfl rfl ?_
  refine E_ialN (l := [112, 105, 101, 99, 101, 32, 0, 112, 101, 114, 115, 111, 110, 32, 0, 99, 111, 115, 116, 32, 0, 104, 97, 115, 32, 0, 98, 97, 99, 107, 32, 0, 103, 114, 101, 101, 100, 121, 0, 98, 101, 115, 116, 0]) (v := 0) rfl w82 (by omega) (by omega) rfl ?_
  refine E_if (t := 121) (b := true) rfl rfl (by decide) ?_
  refine E_iinc (y := nI 26) (L2 := [some (.ref 65), some (.int (nI 26)), some (.int (nI (max (max (max (max a (a + mr0 e n a)) (a + mr1 e n a)) (a + mr2 e n a)) (a + mr3 e n a)))), some (.int (nI 3)), some (.int (nI (a + mr3 e n a))), some (.int c3)]) rfl rfl (by decide) rfl ?_
  refine E_iinc (y := nI 4) (L2 := [some (.ref 65), some (.int (nI 26)), some (.int (nI (max (max (max (max a (a + mr0 e n a)) (a + mr1 e n a)) (a + mr2 e n a)) (a + mr3 e n a)))), some (.int (nI 4)), some (.int (nI (a + mr3 e n a))), some (.int c3)]) rfl rfl (by decide) rfl ?_
  refine E_goto (t := 9) rfl rfl ?_
  refine E_iload_n rfl rfl ?_
  refine E_bipush (x := nI 7) rfl (by decide) ?_
  refine E_ic (t := 130) (b := false) rfl rfl (by decide) ?_
  refine E_aload_n rfl rfl ?_
  refine E_getfield (v := .int (nI a)) rfl w65 rfl (by decide) rfl ?_
  refine E_istore (L2 := [some (.ref 65), some (.int (nI 26)), some (.int (nI (max (max (max (max a (a + mr0 e n a)) (a + mr1 e n a)) (a + mr2 e n a)) (a + mr3 e n a)))), some (.int (nI 4)), some (.int (nI a)), some (.int c3)]) rfl rfl ?_
  refine E_iload_n rfl rfl ?_
  refine E_istore (L2 := [some (.ref 65), some (.int (nI 26)), some (.int (nI (max (max (max (max a (a + mr0 e n a)) (a + mr1 e n a)) (a + mr2 e n a)) (a + mr3 e n a)))), some (.int (nI 4)), some (.int (nI a)), some (.int (nI 26))]) rfl rfl ?_
  refine mw_p4 hj hn ha l_ce hce (f0 := max (max (max (max a (a + mr0 e n a)) (a + mr1 e n a)) (a + mr2 e n a)) (a + mr3 e n a)) (by omega) (by omega) (fun c4 => ?_)
  refine E_aload_n rfl rfl ?_
  refine E_getfield (v := .ref 82) rfl w65 rfl (by decide) rfl ?_
  refine E_iload_n rfl rfl ?_
  refine E_ialN (l := [112, 105, 101, 99, 101, 32, 0, 112, 101, 114, 115, 111, 110, 32, 0, 99, 111, 115, 116, 32, 0, 104, 97, 115, 32, 0, 98, 97, 99, 107, 32, 0, 103, 114, 101, 101, 100, 121, 0, 98, 101, 115, 116, 0]) (v := 98) rfl w82 (by omega) (by omega) rfl ?_
  refine E_if (t := 121) (b := false) rfl rfl (by decide) ?_
  refine E_iinc (y := nI 27) (L2 := [some (.ref 65), some (.int (nI 27)), some (.int (nI (max (max (max (max (max a (a + mr0 e n a)) (a + mr1 e n a)) (a + mr2 e n a)) (a + mr3 e n a)) (a + mr4 e n a)))), some (.int (nI 4)), some (.int (nI (a + mr4 e n a))), some (.int c4)]) rfl rfl (by decide) rfl ?_
  refine E_goto (t := 106) rfl rfl ?_
  refine E_aload_n rfl rfl ?_
  refine E_getfield (v := .ref 82) rfl w65 rfl (by decide) rfl ?_
  refine E_iload_n rfl rfl ?_
  refine E_ialN (l := [112, 105, 101, 99, 101, 32, 0, 112, 101, 114, 115, 111, 110, 32, 0, 99, 111, 115, 116, 32, 0, 104, 97, 115, 32, 0, 98, 97, 99, 107, 32, 0, 103, 114, 101, 101, 100, 121, 0, 98, 101, 115, 116, 0]) (v := 97) rfl w82 (by omega) (by omega) rfl ?_
  refine E_if (t := 121) (b := false) rfl rfl (by decide) ?_
  refine E_iinc (y := nI 28) (L2 := [some (.ref 65), some (.int (nI 28)), some (.int (nI (max (max (max (max (max a (a + mr0 e n a)) (a + mr1 e n a)) (a + mr2 e n a)) (a + mr3 e n a)) (a + mr4 e n a)))), some (.int (nI 4)), some (.int (nI (a + mr4 e n a))), some (.int c4)]) rfl rfl (by decide) rfl ?_
  refine E_goto (t := 106) rfl rfl ?_
  refine E_aload_n rfl rfl ?_
  refine E_getfield (v := .ref 82) rfl w65 rfl (by decide) rfl ?_
  refine E_iload_n rfl rfl ?_
  refine E_ialN (l := [112, 105, 101, 99, 101, 32, 0, 112, 101, 114, 115, 111, 110, 32, 0, 99, 111, 115, 116, 32, 0, 104, 97, 115, 32, 0, 98, 97, 99, 107, 32, 0, 103, 114, 101, 101, 100, 121, 0, 98, 101, 115, 116, 0]) (v := 99) rfl w82 (by omega) (by omega) rfl ?_
  refine E_if (t := 121) (b := false) rfl rfl (by decide) ?_
  refine E_iinc (y := nI 29) (L2 := [some (.ref 65), some (.int (nI 29)), some (.int (nI (max (max (max (max (max a (a + mr0 e n a)) (a + mr1 e n a)) (a + mr2 e n a)) (a + mr3 e n a)) (a + mr4 e n a)))), some (.int (nI 4)), some (.int (nI (a + mr4 e n a))), some (.int c4)]) rfl rfl (by decide) rfl ?_
  refine E_goto (t := 106) rfl rfl ?_
  refine E_aload_n rfl rfl ?_
  refine E_getfield (v := .ref 82) rfl w65 rfl (by decide) rfl ?_
  refine E_iload_n rfl rfl ?_
  refine E_ialN (l := [112, 105, 101, 99, 101, 32, 0, 112, 101, 114, 115, 111, 110, 32, 0, 99, 111, 115, 116, 32, 0, 104, 97, 115, 32, 0, 98, 97, 99, 107, 32, 0, 103, 114, 101, 101, 100, 121, 0, 98, 101, 115, 116, 0]) (v := 107) rfl w82 (by omega) (by omega) rfl ?_
  refine E_if (t := 121) (b := false) rfl rfl (by decide) ?_
  refine E_iinc (y := nI 30) (L2 := [some (.ref 65), some (.int (nI 30)), some (.int (nI (max (max (max (max (max a (a + mr0 e n a)) (a + mr1 e n a)) (a + mr2 e n a)) (a + mr3 e n a)) (a + mr4 e n a)))), some (.int (nI 4)), some (.int (nI (a + mr4 e n a))), some (.int c4)]) rfl rfl (by decide) rfl ?_
  refine E_goto (t := 106) rfl rfl ?_
  refine E_aload_n rfl rfl ?_
  refine E_getfield (v := .ref 82) rfl w65 rfl (by decide) rfl ?_
  refine E_iload_n rfl rfl ?_
  refine E_ialN (l := [112, 105, 101, 99, 101, 32, 0, 112, 101, 114, 115, 111, 110, 32, 0, 99, 111, 115, 116, 32, 0, 104, 97, 115, 32, 0, 98, 97, 99, 107, 32, 0, 103, 114, 101, 101, 100, 121, 0, 98, 101, 115, 116, 0]) (v := 32) rfl w82 (by omega) (by omega) rfl ?_
  refine E_if (t := 121) (b := false) rfl rfl (by decide) ?_
  refine E_iinc (y := nI 31) (L2 := [some (.ref 65), some (.int (nI 31)), some (.int (nI (max (max (max (max (max a (a + mr0 e n a)) (a + mr1 e n a)) (a + mr2 e n a)) (a + mr3 e n a)) (a + mr4 e n a)))), some (.int (nI 4)), some (.int (nI (a + mr4 e n a))), some (.int c4)]) rfl rfl (by decide) rfl ?_
  refine E_goto (t := 106) rfl rfl ?_
  refine E_aload_n rfl rfl ?_
  refine E_getfield (v := .ref 82) rfl w65 rfl (by decide) rfl ?_
  refine E_iload_n rfl rfl ?_
  refine E_ialN (l := [112, 105, 101, 99, 101, 32, 0, 112, 101, 114, 115, 111, 110, 32, 0, 99, 111, 115, 116, 32, 0, 104, 97, 115, 32, 0, 98, 97, 99, 107, 32, 0, 103, 114, 101, 101, 100, 121, 0, 98, 101, 115, 116, 0]) (v := 0) rfl w82 (by omega) (by omega) rfl ?_
  refine E_if (t := 121) (b := true) rfl rfl (by decide) ?_
  refine E_iinc (y := nI 32) (L2 := [some (.ref 65), some (.int (nI 32)), some (.int (nI (max (max (max (max (max a (a + mr0 e n a)) (a + mr1 e n a)) (a + mr2 e n a)) (a + mr3 e n a)) (a + mr4 e n a)))), some (.int (nI 4)), some (.int (nI (a + mr4 e n a))), some (.int c4)]) rfl rfl (by decide) rfl ?_
  refine E_iinc (y := nI 5) (L2 := [some (.ref 65), some (.int (nI 32)), some (.int (nI (max (max (max (max (max a (a + mr0 e n a)) (a + mr1 e n a)) (a + mr2 e n a)) (a + mr3 e n a)) (a + mr4 e n a)))), some (.int (nI 5)), some (.int (nI (a + mr4 e n a))), some (.int c4)]) rfl rfl (by decide) rfl ?_
  refine E_goto (t := 9) rfl rfl ?_
  refine E_iload_n rfl rfl ?_
  refine E_bipush (x := nI 7) rfl (by decide) ?_
  refine E_ic (t := 130) (b := false) rfl rfl (by decide) ?_
  refine E_aload_n rfl rfl ?_
  refine E_getfield (v := .int (nI a)) rfl w65 rfl (by decide) rfl ?_
  refine E_istore (L2 := [some (.ref 65), some (.int (nI 32)), some (.int (nI (max (max (max (max (max a (a + mr0 e n a)) (a + mr1 e n a)) (a + mr2 e n a)) (a + mr3 e n a)) (a + mr4 e n a)))), some (.int (nI 5)), some (.int (nI a)), some (.int c4)]) rfl rfl ?_
  refine E_iload_n rfl rfl ?_
  refine E_istore (L2 := [some (.ref 65), some (.int (nI 32)), some (.int (nI (max (max (max (max (max a (a + mr0 e n a)) (a + mr1 e n a)) (a + mr2 e n a)) (a + mr3 e n a)) (a + mr4 e n a)))), some (.int (nI 5)), some (.int (nI a)), some (.int (nI 32))]) rfl rfl ?_
  refine mw_p5 hj hn ha l_ce hce (f0 := max (max (max (max (max a (a + mr0 e n a)) (a + mr1 e n a)) (a + mr2 e n a)) (a + mr3 e n a)) (a + mr4 e n a)) (by omega) (by omega) (fun c5 => ?_)
  refine E_aload_n rfl rfl ?_
  refine E_getfield (v := .ref 82) rfl w65 rfl (by decide) rfl ?_
  refine E_iload_n rfl rfl ?_
  refine E_ialN (l := [112, 105, 101, 99, 101, 32, 0, 112, 101, 114, 115, 111, 110, 32, 0, 99, 111, 115, 116, 32, 0, 104, 97, 115, 32, 0, 98, 97, 99, 107, 32, 0, 103, 114, 101, 101, 100, 121, 0, 98, 101, 115, 116, 0]) (v := 103) rfl w82 (by omega) (by omega) rfl ?_
  refine E_if (t := 121) (b := false) rfl rfl (by decide) ?_
  refine E_iinc (y := nI 33) (L2 := [some (.ref 65), some (.int (nI 33)), some (.int (nI (max (max (max (max (max (max a (a + mr0 e n a)) (a + mr1 e n a)) (a + mr2 e n a)) (a + mr3 e n a)) (a + mr4 e n a)) (a + mr5 e n a)))), some (.int (nI 5)), some (.int (nI (a + mr5 e n a))), some (.int c5)]) rfl rfl (by decide) rfl ?_
  refine E_goto (t := 106) rfl rfl ?_
  refine E_aload_n rfl rfl ?_
  refine E_getfield (v := .ref 82) rfl w65 rfl (by decide) rfl ?_
  refine E_iload_n rfl rfl ?_
  refine E_ialN (l := [112, 105, 101, 99, 101, 32, 0, 112, 101, 114, 115, 111, 110, 32, 0, 99, 111, 115, 116, 32, 0, 104, 97, 115, 32, 0, 98, 97, 99, 107, 32, 0, 103, 114, 101, 101, 100, 121, 0, 98, 101, 115, 116, 0]) (v := 114) rfl w82 (by omega) (by omega) rfl ?_
  refine E_if (t := 121) (b := false) rfl rfl (by decide) ?_
  refine E_iinc (y := nI 34) (L2 := [some (.ref 65), some (.int (nI 34)), some (.int (nI (max (max (max (max (max (max a (a + mr0 e n a)) (a + mr1 e n a)) (a + mr2 e n a)) (a + mr3 e n a)) (a + mr4 e n a)) (a + mr5 e n a)))), some (.int (nI 5)), some (.int (nI (a + mr5 e n a))), some (.int c5)]) rfl rfl (by decide) rfl ?_
  refine E_goto (t := 106) rfl rfl ?_
  refine E_aload_n rfl rfl ?_
  refine E_getfield (v := .ref 82) rfl w65 rfl (by decide) rfl ?_
  refine E_iload_n rfl rfl ?_
  refine E_ialN (l := [112, 105, 101, 99, 101, 32, 0, 112, 101, 114, 115, 111, 110, 32, 0, 99, 111, 115, 116, 32, 0, 104, 97, 115, 32, 0, 98, 97, 99, 107, 32, 0, 103, 114, 101, 101, 100, 121, 0, 98, 101, 115, 116, 0]) (v := 101) rfl w82 (by omega) (by omega) rfl ?_
  refine E_if (t := 121) (b := false) rfl rfl (by decide) ?_
  refine E_iinc (y := nI 35) (L2 := [some (.ref 65), some (.int (nI 35)), some (.int (nI (max (max (max (max (max (max a (a + mr0 e n a)) (a + mr1 e n a)) (a + mr2 e n a)) (a + mr3 e n a)) (a + mr4 e n a)) (a + mr5 e n a)))), some (.int (nI 5)), some (.int (nI (a + mr5 e n a))), some (.int c5)]) rfl rfl (by decide) rfl ?_
  refine E_goto (t := 106) rfl rfl ?_
  refine E_aload_n rfl rfl ?_
  refine E_getfield (v := .ref 82) rfl w65 rfl (by decide) rfl ?_
  refine E_iload_n rfl rfl ?_
  refine E_ialN (l := [112, 105, 101, 99, 101, 32, 0, 112, 101, 114, 115, 111, 110, 32, 0, 99, 111, 115, 116, 32, 0, 104, 97, 115, 32, 0, 98, 97, 99, 107, 32, 0, 103, 114, 101, 101, 100, 121, 0, 98, 101, 115, 116, 0]) (v := 101) rfl w82 (by omega) (by omega) rfl ?_
  refine E_if (t := 121) (b := false) rfl rfl (by decide) ?_
  refine E_iinc (y := nI 36) (L2 := [some (.ref 65), some (.int (nI 36)), some (.int (nI (max (max (max (max (max (max a (a + mr0 e n a)) (a + mr1 e n a)) (a + mr2 e n a)) (a + mr3 e n a)) (a + mr4 e n a)) (a + mr5 e n a)))), some (.int (nI 5)), some (.int (nI (a + mr5 e n a))), some (.int c5)]) rfl rfl (by decide) rfl ?_
  refine E_goto (t := 106) rfl rfl ?_
  refine E_aload_n rfl rfl ?_
  refine E_getfield (v := .ref 82) rfl w65 rfl (by decide) rfl ?_
  refine E_iload_n rfl rfl ?_
  refine E_ialN (l := [112, 105, 101, 99, 101, 32, 0, 112, 101, 114, 115, 111, 110, 32, 0, 99, 111, 115, 116, 32, 0, 104, 97, 115, 32, 0, 98, 97, 99, 107, 32, 0, 103, 114, 101, 101, 100, 121, 0, 98, 101, 115, 116, 0]) (v := 100) rfl w82 (by omega) (by omega) rfl ?_
  refine E_if (t := 121) (b := false) rfl rfl (by decide) ?_
  refine E_iinc (y := nI 37) (L2 := [some (.ref 65), some (.int (nI 37)), some (.int (nI (max (max (max (max (max (max a (a + mr0 e n a)) (a + mr1 e n a)) (a + mr2 e n a)) (a + mr3 e n a)) (a + mr4 e n a)) (a + mr5 e n a)))), some (.int (nI 5)), some (.int (nI (a + mr5 e n a))), some (.int c5)]) rfl rfl (by decide) rfl ?_
  refine E_goto (t := 106) rfl rfl ?_
  refine E_aload_n rfl rfl ?_
  refine E_getfield (v := .ref 82) rfl w65 rfl (by decide) rfl ?_
  refine E_iload_n rfl rfl ?_
  refine E_ialN (l := [112, 105, 101, 99, 101, 32, 0, 112, 101, 114, 115, 111, 110, 32, 0, 99, 111, 115, 116, 32, 0, 104, 97, 115, 32, 0, 98, 97, 99, 107, 32, 0, 103, 114, 101, 101, 100, 121, 0, 98, 101, 115, 116, 0]) (v := 121) rfl w82 (by omega) (by omega) rfl ?_
  refine E_if (t := 121) (b := false) rfl rfl (by decide) ?_
  refine E_iinc (y := nI 38) (L2 := [some (.ref 65), some (.int (nI 38)), some (.int (nI (max (max (max (max (max (max a (a + mr0 e n a)) (a + mr1 e n a)) (a + mr2 e n a)) (a + mr3 e n a)) (a + mr4 e n a)) (a + mr5 e n a)))), some (.int (nI 5)), some (.int (nI (a + mr5 e n a))), some (.int c5)]) rfl rfl (by decide) rfl ?_
  refine E_goto (t := 106) rfl rfl ?_
  refine E_aload_n rfl rfl ?_
  refine E_getfield (v := .ref 82) rfl w65 rfl (by decide) rfl ?_
  refine E_iload_n rfl rfl ?_
  refine E_ialN (l := [112, 105, 101, 99, 101, 32, 0, 112, 101, 114, 115, 111, 110, 32, 0, 99, 111, 115, 116, 32, 0, 104, 97, 115, 32, 0, 98, 97, 99, 107, 32, 0, 103, 114, 101, 101, 100, 121, 0, 98, 101, 115, 116, 0]) (v := 0) rfl w82 (by omega) (by omega) rfl ?_
  refine E_if (t := 121) (b := true) rfl rfl (by decide) ?_
  refine E_iinc (y := nI 39) (L2 := [some (.ref 65), some (.int (nI 39)), some (.int (nI (max (max (max (max (max (max a (a + mr0 e n a)) (a + mr1 e n a)) (a + mr2 e n a)) (a + mr3 e n a)) (a + mr4 e n a)) (a + mr5 e n a)))), some (.int (nI 5)), some (.int (nI (a + mr5 e n a))), some (.int c5)]) rfl rfl (by decide) rfl ?_
  refine E_iinc (y := nI 6) (L2 := [some (.ref 65), some (.int (nI 39)), some (.int (nI (max (max (max (max (max (max a (a + mr0 e n a)) (a + mr1 e n a)) (a + mr2 e n a)) (a + mr3 e n a)) (a + mr4 e n a)) (a + mr5 e n a)))), some (.int (nI 6)), some (.int (nI (a + mr5 e n a))), some (.int c5)]) rfl rfl (by decide) rfl ?_
  refine E_goto (t := 9) rfl rfl ?_
  refine E_iload_n rfl rfl ?_
  refine E_bipush (x := nI 7) rfl (by decide) ?_
  refine E_ic (t := 130) (b := false) rfl rfl (by decide) ?_
  refine E_aload_n rfl rfl ?_
  refine E_getfield (v := .int (nI a)) rfl w65 rfl (by decide) rfl ?_
  refine E_istore (L2 := [some (.ref 65), some (.int (nI 39)), some (.int (nI (max (max (max (max (max (max a (a + mr0 e n a)) (a + mr1 e n a)) (a + mr2 e n a)) (a + mr3 e n a)) (a + mr4 e n a)) (a + mr5 e n a)))), some (.int (nI 6)), some (.int (nI a)), some (.int c5)]) rfl rfl ?_
  refine E_iload_n rfl rfl ?_
  refine E_istore (L2 := [some (.ref 65), some (.int (nI 39)), some (.int (nI (max (max (max (max (max (max a (a + mr0 e n a)) (a + mr1 e n a)) (a + mr2 e n a)) (a + mr3 e n a)) (a + mr4 e n a)) (a + mr5 e n a)))), some (.int (nI 6)), some (.int (nI a)), some (.int (nI 39))]) rfl rfl ?_
  refine mw_f6 hj hn ha l_ce hce (by omega) ?_
  refine E_aload_n rfl rfl ?_
  refine E_iload rfl rfl ?_
  refine E_putfield (cs2 := (ww im lf s d k ls rf rz ra rn rq lt m1 m2 m3 m4 bd fc hd sz el q (fUp (fUp (fUp (fUp (fUp (fUp g 27 (nI (160 * j))) 29 (nI n)) 6 (-1)) 28 (nI (a + 4))) 30 x30) 31 x31) fm hm so si sh ce ca td wa kp la bf oo bo pw ow tr)) rfl w65 rfl (by decide) (Nat.le_of_ble_eq_true rfl) rfl rfl rfl (w_pt65_28.trans (by rw [gn28])) ?_
  refine E_iload_n rfl rfl ?_
  exact E_iret rfl rfl
set_option maxHeartbeats 1000000 in
theorem m_wd7 {e : List Int64} {n a j : Nat} {x30 x31 : Int32} {q : ab_q} (hj : j < 8) (hn : n ≤ 160) (ha : a ≤ n) (l_ce : ce.length = 1280) (hce : ∀ p, p < 160 → e.getD p 0 = ce.getD (160 * j + p) 0) (hw : wd e n a = 7) : Ev ab_Z0 1 158 [.ref 65] (ww im lf s d k ls rf rz ra rn rq lt m1 m2 m3 m4 bd fc hd sz el q (fUp (fUp (fUp (fUp (fUp (fUp g 27 (nI (160 * j))) 29 (nI n)) 6 (-1)) 28 (nI a)) 30 x30) 31 x31) fm hm so si sh ce ca td wa kp la bf oo bo pw ow tr) (some (.int (-1)), (ww im lf s d k ls rf rz ra rn rq lt m1 m2 m3 m4 bd fc hd sz el q (fUp (fUp (fUp (fUp (fUp (fUp g 27 (nI (160 * j))) 29 (nI n)) 6 (-1)) 28 (nI a)) 30 x30) 31 (nI (a + mxL e n a))) fm hm so si sh ce ca td wa kp la bf oo bo pw ow tr)) := by
  have : ([112, 105, 101, 99, 101, 32, 0, 112, 101, 114, 115, 111, 110, 32, 0, 99, 111, 115, 116, 32, 0, 104, 97, 115, 32, 0, 98, 97, 99, 107, 32, 0, 103, 114, 101, 101, 100, 121, 0, 98, 101, 115, 116, 0] : List Nat).length = 44 := rfl
  have hwc := wd_c e n a
  have hs0 := mrS_0 e n a
  have hl0 := mr0_le e n a
  have hs1 := mrS_1 e n a
  have hl1 := mr1_le e n a
  have hs2 := mrS_2 e n a
  have hl2 := mr2_le e n a
  have hs3 := mrS_3 e n a
  have hl3 := mr3_le e n a
  have hs4 := mrS_4 e n a
  have hl4 := mr4_le e n a
  have hs5 := mrS_5 e n a
  have hl5 := mr5_le e n a
  have hs6 := mrS_6 e n a
  have hl6 := mr6_le e n a
  have hu0 : mr0 e n a = mj0 e n a := by rw [hs0]; exact if_neg (fun z => by omega)
  have hj0_ := mj0_le e n a
  have hu1 : mr1 e n a = mj1 e n a := by rw [hs1]; exact if_neg (fun z => by omega)
  have hj1_ := mj1_le e n a
  have hu2 : mr2 e n a = mj2 e n a := by rw [hs2]; exact if_neg (fun z => by omega)
  have hj2_ := mj2_le e n a
  have hu3 : mr3 e n a = mj3 e n a := by rw [hs3]; exact if_neg (fun z => by omega)
  have hj3_ := mj3_le e n a
  have hu4 : mr4 e n a = mj4 e n a := by rw [hs4]; exact if_neg (fun z => by omega)
  have hj4_ := mj4_le e n a
  have hu5 : mr5 e n a = mj5 e n a := rfl
  have hj5_ := mj5_le e n a
  have hu6 : mr6 e n a = mj6 e n a := rfl
  have hj6_ := mj6_le e n a
  have hfar : max (max (max (max (max (max (max a (a + mr0 e n a)) (a + mr1 e n a)) (a + mr2 e n a)) (a + mr3 e n a)) (a + mr4 e n a)) (a + mr5 e n a)) (a + mr6 e n a) = a + mxL e n a := by
    rw [hu0, hu1, hu2, hu3, hu4, hu5, hu6]
    show max (max (max (max (max (max (max (a + 0) (a + mj0 e n a)) (a + mj1 e n a)) (a + mj2 e n a)) (a + mj3 e n a)) (a + mj4 e n a)) (a + mj5 e n a)) (a + mj6 e n a) = _
    rw [mxa, mxa, mxa, mxa, mxa, mxa, mxa]
    rfl
  rw [← hfar]
  refine Ef.in (md := mX6_word) (L := [some (.ref 65), none, none, none, none, none]) rfl (Nat.le_of_ble_eq_true rfl) rfl ?_
  refine E_iconst (x := nI 0) rfl (by decide) ?_
  refine E_istore_n (L2 := [some (.ref 65), some (.int (nI 0)), none, none, none, none]) rfl rfl ?_
  refine E_aload_n rfl rfl ?_
  refine E_getfield (v := .int (nI a)) rfl w65 rfl (by decide) rfl ?_
  refine E_istore_n (L2 := [some (.ref 65), some (.int (nI 0)), some (.int (nI a)), none, none, none]) rfl rfl ?_
  refine E_iconst (x := nI 0) rfl (by decide) ?_
  refine E_istore_n (L2 := [some (.ref 65), some (.int (nI 0)), some (.int (nI a)), some (.int (nI 0)), none, none]) rfl rfl ?_
  refine E_iload_n rfl rfl ?_
  refine E_bipush (x := nI 7) rfl (by decide) ?_
  refine E_ic (t := 130) (b := false) rfl rfl (by decide) ?_
  refine E_aload_n rfl rfl ?_
  refine E_getfield (v := .int (nI a)) rfl w65 rfl (by decide) rfl ?_
  refine E_istore (L2 := [some (.ref 65), some (.int (nI 0)), some (.int (nI a)), some (.int (nI 0)), some (.int (nI a)), none]) rfl rfl ?_
  refine E_iload_n rfl rfl ?_
  refine E_istore (L2 := [some (.ref 65), some (.int (nI 0)), some (.int (nI a)), some (.int (nI 0)), some (.int (nI a)), some (.int (nI 0))]) rfl rfl ?_
  refine mw_p0 hj hn ha l_ce hce (f0 := a) (by omega) (by omega) (fun c0 => ?_)
  refine E_aload_n rfl rfl ?_
  refine E_getfield (v := .ref 82) rfl w65 rfl (by decide) rfl ?_
  refine E_iload_n rfl rfl ?_
  refine E_ialN (l := [112, 105, 101, 99, 101, 32, 0, 112, 101, 114, 115, 111, 110, 32, 0, 99, 111, 115, 116, 32, 0, 104, 97, 115, 32, 0, 98, 97, 99, 107, 32, 0, 103, 114, 101, 101, 100, 121, 0, 98, 101, 115, 116, 0]) (v := 112) rfl w82 (by omega) (by omega) rfl ?_
  refine E_if (t := 121) (b := false) rfl rfl (by decide) ?_
  refine E_iinc (y := nI 1) (L2 := [some (.ref 65), some (.int (nI 1)), some (.int (nI (max a (a + mr0 e n a)))), some (.int (nI 0)), some (.int (nI (a + mr0 e n a))), some (.int c0)]) rfl rfl (by decide) rfl ?_
  refine E_goto (t := 106) rfl rfl ?_
  refine E_aload_n rfl rfl ?_
  refine E_getfield (v := .ref 82) rfl w65 rfl (by decide) rfl ?_
  refine E_iload_n rfl rfl ?_
  refine E_ialN (l := [112, 105, 101, 99, 101, 32, 0, 112, 101, 114, 115, 111, 110, 32, 0, 99, 111, 115, 116, 32, 0, 104, 97, 115, 32, 0, 98, 97, 99, 107, 32, 0, 103, 114, 101, 101, 100, 121, 0, 98, 101, 115, 116, 0]) (v := 105) rfl w82 (by omega) (by omega) rfl ?_
  refine E_if (t := 121) (b := false) rfl rfl (by decide) ?_
  refine E_iinc (y := nI 2) (L2 := [some (.ref 65), some (.int (nI 2)), some (.int (nI (max a (a + mr0 e n a)))), some (.int (nI 0)), some (.int (nI (a + mr0 e n a))), some (.int c0)]) rfl rfl (by decide) rfl ?_
  refine E_goto (t := 106) rfl rfl ?_
  refine E_aload_n rfl rfl ?_
  refine E_getfield (v := .ref 82) rfl w65 rfl (by decide) rfl ?_
  refine E_iload_n rfl rfl ?_
  refine E_ialN (l := [112, 105, 101, 99, 101, 32, 0, 112, 101, 114, 115, 111, 110, 32, 0, 99, 111, 115, 116, 32, 0, 104, 97, 115, 32, 0, 98, 97, 99, 107, 32, 0, 103, 114, 101, 101, 100, 121, 0, 98, 101, 115, 116, 0]) (v := 101) rfl w82 (by omega) (by omega) rfl ?_
  refine E_if (t := 121) (b := false) rfl rfl (by decide) ?_
  refine E_iinc (y := nI 3) (L2 := [some (.ref 65), some (.int (nI 3)), some (.int (nI (max a (a + mr0 e n a)))), some (.int (nI 0)), some (.int (nI (a + mr0 e n a))), some (.int c0)]) rfl rfl (by decide) rfl ?_
  refine E_goto (t := 106) rfl rfl ?_
  refine E_aload_n rfl rfl ?_
  refine E_getfield (v := .ref 82) rfl w65 rfl (by decide) rfl ?_
  refine E_iload_n rfl rfl ?_
  refine E_ialN (l := [112, 105, 101, 99, 101, 32, 0, 112, 101, 114, 115, 111, 110, 32, 0, 99, 111, 115, 116, 32, 0, 104, 97, 115, 32, 0, 98, 97, 99, 107, 32, 0, 103, 114, 101, 101, 100, 121, 0, 98, 101, 115, 116, 0]) (v := 99) rfl w82 (by omega) (by omega) rfl ?_
  refine E_if (t := 121) (b := false) rfl rfl (by decide) ?_
  refine E_iinc (y := nI 4) (L2 := [some (.ref 65), some (.int (nI 4)), some (.int (nI (max a (a + mr0 e n a)))), some (.int (nI 0)), some (.int (nI (a + mr0 e n a))), some (.int c0)]) rfl rfl (by decide) rfl ?_
  refine E_goto (t := 106) rfl rfl ?_
  refine E_aload_n rfl rfl ?_
  refine E_getfield (v := .ref 82) rfl w65 rfl (by decide) rfl ?_
  refine E_iload_n rfl rfl ?_
  refine E_ialN (l := [112, 105, 101, 99, 101, 32, 0, 112, 101, 114, 115, 111, 110, 32, 0, 99, 111, 115, 116, 32, 0, 104, 97, 115, 32, 0, 98, 97, 99, 107, 32, 0, 103, 114, 101, 101, 100, 121, 0, 98, 101, 115, 116, 0]) (v := 101) rfl w82 (by omega) (by omega) rfl ?_
  refine E_if (t := 121) (b := false) rfl rfl (by decide) ?_
  refine E_iinc (y := nI 5) (L2 := [some (.ref 65), some (.int (nI 5)), some (.int (nI (max a (a + mr0 e n a)))), some (.int (nI 0)), some (.int (nI (a + mr0 e n a))), some (.int c0)]) rfl rfl (by decide) rfl ?_
  refine E_goto (t := 106) rfl rfl ?_
  refine E_aload_n rfl rfl ?_
  refine E_getfield (v := .ref 82) rfl w65 rfl (by decide) rfl ?_
  refine E_iload_n rfl rfl ?_
  refine E_ialN (l := [112, 105, 101, 99, 101, 32, 0, 112, 101, 114, 115, 111, 110, 32, 0, 99, 111, 115, 116, 32, 0, 104, 97, 115, 32, 0, 98, 97, 99, 107, 32, 0, 103, 114, 101, 101, 100, 121, 0, 98, 101, 115, 116, 0]) (v := 32) rfl w82 (by omega) (by omega) rfl ?_
  refine E_if (t := 121) (b := false) rfl rfl (by decide) ?_
  refine E_iinc (y := nI 6) (L2 := [some (.ref 65), some (.int (nI 6)), some (.int (nI (max a (a + mr0 e n a)))), some (.int (nI 0)), some (.int (nI (a + mr0 e n a))), some (.int c0)]) rfl rfl (by decide) rfl ?_
  refine E_goto (t := 106) rfl rfl ?_
  refine E_aload_n rfl rfl ?_
  refine E_getfield (v := .ref 82) rfl w65 rfl (by decide) rfl ?_
  refine E_iload_n rfl rfl ?_
  refine E_ialN (l := [112, 105, 101, 99, 101, 32, 0, 112, 101, 114, 115, 111, 110, 32, 0, 99, 111, 115, 116, 32, 0, 104, 97, 115, 32, 0, 98, 97, 99, 107, 32, 0, 103, 114, 101, 101, 100, 121, 0, 98, 101, 115, 116, 0]) (v := 0) rfl w82 (by omega) (by omega) rfl ?_
  refine E_if (t := 121) (b := true) rfl rfl (by decide) ?_
  refine E_iinc (y := nI 7) (L2 := [some (.ref 65), some (.int (nI 7)), some (.int (nI (max a (a + mr0 e n a)))), some (.int (nI 0)), some (.int (nI (a + mr0 e n a))), some (.int c0)]) rfl rfl (by decide) rfl ?_
  refine E_iinc (y := nI 1) (L2 := [some (.ref 65), some (.int (nI 7)), some (.int (nI (max a (a + mr0 e n a)))), some (.int (nI 1)), some (.int (nI (a + mr0 e n a))), some (.int c0)]) rfl rfl (by decide) rfl ?_
  refine E_goto (t := 9) rfl rfl ?_
  refine E_iload_n rfl rfl ?_
  refine E_bipush (x := nI 7) rfl (by decide) ?_
  refine E_ic (t := 130) (b := false) rfl rfl (by decide) ?_
  refine E_aload_n rfl rfl ?_
  refine E_getfield (v := .int (nI a)) rfl w65 rfl (by decide) rfl ?_
  refine E_istore (L2 := [some (.ref 65), some (.int (nI 7)), some (.int (nI (max a (a + mr0 e n a)))), some (.int (nI 1)), some (.int (nI a)), some (.int c0)]) rfl rfl ?_
  refine E_iload_n rfl rfl ?_
  refine E_istore (L2 := [some (.ref 65), some (.int (nI 7)), some (.int (nI (max a (a + mr0 e n a)))), some (.int (nI 1)), some (.int (nI a)), some (.int (nI 7))]) rfl rfl ?_
  refine mw_p1 hj hn ha l_ce hce (f0 := max a (a + mr0 e n a)) (by omega) (by omega) (fun c1 => ?_)
  refine E_aload_n rfl rfl ?_
  refine E_getfield (v := .ref 82) rfl w65 rfl (by decide) rfl ?_
  refine E_iload_n rfl rfl ?_
  refine E_ialN (l := [112, 105, 101, 99, 101, 32, 0, 112, 101, 114, 115, 111, 110, 32, 0, 99, 111, 115, 116, 32, 0, 104, 97, 115, 32, 0, 98, 97, 99, 107, 32, 0, 103, 114, 101, 101, 100, 121, 0, 98, 101, 115, 116, 0]) (v := 112) rfl w82 (by omega) (by omega) rfl ?_
  refine E_if (t := 121) (b := false) rfl rfl (by decide) ?_
  refine E_iinc (y := nI 8) (L2 := [some (.ref 65), some (.int (nI 8)), some (.int (nI (max (max a (a + mr0 e n a)) (a + mr1 e n a)))), some (.int (nI 1)), some (.int (nI (a + mr1 e n a))), some (.int c1)]) rfl rfl (by decide) rfl ?_
  refine E_goto (t := 106) rfl rfl ?_
  refine E_aload_n rfl rfl ?_
  refine E_getfield (v := .ref 82) rfl w65 rfl (by decide) rfl ?_
  refine E_iload_n rfl rfl ?_
  refine E_ialN (l := [112, 105, 101, 99, 101, 32, 0, 112, 101, 114, 115, 111, 110, 32, 0, 99, 111, 115, 116, 32, 0, 104, 97, 115, 32, 0, 98, 97, 99, 107, 32, 0, 103, 114, 101, 101, 100, 121, 0, 98, 101, 115, 116, 0]) (v := 101) rfl w82 (by omega) (by omega) rfl ?_
  refine E_if (t := 121) (b := false) rfl rfl (by decide) ?_
  refine E_iinc (y := nI 9) (L2 := [some (.ref 65), some (.int (nI 9)), some (.int (nI (max (max a (a + mr0 e n a)) (a + mr1 e n a)))), some (.int (nI 1)), some (.int (nI (a + mr1 e n a))), some (.int c1)]) rfl rfl (by decide) rfl ?_
  refine E_goto (t := 106) rfl rfl ?_
  refine E_aload_n rfl rfl ?_
  refine E_getfield (v := .ref 82) rfl w65 rfl (by decide) rfl ?_
  refine E_iload_n rfl rfl ?_
  refine E_ialN (l := [112, 105, 101, 99, 101, 32, 0, 112, 101, 114, 115, 111, 110, 32, 0, 99, 111, 115, 116, 32, 0, 104, 97, 115, 32, 0, 98, 97, 99, 107, 32, 0, 103, 114, 101, 101, 100, 121, 0, 98, 101, 115, 116, 0]) (v := 114) rfl w82 (by omega) (by omega) rfl ?_
  refine E_if (t := 121) (b := false) rfl rfl (by decide) ?_
  refine E_iinc (y := nI 10) (L2 := [some (.ref 65), some (.int (nI 10)), some (.int (nI (max (max a (a + mr0 e n a)) (a + mr1 e n a)))), some (.int (nI 1)), some (.int (nI (a + mr1 e n a))), some (.int c1)]) rfl rfl (by decide) rfl ?_
  refine E_goto (t := 106) rfl rfl ?_
  refine E_aload_n rfl rfl ?_
  refine E_getfield (v := .ref 82) rfl w65 rfl (by decide) rfl ?_
  refine E_iload_n rfl rfl ?_
  refine E_ialN (l := [112, 105, 101, 99, 101, 32, 0, 112, 101, 114, 115, 111, 110, 32, 0, 99, 111, 115, 116, 32, 0, 104, 97, 115, 32, 0, 98, 97, 99, 107, 32, 0, 103, 114, 101, 101, 100, 121, 0, 98, 101, 115, 116, 0]) (v := 115) rfl w82 (by omega) (by omega) rfl ?_
  refine E_if (t := 121) (b := false) rfl rfl (by decide) ?_
  refine E_iinc (y := nI 11) (L2 := [some (.ref 65), some (.int (nI 11)), some (.int (nI (max (max a (a + mr0 e n a)) (a + mr1 e n a)))), some (.int (nI 1)), some (.int (nI (a + mr1 e n a))), some (.int c1)]) rfl rfl (by decide) rfl ?_
  refine E_goto (t := 106) rfl rfl ?_
  refine E_aload_n rfl rfl ?_
  refine E_getfield (v := .ref 82) rfl w65 rfl (by decide) rfl ?_
  refine E_iload_n rfl rfl ?_
  refine E_ialN (l := [112, 105, 101, 99, 101, 32, 0, 112, 101, 114, 115, 111, 110, 32, 0, 99, 111, 115, 116, 32, 0, 104, 97, 115, 32, 0, 98, 97, 99, 107, 32, 0, 103, 114, 101, 101, 100, 121, 0, 98, 101, 115, 116, 0]) (v := 111) rfl w82 (by omega) (by omega) rfl ?_
  refine E_if (t := 121) (b := false) rfl rfl (by decide) ?_
  refine E_iinc (y := nI 12) (L2 := [some (.ref 65), some (.int (nI 12)), some (.int (nI (max (max a (a + mr0 e n a)) (a + mr1 e n a)))), some (.int (nI 1)), some (.int (nI (a + mr1 e n a))), some (.int c1)]) rfl rfl (by decide) rfl ?_
  refine E_goto (t := 106) rfl rfl ?_
  refine E_aload_n rfl rfl ?_
  refine E_getfield (v := .ref 82) rfl w65 rfl (by decide) rfl ?_
  refine E_iload_n rfl rfl ?_
  refine E_ialN (l := [112, 105, 101, 99, 101, 32, 0, 112, 101, 114, 115, 111, 110, 32, 0, 99, 111, 115, 116, 32, 0, 104, 97, 115, 32, 0, 98, 97, 99, 107, 32, 0, 103, 114, 101, 101, 100, 121, 0, 98, 101, 115, 116, 0]) (v := 110) rfl w82 (by omega) (by omega) rfl ?_
  refine E_if (t := 121) (b := false) rfl rfl (by decide) ?_
  refine E_iinc (y := nI 13) (L2 := [some (.ref 65), some (.int (nI 13)), some (.int (nI (max (max a (a + mr0 e n a)) (a + mr1 e n a)))), some (.int (nI 1)), some (.int (nI (a + mr1 e n a))), some (.int c1)]) rfl rfl (by decide) rfl ?_
  refine E_goto (t := 106) rfl rfl ?_
  refine E_aload_n rfl rfl ?_
  refine E_getfield (v := .ref 82) rfl w65 rfl (by decide) rfl ?_
  refine E_iload_n rfl rfl ?_
  refine E_ialN (l := [112, 105, 101, 99, 101, 32, 0, 112, 101, 114, 115, 111, 110, 32, 0, 99, 111, 115, 116, 32, 0, 104, 97, 115, 32, 0, 98, 97, 99, 107, 32, 0, 103, 114, 101, 101, 100, 121, 0, 98, 101, 115, 116, 0]) (v := 32) rfl w82 (by omega) (by omega) rfl ?_
  refine E_if (t := 121) (b := false) rfl rfl (by decide) ?_
  refine E_iinc (y := nI 14) (L2 := [some (.ref 65), some (.int (nI 14)), some (.int (nI (max (max a (a + mr0 e n a)) (a + mr1 e n a)))), some (.int (nI 1)), some (.int (nI (a + mr1 e n a))), some (.int c1)]) rfl rfl (by decide) rfl ?_
  refine E_goto (t := 106) rfl rfl ?_
  refine E_aload_n rfl rfl ?_
  refine E_getfield (v := .ref 82) rfl w65 rfl (by decide) rfl ?_
  refine E_iload_n rfl rfl ?_
  refine E_ialN (l := [112, 105, 101, 99, 101, 32, 0, 112, 101, 114, 115, 111, 110, 32, 0, 99, 111, 115, 116, 32, 0, 104, 97, 115, 32, 0, 98, 97, 99, 107, 32, 0, 103, 114, 101, 101, 100, 121, 0, 98, 101, 115, 116, 0]) (v := 0) rfl w82 (by omega) (by omega) rfl ?_
  refine E_if (t := 121) (b := true) rfl rfl (by decide) ?_
  refine E_iinc (y := nI 15) (L2 := [some (.ref 65), some (.int (nI 15)), some (.int (nI (max (max a (a + mr0 e n a)) (a + mr1 e n a)))), some (.int (nI 1)), some (.int (nI (a + mr1 e n a))), some (.int c1)]) rfl rfl (by decide) rfl ?_
  refine E_iinc (y := nI 2) (L2 := [some (.ref 65), some (.int (nI 15)), some (.int (nI (max (max a (a + mr0 e n a)) (a + mr1 e n a)))), some (.int (nI 2)), some (.int (nI (a + mr1 e n a))), some (.int c1)]) rfl rfl (by decide) rfl ?_
  refine E_goto (t := 9) rfl rfl ?_
  refine E_iload_n rfl rfl ?_
  refine E_bipush (x := nI 7) rfl (by decide) ?_
  refine E_ic (t := 130) (b := false) rfl rfl (by decide) ?_
  refine E_aload_n rfl rfl ?_
  refine E_getfield (v := .int (nI a)) rfl w65 rfl (by decide) rfl ?_
  refine E_istore (L2 := [some (.ref 65), some (.int (nI 15)), some (.int (nI (max (max a (a + mr0 e n a)) (a + mr1 e n a)))), some (.int (nI 2)), some (.int (nI a)), some (.int c1)]) rfl rfl ?_
  refine E_iload_n rfl rfl ?_
  refine E_istore (L2 := [some (.ref 65), some (.int (nI 15)), some (.int (nI (max (max a (a + mr0 e n a)) (a + mr1 e n a)))), some (.int (nI 2)), some (.int (nI a)), some (.int (nI 15))]) rfl rfl ?_
  refine mw_p2 hj hn ha l_ce hce (f0 := max (max a (a + mr0 e n a)) (a + mr1 e n a)) (by omega) (by omega) (fun c2 => ?_)
  refine E_aload_n rfl rfl ?_
  refine E_getfield (v := .ref 82) rfl w65 rfl (by decide) rfl ?_
  refine E_iload_n rfl rfl ?_
  refine E_ialN (l := [112, 105, 101, 99, 101, 32, 0, 112, 101, 114, 115, 111, 110, 32, 0, 99, 111, 115, 116, 32, 0, 104, 97, 115, 32, 0, 98, 97, 99, 107, 32, 0, 103, 114, 101, 101, 100, 121, 0, 98, 101, 115, 116, 0]) (v := 99) rfl w82 (by omega) (by omega) rfl ?_
  refine E_if (t := 121) (b := false) rfl rfl (by decide) ?_
  refine E_iinc (y := nI 16) (L2 := [some (.ref 65), some (.int (nI 16)), some (.int (nI (max (max (max a (a + mr0 e n a)) (a + mr1 e n a)) (a + mr2 e n a)))), some (.int (nI 2)), some (.int (nI (a + mr2 e n a))), some (.int c2)]) rfl rfl (by decide) rfl ?_
  refine E_goto (t := 106) rfl rfl ?_
  refine E_aload_n rfl rfl ?_
  refine E_getfield (v := .ref 82) rfl w65 rfl (by decide) rfl ?_
  refine E_iload_n rfl rfl ?_
  refine E_ialN (l := [112, 105, 101, 99, 101, 32, 0, 112, 101, 114, 115, 111, 110, 32, 0, 99, 111, 115, 116, 32, 0, 104, 97, 115, 32, 0, 98, 97, 99, 107, 32, 0, 103, 114, 101, 101, 100, 121, 0, 98, 101, 115, 116, 0]) (v := 111) rfl w82 (by omega) (by omega) rfl ?_
  refine E_if (t := 121) (b := false) rfl rfl (by decide) ?_
  refine E_iinc (y := nI 17) (L2 := [some (.ref 65), some (.int (nI 17)), some (.int (nI (max (max (max a (a + mr0 e n a)) (a + mr1 e n a)) (a + mr2 e n a)))), some (.int (nI 2)), some (.int (nI (a + mr2 e n a))), some (.int c2)]) rfl rfl (by decide) rfl ?_
  refine E_goto (t := 106) rfl rfl ?_
  refine E_aload_n rfl rfl ?_
  refine E_getfield (v := .ref 82) rfl w65 rfl (by decide) rfl ?_
  refine E_iload_n rfl rfl ?_
  refine E_ialN (l := [112, 105, 101, 99, 101, 32, 0, 112, 101, 114, 115, 111, 110, 32, 0, 99, 111, 115, 116, 32, 0, 104, 97, 115, 32, 0, 98, 97, 99, 107, 32, 0, 103, 114, 101, 101, 100, 121, 0, 98, 101, 115, 116, 0]) (v := 115) rfl w82 (by omega) (by omega) rfl ?_
  refine E_if (t := 121) (b := false) rfl rfl (by decide) ?_
  refine E_iinc (y := nI 18) (L2 := [some (.ref 65), some (.int (nI 18)), some (.int (nI (max (max (max a (a + mr0 e n a)) (a + mr1 e n a)) (a + mr2 e n a)))), some (.int (nI 2)), some (.int (nI (a + mr2 e n a))), some (.int c2)]) rfl rfl (by decide) rfl ?_
  refine E_goto (t := 106) rfl rfl ?_
  refine E_aload_n rfl rfl ?_
  refine E_getfield (v := .ref 82) rfl w65 rfl (by decide) rfl ?_
  refine E_iload_n rfl rfl ?_
  refine E_ialN (l := [112, 105, 101, 99, 101, 32, 0, 112, 101, 114, 115, 111, 110, 32, 0, 99, 111, 115, 116, 32, 0, 104, 97, 115, 32, 0, 98, 97, 99, 107, 32, 0, 103, 114, 101, 101, 100, 121, 0, 98, 101, 115, 116, 0]) (v := 116) rfl w82 (by omega) (by omega) rfl ?_
  refine E_if (t := 121) (b := false) rfl rfl (by decide) ?_
  refine E_iinc (y := nI 19) (L2 := [some (.ref 65), some (.int (nI 19)), some (.int (nI (max (max (max a (a + mr0 e n a)) (a + mr1 e n a)) (a + mr2 e n a)))), some (.int (nI 2)), some (.int (nI (a + mr2 e n a))), some (.int c2)]) rfl rfl (by decide) rfl ?_
  refine E_goto (t := 106) rfl rfl ?_
  refine E_aload_n rfl rfl ?_
  refine E_getfield (v := .ref 82) rfl w65 rfl (by decide) rfl ?_
  refine E_iload_n rfl rfl ?_
  refine E_ialN (l := [112, 105, 101, 99, 101, 32, 0, 112, 101, 114, 115, 111, 110, 32, 0, 99, 111, 115, 116, 32, 0, 104, 97, 115, 32, 0, 98, 97, 99, 107, 32, 0, 103, 114, 101, 101, 100, 121, 0, 98, 101, 115, 116, 0]) (v := 32) rfl w82 (by omega) (by omega) rfl ?_
  refine E_if (t := 121) (b := false) rfl rfl (by decide) ?_
  refine E_iinc (y := nI 20) (L2 := [some (.ref 65), some (.int (nI 20)), some (.int (nI (max (max (max a (a + mr0 e n a)) (a + mr1 e n a)) (a + mr2 e n a)))), some (.int (nI 2)), some (.int (nI (a + mr2 e n a))), some (.int c2)]) rfl rfl (by decide) rfl ?_
  refine E_goto (t := 106) rfl rfl ?_
  refine E_aload_n rfl rfl ?_
  refine E_getfield (v := .ref 82) rfl w65 rfl (by decide) rfl ?_
  refine E_iload_n rfl rfl ?_
  refine E_ialN (l := [112, 105, 101, 99, 101, 32, 0, 112, 101, 114, 115, 111, 110, 32, 0, 99, 111, 115, 116, 32, 0, 104, 97, 115, 32, 0, 98, 97, 99, 107, 32, 0, 103, 114, 101, 101, 100, 121, 0, 98, 101, 115, 116, 0]) (v := 0) rfl w82 (by omega) (by omega) rfl ?_
  refine E_if (t := 121) (b := true) rfl rfl (by decide) ?_
  refine E_iinc (y := nI 21) (L2 := [some (.ref 65), some (.int (nI 21)), some (.int (nI (max (max (max a (a + mr0 e n a)) (a + mr1 e n a)) (a + mr2 e n a)))), some (.int (nI 2)), some (.int (nI (a + mr2 e n a))), some (.int c2)]) rfl rfl (by decide) rfl ?_
  refine E_iinc (y := nI 3) (L2 := [some (.ref 65), some (.int (nI 21)), some (.int (nI (max (max (max a (a + mr0 e n a)) (a + mr1 e n a)) (a + mr2 e n a)))), some (.int (nI 3)), some (.int (nI (a + mr2 e n a))), some (.int c2)]) rfl rfl (by decide) rfl ?_
  refine E_goto (t := 9) rfl rfl ?_
  refine E_iload_n rfl rfl ?_
  refine E_bipush (x := nI 7) rfl (by decide) ?_
  refine E_ic (t := 130) (b := false) rfl rfl (by decide) ?_
  refine E_aload_n rfl rfl ?_
  refine E_getfield (v := .int (nI a)) rfl w65 rfl (by decide) rfl ?_
  refine E_istore (L2 := [some (.ref 65), some (.int (nI 21)), some (.int (nI (max (max (max a (a + mr0 e n a)) (a + mr1 e n a)) (a + mr2 e n a)))), some (.int (nI 3)), some (.int (nI a)), some (.int c2)]) rfl rfl ?_
  refine E_iload_n rfl rfl ?_
  refine E_istore (L2 := [some (.ref 65), some (.int (nI 21)), some (.int (nI (max (max (max a (a + mr0 e n a)) (a + mr1 e n a)) (a + mr2 e n a)))), some (.int (nI 3)), some (.int (nI a)), some (.int (nI 21))]) rfl rfl ?_
  refine mw_p3 hj hn ha l_ce hce (f0 := max (max (max a (a + mr0 e n a)) (a + mr1 e n a)) (a + mr2 e n a)) (by omega) (by omega) (fun c3 => ?_)
  refine E_aload_n rfl rfl ?_
  refine E_getfield (v := .ref 82) rfl w65 rfl (by decide) rfl ?_
  refine E_iload_n rfl rfl ?_
  refine E_ialN (l := [112, 105, 101, 99, 101, 32, 0, 112, 101, 114, 115, 111, 110, 32, 0, 99, 111, 115, 116, 32, 0, 104, 97, 115, 32, 0, 98, 97, 99, 107, 32, 0, 103, 114, 101, 101, 100, 121, 0, 98, 101, 115, 116, 0]) (v := 104) rfl w82 (by omega) (by omega) rfl ?_
  refine E_if (t := 121) (b := false) rfl rfl (by decide) ?_
  refine E_iinc (y := nI 22) (L2 := [some (.ref 65), some (.int (nI 22)), some (.int (nI (max (max (max (max a (a + mr0 e n a)) (a + mr1 e n a)) (a + mr2 e n a)) (a + mr3 e n a)))), some (.int (nI 3)), some (.int (nI (a + mr3 e n a))), some (.int c3)]) rfl rfl (by decide) rfl ?_
  refine E_goto (t := 106) rfl rfl ?_
  refine E_aload_n rfl rfl ?_
  refine E_getfield (v := .ref 82) rfl w65 rfl (by decide) rfl ?_
  refine E_iload_n rfl rfl ?_
  refine E_ialN (l := [112, 105, 101, 99, 101, 32, 0, 112, 101, 114, 115, 111, 110, 32, 0, 99, 111, 115, 116, 32, 0, 104, 97, 115, 32, 0, 98, 97, 99, 107, 32, 0, 103, 114, 101, 101, 100, 121, 0, 98, 101, 115, 116, 0]) (v := 97) rfl w82 (by omega) (by omega) rfl ?_
  refine E_if (t := 121) (b := false) rfl rfl (by decide) ?_
  refine E_iinc (y := nI 23) (L2 := [some (.ref 65), some (.int (nI 23)), some (.int (nI (max (max (max (max a (a + mr0 e n a)) (a + mr1 e n a)) (a + mr2 e n a)) (a + mr3 e n a)))), some (.int (nI 3)), some (.int (nI (a + mr3 e n a))), some (.int c3)]) rfl rfl (by decide) rfl ?_
  refine E_goto (t := 106) rfl rfl ?_
  refine E_aload_n rfl rfl ?_
  refine E_getfield (v := .ref 82) rfl w65 rfl (by decide) rfl ?_
  refine E_iload_n rfl rfl ?_
  refine E_ialN (l := [112, 105, 101, 99, 101, 32, 0, 112, 101, 114, 115, 111, 110, 32, 0, 99, 111, 115, 116, 32, 0, 104, 97, 115, 32, 0, 98, 97, 99, 107, 32, 0, 103, 114, 101, 101, 100, 121, 0, 98, 101, 115, 116, 0]) (v := 115) rfl w82 (by omega) (by omega) rfl ?_
  refine E_if (t := 121) (b := false) rfl rfl (by decide) ?_
  refine E_iinc (y := nI 24) (L2 := [some (.ref 65), some (.int (nI 24)), some (.int (nI (max (max (max (max a (a + mr0 e n a)) (a + mr1 e n a)) (a + mr2 e n a)) (a + mr3 e n a)))), some (.int (nI 3)), some (.int (nI (a + mr3 e n a))), some (.int c3)]) rfl rfl (by decide) rfl ?_
  refine E_goto (t := 106) rfl rfl ?_
  refine E_aload_n rfl rfl ?_
  refine E_getfield (v := .ref 82) rfl w65 rfl (by decide) rfl ?_
  refine E_iload_n rfl rfl ?_
  refine E_ialN (l := [112, 105, 101, 99, 101, 32, 0, 112, 101, 114, 115, 111, 110, 32, 0, 99, 111, 115, 116, 32, 0, 104, 97, 115, 32, 0, 98, 97, 99, 107, 32, 0, 103, 114, 101, 101, 100, 121, 0, 98, 101, 115, 116, 0]) (v := 32) rfl w82 (by omega) (by omega) rfl ?_
  refine E_if (t := 121) (b := false) rfl rfl (by decide) ?_
  refine E_iinc (y := nI 25) (L2 := [some (.ref 65), some (.int (nI 25)), some (.int (nI (max (max (max (max a (a + mr0 e n a)) (a + mr1 e n a)) (a + mr2 e n a)) (a + mr3 e n a)))), some (.int (nI 3)), some (.int (nI (a + mr3 e n a))), some (.int c3)]) rfl rfl (by decide) rfl ?_
  refine E_goto (t := 106) rfl rfl ?_
  refine E_aload_n rfl rfl ?_
  refine E_getfield (v := .ref 82) rfl w65 rfl (by decide) rfl ?_
  refine E_iload_n rfl rfl ?_
  refine E_ialN (l := [112, 105, 101, 99, 101, 32, 0, 112, 101, 114, 115, 111, 110, 32, 0, 99, 111, 115, 116, 32, 0, 104, 97, 115, 32, 0, 98, 97, 99, 107, 32, 0, 103, 114, 101, 101, 100, 121, 0, 98, 101, 115, 116, 0]) (v := 0) rfl w82 (by omega) (by omega) rfl ?_
  refine E_if (t := 121) (b := true) rfl rfl (by decide) ?_
  refine E_iinc (y := nI 26) (L2 := [some (.ref 65), some (.int (nI 26)), some (.int (nI (max (max (max (max a (a + mr0 e n a)) (a + mr1 e n a)) (a + mr2 e n a)) (a + mr3 e n a)))), some (.int (nI 3)), some (.int (nI (a + mr3 e n a))), some (.int c3)]) rfl rfl (by decide) rfl ?_
  refine E_iinc (y := nI 4) (L2 := [some (.ref 65), some (.int (nI 26)), some (.int (nI (max (max (max (max a (a + mr0 e n a)) (a + mr1 e n a)) (a + mr2 e n a)) (a + mr3 e n a)))), some (.int (nI 4)), some (.int (nI (a + mr3 e n a))), some (.int c3)]) rfl rfl (by decide) rfl ?_
  refine E_goto (t := 9) rfl rfl ?_
  refine E_iload_n rfl rfl ?_
  refine E_bipush (x := nI 7) rfl (by decide) ?_
  refine E_ic (t := 130) (b := false) rfl rfl (by decide) ?_
  refine E_aload_n rfl rfl ?_
  refine E_getfield (v := .int (nI a)) rfl w65 rfl (by decide) rfl ?_
  refine E_istore (L2 := [some (.ref 65), some (.int (nI 26)), some (.int (nI (max (max (max (max a (a + mr0 e n a)) (a + mr1 e n a)) (a + mr2 e n a)) (a + mr3 e n a)))), some (.int (nI 4)), some (.int (nI a)), some (.int c3)]) rfl rfl ?_
  refine E_iload_n rfl rfl ?_
  refine E_istore (L2 := [some (.ref 65), some (.int (nI 26)), some (.int (nI (max (max (max (max a (a + mr0 e n a)) (a + mr1 e n a)) (a + mr2 e n a)) (a + mr3 e n a)))), some (.int (nI 4)), some (.int (nI a)), some (.int (nI 26))]) rfl rfl ?_
  refine mw_p4 hj hn ha l_ce hce (f0 := max (max (max (max a (a + mr0 e n a)) (a + mr1 e n a)) (a + mr2 e n a)) (a + mr3 e n a)) (by omega) (by omega) (fun c4 => ?_)
  refine E_aload_n rfl rfl ?_
  refine E_getfield (v := .ref 82) rfl w65 rfl (by decide) rfl ?_
  refine E_iload_n rfl rfl ?_
  refine E_ialN (l := [112, 105, 101, 99, 101, 32, 0, 112, 101, 114, 115, 111, 110, 32, 0, 99, 111, 115, 116, 32, 0, 104, 97, 115, 32, 0, 98, 97, 99, 107, 32, 0, 103, 114, 101, 101, 100, 121, 0, 98, 101, 115, 116, 0]) (v := 98) rfl w82 (by omega) (by omega) rfl ?_
  refine E_if (t := 121) (b := false) rfl rfl (by decide) ?_
  refine E_iinc (y := nI 27) (L2 := [some (.ref 65), some (.int (nI 27)), some (.int (nI (max (max (max (max (max a (a + mr0 e n a)) (a + mr1 e n a)) (a + mr2 e n a)) (a + mr3 e n a)) (a + mr4 e n a)))), some (.int (nI 4)), some (.int (nI (a + mr4 e n a))), some (.int c4)]) rfl rfl (by decide) rfl ?_
  refine E_goto (t := 106) rfl rfl ?_
  refine E_aload_n rfl rfl ?_
  refine E_getfield (v := .ref 82) rfl w65 rfl (by decide) rfl ?_
  refine E_iload_n rfl rfl ?_
  refine E_ialN (l := [112, 105, 101, 99, 101, 32, 0, 112, 101, 114, 115, 111, 110, 32, 0, 99, 111, 115, 116, 32, 0, 104, 97, 115, 32, 0, 98, 97, 99, 107, 32, 0, 103, 114, 101, 101, 100, 121, 0, 98, 101, 115, 116, 0]) (v := 97) rfl w82 (by omega) (by omega) rfl ?_
  refine E_if (t := 121) (b := false) rfl rfl (by decide) ?_
  refine E_iinc (y := nI 28) (L2 := [some (.ref 65), some (.int (nI 28)), some (.int (nI (max (max (max (max (max a (a + mr0 e n a)) (a + mr1 e n a)) (a + mr2 e n a)) (a + mr3 e n a)) (a + mr4 e n a)))), some (.int (nI 4)), some (.int (nI (a + mr4 e n a))), some (.int c4)]) rfl rfl (by decide) rfl ?_
  refine E_goto (t := 106) rfl rfl ?_
  refine E_aload_n rfl rfl ?_
  refine E_getfield (v := .ref 82) rfl w65 rfl (by decide) rfl ?_
  refine E_iload_n rfl rfl ?_
  refine E_ialN (l := [112, 105, 101, 99, 101, 32, 0, 112, 101, 114, 115, 111, 110, 32, 0, 99, 111, 115, 116, 32, 0, 104, 97, 115, 32, 0, 98, 97, 99, 107, 32, 0, 103, 114, 101, 101, 100, 121, 0, 98, 101, 115, 116, 0]) (v := 99) rfl w82 (by omega) (by omega) rfl ?_
  refine E_if (t := 121) (b := false) rfl rfl (by decide) ?_
  refine E_iinc (y := nI 29) (L2 := [some (.ref 65), some (.int (nI 29)), some (.int (nI (max (max (max (max (max a (a + mr0 e n a)) (a + mr1 e n a)) (a + mr2 e n a)) (a + mr3 e n a)) (a + mr4 e n a)))), some (.int (nI 4)), some (.int (nI (a + mr4 e n a))), some (.int c4)]) rfl rfl (by decide) rfl ?_
  refine E_goto (t := 106) rfl rfl ?_
  refine E_aload_n rfl rfl ?_
  refine E_getfield (v := .ref 82) rfl w65 rfl (by decide) rfl ?_
  refine E_iload_n rfl rfl ?_
  refine E_ialN (l := [112, 105, 101, 99, 101, 32, 0, 112, 101, 114, 115, 111, 110, 32, 0, 99, 111, 115, 116, 32, 0, 104, 97, 115, 32, 0, 98, 97, 99, 107, 32, 0, 103, 114, 101, 101, 100, 121, 0, 98, 101, 115, 116, 0]) (v := 107) rfl w82 (by omega) (by omega) rfl ?_
  refine E_if (t := 121) (b := false) rfl rfl (by decide) ?_
  refine E_iinc (y := nI 30) (L2 := [some (.ref 65), some (.int (nI 30)), some (.int (nI (max (max (max (max (max a (a + mr0 e n a)) (a + mr1 e n a)) (a + mr2 e n a)) (a + mr3 e n a)) (a + mr4 e n a)))), some (.int (nI 4)), some (.int (nI (a + mr4 e n a))), some (.int c4)]) rfl rfl (by decide) rfl ?_
  refine E_goto (t := 106) rfl rfl ?_
  refine E_aload_n rfl rfl ?_
  refine E_getfield (v := .ref 82) rfl w65 rfl (by decide) rfl ?_
  refine E_iload_n rfl rfl ?_
  refine E_ialN (l := [112, 105, 101, 99, 101, 32, 0, 112, 101, 114, 115, 111, 110, 32, 0, 99, 111, 115, 116, 32, 0, 104, 97, 115, 32, 0, 98, 97, 99, 107, 32, 0, 103, 114, 101, 101, 100, 121, 0, 98, 101, 115, 116, 0]) (v := 32) rfl w82 (by omega) (by omega) rfl ?_
  refine E_if (t := 121) (b := false) rfl rfl (by decide) ?_
  refine E_iinc (y := nI 31) (L2 := [some (.ref 65), some (.int (nI 31)), some (.int (nI (max (max (max (max (max a (a + mr0 e n a)) (a + mr1 e n a)) (a + mr2 e n a)) (a + mr3 e n a)) (a + mr4 e n a)))), some (.int (nI 4)), some (.int (nI (a + mr4 e n a))), some (.int c4)]) rfl rfl (by decide) rfl ?_
  refine E_goto (t := 106) rfl rfl ?_
  refine E_aload_n rfl rfl ?_
  refine E_getfield (v := .ref 82) rfl w65 rfl (by decide) rfl ?_
  refine E_iload_n rfl rfl ?_
  refine E_ialN (l := [112, 105, 101, 99, 101, 32, 0, 112, 101, 114, 115, 111, 110, 32, 0, 99, 111, 115, 116, 32, 0, 104, 97, 115, 32, 0, 98, 97, 99, 107, 32, 0, 103, 114, 101, 101, 100, 121, 0, 98, 101, 115, 116, 0]) (v := 0) rfl w82 (by omega) (by omega) rfl ?_
  refine E_if (t := 121) (b := true) rfl rfl (by decide) ?_
  refine E_iinc (y := nI 32) (L2 := [some (.ref 65), some (.int (nI 32)), some (.int (nI (max (max (max (max (max a (a + mr0 e n a)) (a + mr1 e n a)) (a + mr2 e n a)) (a + mr3 e n a)) (a + mr4 e n a)))), some (.int (nI 4)), some (.int (nI (a + mr4 e n a))), some (.int c4)]) rfl rfl (by decide) rfl ?_
  refine E_iinc (y := nI 5) (L2 := [some (.ref 65), some (.int (nI 32)), some (.int (nI (max (max (max (max (max a (a + mr0 e n a)) (a + mr1 e n a)) (a + mr2 e n a)) (a + mr3 e n a)) (a + mr4 e n a)))), some (.int (nI 5)), some (.int (nI (a + mr4 e n a))), some (.int c4)]) rfl rfl (by decide) rfl ?_
  refine E_goto (t := 9) rfl rfl ?_
  refine E_iload_n rfl rfl ?_
  refine E_bipush (x := nI 7) rfl (by decide) ?_
  refine E_ic (t := 130) (b := false) rfl rfl (by decide) ?_
  refine E_aload_n rfl rfl ?_
  refine E_getfield (v := .int (nI a)) rfl w65 rfl (by decide) rfl ?_
  refine E_istore (L2 := [some (.ref 65), some (.int (nI 32)), some (.int (nI (max (max (max (max (max a (a + mr0 e n a)) (a + mr1 e n a)) (a + mr2 e n a)) (a + mr3 e n a)) (a + mr4 e n a)))), some (.int (nI 5)), some (.int (nI a)), some (.int c4)]) rfl rfl ?_
  refine E_iload_n rfl rfl ?_
  refine E_istore (L2 := [some (.ref 65), some (.int (nI 32)), some (.int (nI (max (max (max (max (max a (a + mr0 e n a)) (a + mr1 e n a)) (a + mr2 e n a)) (a + mr3 e n a)) (a + mr4 e n a)))), some (.int (nI 5)), some (.int (nI a)), some (.int (nI 32))]) rfl rfl ?_
  refine mw_p5 hj hn ha l_ce hce (f0 := max (max (max (max (max a (a + mr0 e n a)) (a + mr1 e n a)) (a + mr2 e n a)) (a + mr3 e n a)) (a + mr4 e n a)) (by omega) (by omega) (fun c5 => ?_)
  refine E_aload_n rfl rfl ?_
  refine E_getfield (v := .ref 82) rfl w65 rfl (by decide) rfl ?_
  refine E_iload_n rfl rfl ?_
  refine E_ialN (l := [112, 105, 101, 99, 101, 32, 0, 112, 101, 114, 115, 111, 110, 32, 0, 99, 111, 115, 116, 32, 0, 104, 97, 115, 32, 0, 98, 97, 99, 107, 32, 0, 103, 114, 101, 101, 100, 121, 0, 98, 101, 115, 116, 0]) (v := 103) rfl w82 (by omega) (by omega) rfl ?_
  refine E_if (t := 121) (b := false) rfl rfl (by decide) ?_
  refine E_iinc (y := nI 33) (L2 := [some (.ref 65), some (.int (nI 33)), some (.int (nI (max (max (max (max (max (max a (a + mr0 e n a)) (a + mr1 e n a)) (a + mr2 e n a)) (a + mr3 e n a)) (a + mr4 e n a)) (a + mr5 e n a)))), some (.int (nI 5)), some (.int (nI (a + mr5 e n a))), some (.int c5)]) rfl rfl (by decide) rfl ?_
  refine E_goto (t := 106) rfl rfl ?_
  refine E_aload_n rfl rfl ?_
  refine E_getfield (v := .ref 82) rfl w65 rfl (by decide) rfl ?_
  refine E_iload_n rfl rfl ?_
  refine E_ialN (l := [112, 105, 101, 99, 101, 32, 0, 112, 101, 114, 115, 111, 110, 32, 0, 99, 111, 115, 116, 32, 0, 104, 97, 115, 32, 0, 98, 97, 99, 107, 32, 0, 103, 114, 101, 101, 100, 121, 0, 98, 101, 115, 116, 0]) (v := 114) rfl w82 (by omega) (by omega) rfl ?_
  refine E_if (t := 121) (b := false) rfl rfl (by decide) ?_
  refine E_iinc (y := nI 34) (L2 := [some (.ref 65), some (.int (nI 34)), some (.int (nI (max (max (max (max (max (max a (a + mr0 e n a)) (a + mr1 e n a)) (a + mr2 e n a)) (a + mr3 e n a)) (a + mr4 e n a)) (a + mr5 e n a)))), some (.int (nI 5)), some (.int (nI (a + mr5 e n a))), some (.int c5)]) rfl rfl (by decide) rfl ?_
  refine E_goto (t := 106) rfl rfl ?_
  refine E_aload_n rfl rfl ?_
  refine E_getfield (v := .ref 82) rfl w65 rfl (by decide) rfl ?_
  refine E_iload_n rfl rfl ?_
  refine E_ialN (l := [112, 105, 101, 99, 101, 32, 0, 112, 101, 114, 115, 111, 110, 32, 0, 99, 111, 115, 116, 32, 0, 104, 97, 115, 32, 0, 98, 97, 99, 107, 32, 0, 103, 114, 101, 101, 100, 121, 0, 98, 101, 115, 116, 0]) (v := 101) rfl w82 (by omega) (by omega) rfl ?_
  refine E_if (t := 121) (b := false) rfl rfl (by decide) ?_
  refine E_iinc (y := nI 35) (L2 := [some (.ref 65), some (.int (nI 35)), some (.int (nI (max (max (max (max (max (max a (a + mr0 e n a)) (a + mr1 e n a)) (a + mr2 e n a)) (a + mr3 e n a)) (a + mr4 e n a)) (a + mr5 e n a)))), some (.int (nI 5)), some (.int (nI (a + mr5 e n a))), some (.int c5)]) rfl rfl (by decide) rfl ?_
  refine E_goto (t := 106) rfl rfl ?_
  refine E_aload_n rfl rfl ?_
  refine E_getfield (v := .ref 82) rfl w65 rfl (by decide) rfl ?_
  refine E_iload_n rfl rfl ?_
  refine E_ialN (l := [112, 105, 101, 99, 101, 32, 0, 112, 101, 114, 115, 111, 110, 32, 0, 99, 111, 115, 116, 32, 0, 104, 97, 115, 32, 0, 98, 97, 99, 107, 32, 0, 103, 114, 101, 101, 100, 121, 0, 98, 101, 115, 116, 0]) (v := 101) rfl w82 (by omega) (by omega) rfl ?_
  refine E_if (t := 121) (b := false) rfl rfl (by decide) ?_
  refine E_iinc (y := nI 36) (L2 := [some (.ref 65), some (.int (nI 36)), some (.int (nI (max (max (max (max (max (max a (a + mr0 e n a)) (a + mr1 e n a)) (a + mr2 e n a)) (a + mr3 e n a)) (a + mr4 e n a)) (a + mr5 e n a)))), some (.int (nI 5)), some (.int (nI (a + mr5 e n a))), some (.int c5)]) rfl rfl (by decide) rfl ?_
  refine E_goto (t := 106) rfl rfl ?_
  refine E_aload_n rfl rfl ?_
  refine E_getfield (v := .ref 82) rfl w65 rfl (by decide) rfl ?_
  refine E_iload_n rfl rfl ?_
  refine E_ialN (l := [112, 105, 101, 99, 101, 32, 0, 112, 101, 114, 115, 111, 110, 32, 0, 99, 111, 115, 116, 32, 0, 104, 97, 115, 32, 0, 98, 97, 99, 107, 32, 0, 103, 114, 101, 101, 100, 121, 0, 98, 101, 115, 116, 0]) (v := 100) rfl w82 (by omega) (by omega) rfl ?_
  refine E_if (t := 121) (b := false) rfl rfl (by decide) ?_
  refine E_iinc (y := nI 37) (L2 := [some (.ref 65), some (.int (nI 37)), some (.int (nI (max (max (max (max (max (max a (a + mr0 e n a)) (a + mr1 e n a)) (a + mr2 e n a)) (a + mr3 e n a)) (a + mr4 e n a)) (a + mr5 e n a)))), some (.int (nI 5)), some (.int (nI (a + mr5 e n a))), some (.int c5)]) rfl rfl (by decide) rfl ?_
  refine E_goto (t := 106) rfl rfl ?_
  refine E_aload_n rfl rfl ?_
  refine E_getfield (v := .ref 82) rfl w65 rfl (by decide) rfl ?_
  refine E_iload_n rfl rfl ?_
  refine E_ialN (l := [112, 105, 101, 99, 101, 32, 0, 112, 101, 114, 115, 111, 110, 32, 0, 99, 111, 115, 116, 32, 0, 104, 97, 115, 32, 0, 98, 97, 99, 107, 32, 0, 103, 114, 101, 101, 100, 121, 0, 98, 101, 115, 116, 0]) (v := 121) rfl w82 (by omega) (by omega) rfl ?_
  refine E_if (t := 121) (b := false) rfl rfl (by decide) ?_
  refine E_iinc (y := nI 38) (L2 := [some (.ref 65), some (.int (nI 38)), some (.int (nI (max (max (max (max (max (max a (a + mr0 e n a)) (a + mr1 e n a)) (a + mr2 e n a)) (a + mr3 e n a)) (a + mr4 e n a)) (a + mr5 e n a)))), some (.int (nI 5)), some (.int (nI (a + mr5 e n a))), some (.int c5)]) rfl rfl (by decide) rfl ?_
  refine E_goto (t := 106) rfl rfl ?_
  refine E_aload_n rfl rfl ?_
  refine E_getfield (v := .ref 82) rfl w65 rfl (by decide) rfl ?_
  refine E_iload_n rfl rfl ?_
  refine E_ialN (l := [112, 105, 101, 99, 101, 32, 0, 112, 101, 114, 115, 111, 110, 32, 0, 99, 111, 115, 116, 32, 0, 104, 97, 115, 32, 0, 98, 97, 99, 107, 32, 0, 103, 114, 101, 101, 100, 121, 0, 98, 101, 115, 116, 0]) (v := 0) rfl w82 (by omega) (by omega) rfl ?_
  refine E_if (t := 121) (b := true) rfl rfl (by decide) ?_
  refine E_iinc (y := nI 39) (L2 := [some (.ref 65), some (.int (nI 39)), some (.int (nI (max (max (max (max (max (max a (a + mr0 e n a)) (a + mr1 e n a)) (a + mr2 e n a)) (a + mr3 e n a)) (a + mr4 e n a)) (a + mr5 e n a)))), some (.int (nI 5)), some (.int (nI (a + mr5 e n a))), some (.int c5)]) rfl rfl (by decide) rfl ?_
  refine E_iinc (y := nI 6) (L2 := [some (.ref 65), some (.int (nI 39)), some (.int (nI (max (max (max (max (max (max a (a + mr0 e n a)) (a + mr1 e n a)) (a + mr2 e n a)) (a + mr3 e n a)) (a + mr4 e n a)) (a + mr5 e n a)))), some (.int (nI 6)), some (.int (nI (a + mr5 e n a))), some (.int c5)]) rfl rfl (by decide) rfl ?_
  refine E_goto (t := 9) rfl rfl ?_
  refine E_iload_n rfl rfl ?_
  refine E_bipush (x := nI 7) rfl (by decide) ?_
  refine E_ic (t := 130) (b := false) rfl rfl (by decide) ?_
  refine E_aload_n rfl rfl ?_
  refine E_getfield (v := .int (nI a)) rfl w65 rfl (by decide) rfl ?_
  refine E_istore (L2 := [some (.ref 65), some (.int (nI 39)), some (.int (nI (max (max (max (max (max (max a (a + mr0 e n a)) (a + mr1 e n a)) (a + mr2 e n a)) (a + mr3 e n a)) (a + mr4 e n a)) (a + mr5 e n a)))), some (.int (nI 6)), some (.int (nI a)), some (.int c5)]) rfl rfl ?_
  refine E_iload_n rfl rfl ?_
  refine E_istore (L2 := [some (.ref 65), some (.int (nI 39)), some (.int (nI (max (max (max (max (max (max a (a + mr0 e n a)) (a + mr1 e n a)) (a + mr2 e n a)) (a + mr3 e n a)) (a + mr4 e n a)) (a + mr5 e n a)))), some (.int (nI 6)), some (.int (nI a)), some (.int (nI 39))]) rfl rfl ?_
  refine mw_p6 hj hn ha l_ce hce (f0 := max (max (max (max (max (max a (a + mr0 e n a)) (a + mr1 e n a)) (a + mr2 e n a)) (a + mr3 e n a)) (a + mr4 e n a)) (a + mr5 e n a)) (by omega) (by omega) (fun c6 => ?_)
  refine E_aload_n rfl rfl ?_
  refine E_getfield (v := .ref 82) rfl w65 rfl (by decide) rfl ?_
  refine E_iload_n rfl rfl ?_
  refine E_ialN (l := [112, 105, 101, 99, 101, 32, 0, 112, 101, 114, 115, 111, 110, 32, 0, 99, 111, 115, 116, 32, 0, 104, 97, 115, 32, 0, 98, 97, 99, 107, 32, 0, 103, 114, 101, 101, 100, 121, 0, 98, 101, 115, 116, 0]) (v := 98) rfl w82 (by omega) (by omega) rfl ?_
  refine E_if (t := 121) (b := false) rfl rfl (by decide) ?_
  refine E_iinc (y := nI 40) (L2 := [some (.ref 65), some (.int (nI 40)), some (.int (nI (max (max (max (max (max (max (max a (a + mr0 e n a)) (a + mr1 e n a)) (a + mr2 e n a)) (a + mr3 e n a)) (a + mr4 e n a)) (a + mr5 e n a)) (a + mr6 e n a)))), some (.int (nI 6)), some (.int (nI (a + mr6 e n a))), some (.int c6)]) rfl rfl (by decide) rfl ?_
  refine E_goto (t := 106) rfl rfl ?_
  refine E_aload_n rfl rfl ?_
  refine E_getfield (v := .ref 82) rfl w65 rfl (by decide) rfl ?_
  refine E_iload_n rfl rfl ?_
  refine E_ialN (l := [112, 105, 101, 99, 101, 32, 0, 112, 101, 114, 115, 111, 110, 32, 0, 99, 111, 115, 116, 32, 0, 104, 97, 115, 32, 0, 98, 97, 99, 107, 32, 0, 103, 114, 101, 101, 100, 121, 0, 98, 101, 115, 116, 0]) (v := 101) rfl w82 (by omega) (by omega) rfl ?_
  refine E_if (t := 121) (b := false) rfl rfl (by decide) ?_
  refine E_iinc (y := nI 41) (L2 := [some (.ref 65), some (.int (nI 41)), some (.int (nI (max (max (max (max (max (max (max a (a + mr0 e n a)) (a + mr1 e n a)) (a + mr2 e n a)) (a + mr3 e n a)) (a + mr4 e n a)) (a + mr5 e n a)) (a + mr6 e n a)))), some (.int (nI 6)), some (.int (nI (a + mr6 e n a))), some (.int c6)]) rfl rfl (by decide) rfl ?_
  refine E_goto (t := 106) rfl rfl ?_
  refine E_aload_n rfl rfl ?_
  refine E_getfield (v := .ref 82) rfl w65 rfl (by decide) rfl ?_
  refine E_iload_n rfl rfl ?_
  refine E_ialN (l := [112, 105, 101, 99, 101, 32, 0, 112, 101, 114, 115, 111, 110, 32, 0, 99, 111, 115, 116, 32, 0, 104, 97, 115, 32, 0, 98, 97, 99, 107, 32, 0, 103, 114, 101, 101, 100, 121, 0, 98, 101, 115, 116, 0]) (v := 115) rfl w82 (by omega) (by omega) rfl ?_
  refine E_if (t := 121) (b := false) rfl rfl (by decide) ?_
  refine E_iinc (y := nI 42) (L2 := [some (.ref 65), some (.int (nI 42)), some (.int (nI (max (max (max (max (max (max (max a (a + mr0 e n a)) (a + mr1 e n a)) (a + mr2 e n a)) (a + mr3 e n a)) (a + mr4 e n a)) (a + mr5 e n a)) (a + mr6 e n a)))), some (.int (nI 6)), some (.int (nI (a + mr6 e n a))), some (.int c6)]) rfl rfl (by decide) rfl ?_
  refine E_goto (t := 106) rfl rfl ?_
  refine E_aload_n rfl rfl ?_
  refine E_getfield (v := .ref 82) rfl w65 rfl (by decide) rfl ?_
  refine E_iload_n rfl rfl ?_
  refine E_ialN (l := [112, 105, 101, 99, 101, 32, 0, 112, 101, 114, 115, 111, 110, 32, 0, 99, 111, 115, 116, 32, 0, 104, 97, 115, 32, 0, 98, 97, 99, 107, 32, 0, 103, 114, 101, 101, 100, 121, 0, 98, 101, 115, 116, 0]) (v := 116) rfl w82 (by omega) (by omega) rfl ?_
  refine E_if (t := 121) (b := false) rfl rfl (by decide) ?_
  refine E_iinc (y := nI 43) (L2 := [some (.ref 65), some (.int (nI 43)), some (.int (nI (max (max (max (max (max (max (max a (a + mr0 e n a)) (a + mr1 e n a)) (a + mr2 e n a)) (a + mr3 e n a)) (a + mr4 e n a)) (a + mr5 e n a)) (a + mr6 e n a)))), some (.int (nI 6)), some (.int (nI (a + mr6 e n a))), some (.int c6)]) rfl rfl (by decide) rfl ?_
  refine E_goto (t := 106) rfl rfl ?_
  refine E_aload_n rfl rfl ?_
  refine E_getfield (v := .ref 82) rfl w65 rfl (by decide) rfl ?_
  refine E_iload_n rfl rfl ?_
  refine E_ialN (l := [112, 105, 101, 99, 101, 32, 0, 112, 101, 114, 115, 111, 110, 32, 0, 99, 111, 115, 116, 32, 0, 104, 97, 115, 32, 0, 98, 97, 99, 107, 32, 0, 103, 114, 101, 101, 100, 121, 0, 98, 101, 115, 116, 0]) (v := 0) rfl w82 (by omega) (by omega) rfl ?_
  refine E_if (t := 121) (b := true) rfl rfl (by decide) ?_
  refine E_iinc (y := nI 44) (L2 := [some (.ref 65), some (.int (nI 44)), some (.int (nI (max (max (max (max (max (max (max a (a + mr0 e n a)) (a + mr1 e n a)) (a + mr2 e n a)) (a + mr3 e n a)) (a + mr4 e n a)) (a + mr5 e n a)) (a + mr6 e n a)))), some (.int (nI 6)), some (.int (nI (a + mr6 e n a))), some (.int c6)]) rfl rfl (by decide) rfl ?_
  refine E_iinc (y := nI 7) (L2 := [some (.ref 65), some (.int (nI 44)), some (.int (nI (max (max (max (max (max (max (max a (a + mr0 e n a)) (a + mr1 e n a)) (a + mr2 e n a)) (a + mr3 e n a)) (a + mr4 e n a)) (a + mr5 e n a)) (a + mr6 e n a)))), some (.int (nI 7)), some (.int (nI (a + mr6 e n a))), some (.int c6)]) rfl rfl (by decide) rfl ?_
  refine E_goto (t := 9) rfl rfl ?_
  refine E_iload_n rfl rfl ?_
  refine E_bipush (x := nI 7) rfl (by decide) ?_
  refine E_ic (t := 130) (b := true) rfl rfl (by decide) ?_
  refine E_aload_n rfl rfl ?_
  refine E_iload_n rfl rfl ?_
  refine E_putfield (cs2 := (ww im lf s d k ls rf rz ra rn rq lt m1 m2 m3 m4 bd fc hd sz el q (fUp (fUp (fUp (fUp (fUp (fUp g 27 (nI (160 * j))) 29 (nI n)) 6 (-1)) 28 (nI a)) 30 x30) 31 (nI (max (max (max (max (max (max (max a (a + mr0 e n a)) (a + mr1 e n a)) (a + mr2 e n a)) (a + mr3 e n a)) (a + mr4 e n a)) (a + mr5 e n a)) (a + mr6 e n a)))) fm hm so si sh ce ca td wa kp la bf oo bo pw ow tr)) rfl w65 rfl (by decide) (Nat.le_of_ble_eq_true rfl) rfl rfl rfl (w_pt65_31.trans (by rw [gn31])) ?_
  refine E_iconst (x := (-1)) rfl (by decide) ?_
  exact E_iret rfl rfl
end SD
