/-! squares read from texts: what stands where; by program (wip/tools/mksq.py) -/
theorem bo2 : ∀ b : Bool, b = false ∨ b = true
  | false => Or.inl rfl
  | true => Or.inr rfl
def chB (e : List Int64) (n a c : Nat) : Bool := decide (a < n ∧ (tw e a).toInt = c)
def dgB (e : List Int64) (n a : Nat) : Bool := decide (a < n ∧ 48 ≤ (tw e a).toInt ∧ (tw e a).toInt ≤ 57)
theorem chB_t {e : List Int64} {n a c : Nat} (h : chB e n a c = true) : a < n ∧ (tw e a).toInt = c := of_decide_eq_true h
theorem chB_f {e : List Int64} {n a c : Nat} (h : chB e n a c = false) : n ≤ a ∨ (a < n ∧ ¬ (tw e a).toInt = c) := by
  have h := of_decide_eq_false h
  by_cases z : a < n
  · exact Or.inr ⟨z, fun y => h ⟨z, y⟩⟩
  · exact Or.inl (by omega)
theorem dgB_t {e : List Int64} {n a : Nat} (h : dgB e n a = true) : a < n ∧ 48 ≤ (tw e a).toInt ∧ (tw e a).toInt ≤ 57 := of_decide_eq_true h
theorem dgB_f {e : List Int64} {n a : Nat} (h : dgB e n a = false) : n ≤ a ∨ (a < n ∧ ((tw e a).toInt < 48 ∨ 57 < (tw e a).toInt)) := by
  have h := of_decide_eq_false h
  omega
/-- how many letters of a word stand from a on -/
def mtc (e : List Int64) (n : Nat) : List Nat → Nat → Nat
  | [], _ => 0
  | c :: r, a => if chB e n a c = true then mtc e n r (a + 1) + 1 else 0
theorem mtc_t {e : List Int64} {n a c : Nat} {r : List Nat} (h : chB e n a c = true) : mtc e n (c :: r) a = mtc e n r (a + 1) + 1 := if_pos h
theorem mtc_f {e : List Int64} {n a c : Nat} {r : List Nat} (h : chB e n a c = false) : mtc e n (c :: r) a = 0 := if_neg (by rw [h]; decide)
theorem mtc_le (e : List Int64) (n : Nat) : ∀ r a, mtc e n r a ≤ r.length
  | [], _ => Nat.le_refl _
  | c :: r, a => by
    have := mtc_le e n r (a + 1)
    show (if chB e n a c = true then mtc e n r (a + 1) + 1 else 0) ≤ r.length + 1
    split <;> omega
theorem mtc_n {e : List Int64} {n : Nat} : ∀ r a, a ≤ n → a + mtc e n r a ≤ n
  | [], _, h => h
  | c :: r, a, h => by
    show a + (if chB e n a c = true then mtc e n r (a + 1) + 1 else 0) ≤ n
    split
    · rename_i z
      have := mtc_n (e := e) r (a + 1) (chB_t z).1
      omega
    · omega
/-- a word, and a blank behind it -/
theorem mtc_sp {e : List Int64} {n : Nat} : ∀ r a, mtc e n (r ++ [32]) a = if mtc e n r a = r.length ∧ chB e n (a + r.length) 32 = true then r.length + 1 else mtc e n r a
  | [], a => by
    rcases bo2 (chB e n a 32) with z | z
    · rw [if_neg (show ¬ (mtc e n [] a = ([] : List Nat).length ∧ chB e n (a + ([] : List Nat).length) 32 = true) from fun y => Bool.noConfusion (z.symm.trans y.2))]
      exact mtc_f z
    · rw [if_pos (show mtc e n [] a = ([] : List Nat).length ∧ chB e n (a + ([] : List Nat).length) 32 = true from ⟨rfl, z⟩)]
      exact mtc_t z
  | c :: r, a => by
    have ih := mtc_sp (e := e) (n := n) r (a + 1)
    show (if chB e n a c = true then mtc e n (r ++ [32]) (a + 1) + 1 else 0) = if (if chB e n a c = true then mtc e n r (a + 1) + 1 else 0) = r.length + 1 ∧ chB e n (a + (r.length + 1)) 32 = true then r.length + 1 + 1 else (if chB e n a c = true then mtc e n r (a + 1) + 1 else 0)
    rw [show a + (r.length + 1) = a + 1 + r.length from by omega]
    by_cases z : chB e n a c = true
    · rw [if_pos z, if_pos z, ih]
      by_cases y : mtc e n r (a + 1) = r.length ∧ chB e n (a + 1 + r.length) 32 = true
      · rw [if_pos y, if_pos ⟨by rw [y.1], y.2⟩]
      · rw [if_neg y, if_neg (fun x => y ⟨by omega, x.2⟩)]
    · rw [if_neg z, if_neg z, if_neg (fun x => by omega)]
def mj0 (e : List Int64) (n a : Nat) : Nat := mtc e n [112, 105, 101, 99, 101] a
def mr0 (e : List Int64) (n a : Nat) : Nat := mtc e n [112, 105, 101, 99, 101, 32] a
def mj1 (e : List Int64) (n a : Nat) : Nat := mtc e n [112, 101, 114, 115, 111, 110] a
def mr1 (e : List Int64) (n a : Nat) : Nat := mtc e n [112, 101, 114, 115, 111, 110, 32] a
def mj2 (e : List Int64) (n a : Nat) : Nat := mtc e n [99, 111, 115, 116] a
def mr2 (e : List Int64) (n a : Nat) : Nat := mtc e n [99, 111, 115, 116, 32] a
def mj3 (e : List Int64) (n a : Nat) : Nat := mtc e n [104, 97, 115] a
def mr3 (e : List Int64) (n a : Nat) : Nat := mtc e n [104, 97, 115, 32] a
def mj4 (e : List Int64) (n a : Nat) : Nat := mtc e n [98, 97, 99, 107] a
def mr4 (e : List Int64) (n a : Nat) : Nat := mtc e n [98, 97, 99, 107, 32] a
def mj5 (e : List Int64) (n a : Nat) : Nat := mtc e n [103, 114, 101, 101, 100, 121] a
def mr5 (e : List Int64) (n a : Nat) : Nat := mtc e n [103, 114, 101, 101, 100, 121] a
def mj6 (e : List Int64) (n a : Nat) : Nat := mtc e n [98, 101, 115, 116] a
def mr6 (e : List Int64) (n a : Nat) : Nat := mtc e n [98, 101, 115, 116] a
theorem mj0_le (e : List Int64) (n a : Nat) : mj0 e n a ≤ 5 := mtc_le e n _ a
theorem mj1_le (e : List Int64) (n a : Nat) : mj1 e n a ≤ 6 := mtc_le e n _ a
theorem mj2_le (e : List Int64) (n a : Nat) : mj2 e n a ≤ 4 := mtc_le e n _ a
theorem mj3_le (e : List Int64) (n a : Nat) : mj3 e n a ≤ 3 := mtc_le e n _ a
theorem mj4_le (e : List Int64) (n a : Nat) : mj4 e n a ≤ 4 := mtc_le e n _ a
theorem mj5_le (e : List Int64) (n a : Nat) : mj5 e n a ≤ 6 := mtc_le e n _ a
theorem mj6_le (e : List Int64) (n a : Nat) : mj6 e n a ≤ 4 := mtc_le e n _ a
theorem mr0_le (e : List Int64) (n a : Nat) : mr0 e n a ≤ 6 := mtc_le e n _ a
theorem mr1_le (e : List Int64) (n a : Nat) : mr1 e n a ≤ 7 := mtc_le e n _ a
theorem mr2_le (e : List Int64) (n a : Nat) : mr2 e n a ≤ 5 := mtc_le e n _ a
theorem mr3_le (e : List Int64) (n a : Nat) : mr3 e n a ≤ 4 := mtc_le e n _ a
theorem mr4_le (e : List Int64) (n a : Nat) : mr4 e n a ≤ 5 := mtc_le e n _ a
theorem mr5_le (e : List Int64) (n a : Nat) : mr5 e n a ≤ 6 := mtc_le e n _ a
theorem mr6_le (e : List Int64) (n a : Nat) : mr6 e n a ≤ 4 := mtc_le e n _ a
/-- which word stands there: 7 none -/
def wd (e : List Int64) (n a : Nat) : Nat := if mj0 e n a = 5 then 0 else if mj1 e n a = 6 then 1 else if mj2 e n a = 4 then 2 else if mj3 e n a = 3 then 3 else if mj4 e n a = 4 then 4 else if mj5 e n a = 6 then 5 else if mj6 e n a = 4 then 6 else 7
def mxL (e : List Int64) (n a : Nat) : Nat := max (max (max (max (max (max (max (0) (mj0 e n a)) (mj1 e n a)) (mj2 e n a)) (mj3 e n a)) (mj4 e n a)) (mj5 e n a)) (mj6 e n a)
theorem wd_c (e : List Int64) (n a : Nat) : (wd e n a = 0 ∧ mj0 e n a = 5) ∨ (wd e n a = 1 ∧ ¬ mj0 e n a = 5 ∧ mj1 e n a = 6) ∨ (wd e n a = 2 ∧ ¬ mj0 e n a = 5 ∧ ¬ mj1 e n a = 6 ∧ mj2 e n a = 4) ∨ (wd e n a = 3 ∧ ¬ mj0 e n a = 5 ∧ ¬ mj1 e n a = 6 ∧ ¬ mj2 e n a = 4 ∧ mj3 e n a = 3) ∨ (wd e n a = 4 ∧ ¬ mj0 e n a = 5 ∧ ¬ mj1 e n a = 6 ∧ ¬ mj2 e n a = 4 ∧ ¬ mj3 e n a = 3 ∧ mj4 e n a = 4) ∨ (wd e n a = 5 ∧ ¬ mj0 e n a = 5 ∧ ¬ mj1 e n a = 6 ∧ ¬ mj2 e n a = 4 ∧ ¬ mj3 e n a = 3 ∧ ¬ mj4 e n a = 4 ∧ mj5 e n a = 6) ∨ (wd e n a = 6 ∧ ¬ mj0 e n a = 5 ∧ ¬ mj1 e n a = 6 ∧ ¬ mj2 e n a = 4 ∧ ¬ mj3 e n a = 3 ∧ ¬ mj4 e n a = 4 ∧ ¬ mj5 e n a = 6 ∧ mj6 e n a = 4) ∨ (wd e n a = 7 ∧ ¬ mj0 e n a = 5 ∧ ¬ mj1 e n a = 6 ∧ ¬ mj2 e n a = 4 ∧ ¬ mj3 e n a = 3 ∧ ¬ mj4 e n a = 4 ∧ ¬ mj5 e n a = 6 ∧ ¬ mj6 e n a = 4) := by
  unfold wd
  by_cases c0 : mj0 e n a = 5
  · refine Or.inl ⟨?_, c0⟩
    rw [if_pos c0]
  · by_cases c1 : mj1 e n a = 6
    · refine Or.inr (Or.inl ⟨?_, c0, c1⟩)
      rw [if_neg c0, if_pos c1]
    · by_cases c2 : mj2 e n a = 4
      · refine Or.inr (Or.inr (Or.inl ⟨?_, c0, c1, c2⟩))
        rw [if_neg c0, if_neg c1, if_pos c2]
      · by_cases c3 : mj3 e n a = 3
        · refine Or.inr (Or.inr (Or.inr (Or.inl ⟨?_, c0, c1, c2, c3⟩)))
          rw [if_neg c0, if_neg c1, if_neg c2, if_pos c3]
        · by_cases c4 : mj4 e n a = 4
          · refine Or.inr (Or.inr (Or.inr (Or.inr (Or.inl ⟨?_, c0, c1, c2, c3, c4⟩))))
            rw [if_neg c0, if_neg c1, if_neg c2, if_neg c3, if_pos c4]
          · by_cases c5 : mj5 e n a = 6
            · refine Or.inr (Or.inr (Or.inr (Or.inr (Or.inr (Or.inl ⟨?_, c0, c1, c2, c3, c4, c5⟩)))))
              rw [if_neg c0, if_neg c1, if_neg c2, if_neg c3, if_neg c4, if_pos c5]
            · by_cases c6 : mj6 e n a = 4
              · refine Or.inr (Or.inr (Or.inr (Or.inr (Or.inr (Or.inr (Or.inl ⟨?_, c0, c1, c2, c3, c4, c5, c6⟩))))))
                rw [if_neg c0, if_neg c1, if_neg c2, if_neg c3, if_neg c4, if_neg c5, if_pos c6]
              · refine Or.inr (Or.inr (Or.inr (Or.inr (Or.inr (Or.inr (Or.inr ⟨?_, c0, c1, c2, c3, c4, c5, c6⟩))))))
                rw [if_neg c0, if_neg c1, if_neg c2, if_neg c3, if_neg c4, if_neg c5, if_neg c6]
theorem ex_0 {e : List Int64} {n a : Nat} (h : mj0 e n a = 5) : chB e n (a) 112 = true ∧ chB e n (a + 1) 105 = true ∧ chB e n (a + 1 + 1) 101 = true ∧ chB e n (a + 1 + 1 + 1) 99 = true ∧ chB e n (a + 1 + 1 + 1 + 1) 101 = true := by
  unfold mj0 at h
  rcases bo2 (chB e n (a) 112) with hb0 | hb0
  · have q0 : mtc e n [112, 105, 101, 99, 101] (a) = 0 := mtc_f hb0 ; omega
  rcases bo2 (chB e n (a + 1) 105) with hb1 | hb1
  · have q0 : mtc e n [112, 105, 101, 99, 101] (a) = mtc e n [105, 101, 99, 101] (a + 1) + 1 := mtc_t hb0 ; have q1 : mtc e n [105, 101, 99, 101] (a + 1) = 0 := mtc_f hb1 ; omega
  rcases bo2 (chB e n (a + 1 + 1) 101) with hb2 | hb2
  · have q0 : mtc e n [112, 105, 101, 99, 101] (a) = mtc e n [105, 101, 99, 101] (a + 1) + 1 := mtc_t hb0 ; have q1 : mtc e n [105, 101, 99, 101] (a + 1) = mtc e n [101, 99, 101] (a + 1 + 1) + 1 := mtc_t hb1 ; have q2 : mtc e n [101, 99, 101] (a + 1 + 1) = 0 := mtc_f hb2 ; omega
  rcases bo2 (chB e n (a + 1 + 1 + 1) 99) with hb3 | hb3
  · have q0 : mtc e n [112, 105, 101, 99, 101] (a) = mtc e n [105, 101, 99, 101] (a + 1) + 1 := mtc_t hb0 ; have q1 : mtc e n [105, 101, 99, 101] (a + 1) = mtc e n [101, 99, 101] (a + 1 + 1) + 1 := mtc_t hb1 ; have q2 : mtc e n [101, 99, 101] (a + 1 + 1) = mtc e n [99, 101] (a + 1 + 1 + 1) + 1 := mtc_t hb2 ; have q3 : mtc e n [99, 101] (a + 1 + 1 + 1) = 0 := mtc_f hb3 ; omega
  rcases bo2 (chB e n (a + 1 + 1 + 1 + 1) 101) with hb4 | hb4
  · have q0 : mtc e n [112, 105, 101, 99, 101] (a) = mtc e n [105, 101, 99, 101] (a + 1) + 1 := mtc_t hb0 ; have q1 : mtc e n [105, 101, 99, 101] (a + 1) = mtc e n [101, 99, 101] (a + 1 + 1) + 1 := mtc_t hb1 ; have q2 : mtc e n [101, 99, 101] (a + 1 + 1) = mtc e n [99, 101] (a + 1 + 1 + 1) + 1 := mtc_t hb2 ; have q3 : mtc e n [99, 101] (a + 1 + 1 + 1) = mtc e n [101] (a + 1 + 1 + 1 + 1) + 1 := mtc_t hb3 ; have q4 : mtc e n [101] (a + 1 + 1 + 1 + 1) = 0 := mtc_f hb4 ; omega
  exact ⟨hb0, hb1, hb2, hb3, hb4⟩
theorem ex_0_1 {e : List Int64} {n a : Nat} (h : mj0 e n a = 5) : mj1 e n a ≤ 1 := by
  have x := ex_0 h
  unfold mj1
  have y : chB e n (a + 1) 101 = false := by
    rcases bo2 (chB e n (a + 1) 101) with hb | hb
    · exact hb
    · have h1 := (chB_t hb).2
      have h2 := (chB_t x.2.1).2
      omega
  have q0 : mtc e n [112, 101, 114, 115, 111, 110] (a) = mtc e n [101, 114, 115, 111, 110] (a + 1) + 1 := mtc_t x.1
  have q1 : mtc e n [101, 114, 115, 111, 110] (a + 1) = 0 := mtc_f y
  omega
theorem ex_0_2 {e : List Int64} {n a : Nat} (h : mj0 e n a = 5) : mj2 e n a ≤ 1 := by
  have x := ex_0 h
  unfold mj2
  have y : chB e n (a) 99 = false := by
    rcases bo2 (chB e n (a) 99) with hb | hb
    · exact hb
    · have h1 := (chB_t hb).2
      have h2 := (chB_t x.1).2
      omega
  have q0 : mtc e n [99, 111, 115, 116] (a) = 0 := mtc_f y
  omega
theorem ex_0_3 {e : List Int64} {n a : Nat} (h : mj0 e n a = 5) : mj3 e n a ≤ 1 := by
  have x := ex_0 h
  unfold mj3
  have y : chB e n (a) 104 = false := by
    rcases bo2 (chB e n (a) 104) with hb | hb
    · exact hb
    · have h1 := (chB_t hb).2
      have h2 := (chB_t x.1).2
      omega
  have q0 : mtc e n [104, 97, 115] (a) = 0 := mtc_f y
  omega
theorem ex_0_4 {e : List Int64} {n a : Nat} (h : mj0 e n a = 5) : mj4 e n a ≤ 1 := by
  have x := ex_0 h
  unfold mj4
  have y : chB e n (a) 98 = false := by
    rcases bo2 (chB e n (a) 98) with hb | hb
    · exact hb
    · have h1 := (chB_t hb).2
      have h2 := (chB_t x.1).2
      omega
  have q0 : mtc e n [98, 97, 99, 107] (a) = 0 := mtc_f y
  omega
theorem ex_0_5 {e : List Int64} {n a : Nat} (h : mj0 e n a = 5) : mj5 e n a ≤ 1 := by
  have x := ex_0 h
  unfold mj5
  have y : chB e n (a) 103 = false := by
    rcases bo2 (chB e n (a) 103) with hb | hb
    · exact hb
    · have h1 := (chB_t hb).2
      have h2 := (chB_t x.1).2
      omega
  have q0 : mtc e n [103, 114, 101, 101, 100, 121] (a) = 0 := mtc_f y
  omega
theorem ex_0_6 {e : List Int64} {n a : Nat} (h : mj0 e n a = 5) : mj6 e n a ≤ 1 := by
  have x := ex_0 h
  unfold mj6
  have y : chB e n (a) 98 = false := by
    rcases bo2 (chB e n (a) 98) with hb | hb
    · exact hb
    · have h1 := (chB_t hb).2
      have h2 := (chB_t x.1).2
      omega
  have q0 : mtc e n [98, 101, 115, 116] (a) = 0 := mtc_f y
  omega
theorem ex_1 {e : List Int64} {n a : Nat} (h : mj1 e n a = 6) : chB e n (a) 112 = true ∧ chB e n (a + 1) 101 = true ∧ chB e n (a + 1 + 1) 114 = true ∧ chB e n (a + 1 + 1 + 1) 115 = true ∧ chB e n (a + 1 + 1 + 1 + 1) 111 = true ∧ chB e n (a + 1 + 1 + 1 + 1 + 1) 110 = true := by
  unfold mj1 at h
  rcases bo2 (chB e n (a) 112) with hb0 | hb0
  · have q0 : mtc e n [112, 101, 114, 115, 111, 110] (a) = 0 := mtc_f hb0 ; omega
  rcases bo2 (chB e n (a + 1) 101) with hb1 | hb1
  · have q0 : mtc e n [112, 101, 114, 115, 111, 110] (a) = mtc e n [101, 114, 115, 111, 110] (a + 1) + 1 := mtc_t hb0 ; have q1 : mtc e n [101, 114, 115, 111, 110] (a + 1) = 0 := mtc_f hb1 ; omega
  rcases bo2 (chB e n (a + 1 + 1) 114) with hb2 | hb2
  · have q0 : mtc e n [112, 101, 114, 115, 111, 110] (a) = mtc e n [101, 114, 115, 111, 110] (a + 1) + 1 := mtc_t hb0 ; have q1 : mtc e n [101, 114, 115, 111, 110] (a + 1) = mtc e n [114, 115, 111, 110] (a + 1 + 1) + 1 := mtc_t hb1 ; have q2 : mtc e n [114, 115, 111, 110] (a + 1 + 1) = 0 := mtc_f hb2 ; omega
  rcases bo2 (chB e n (a + 1 + 1 + 1) 115) with hb3 | hb3
  · have q0 : mtc e n [112, 101, 114, 115, 111, 110] (a) = mtc e n [101, 114, 115, 111, 110] (a + 1) + 1 := mtc_t hb0 ; have q1 : mtc e n [101, 114, 115, 111, 110] (a + 1) = mtc e n [114, 115, 111, 110] (a + 1 + 1) + 1 := mtc_t hb1 ; have q2 : mtc e n [114, 115, 111, 110] (a + 1 + 1) = mtc e n [115, 111, 110] (a + 1 + 1 + 1) + 1 := mtc_t hb2 ; have q3 : mtc e n [115, 111, 110] (a + 1 + 1 + 1) = 0 := mtc_f hb3 ; omega
  rcases bo2 (chB e n (a + 1 + 1 + 1 + 1) 111) with hb4 | hb4
  · have q0 : mtc e n [112, 101, 114, 115, 111, 110] (a) = mtc e n [101, 114, 115, 111, 110] (a + 1) + 1 := mtc_t hb0 ; have q1 : mtc e n [101, 114, 115, 111, 110] (a + 1) = mtc e n [114, 115, 111, 110] (a + 1 + 1) + 1 := mtc_t hb1 ; have q2 : mtc e n [114, 115, 111, 110] (a + 1 + 1) = mtc e n [115, 111, 110] (a + 1 + 1 + 1) + 1 := mtc_t hb2 ; have q3 : mtc e n [115, 111, 110] (a + 1 + 1 + 1) = mtc e n [111, 110] (a + 1 + 1 + 1 + 1) + 1 := mtc_t hb3 ; have q4 : mtc e n [111, 110] (a + 1 + 1 + 1 + 1) = 0 := mtc_f hb4 ; omega
  rcases bo2 (chB e n (a + 1 + 1 + 1 + 1 + 1) 110) with hb5 | hb5
  · have q0 : mtc e n [112, 101, 114, 115, 111, 110] (a) = mtc e n [101, 114, 115, 111, 110] (a + 1) + 1 := mtc_t hb0 ; have q1 : mtc e n [101, 114, 115, 111, 110] (a + 1) = mtc e n [114, 115, 111, 110] (a + 1 + 1) + 1 := mtc_t hb1 ; have q2 : mtc e n [114, 115, 111, 110] (a + 1 + 1) = mtc e n [115, 111, 110] (a + 1 + 1 + 1) + 1 := mtc_t hb2 ; have q3 : mtc e n [115, 111, 110] (a + 1 + 1 + 1) = mtc e n [111, 110] (a + 1 + 1 + 1 + 1) + 1 := mtc_t hb3 ; have q4 : mtc e n [111, 110] (a + 1 + 1 + 1 + 1) = mtc e n [110] (a + 1 + 1 + 1 + 1 + 1) + 1 := mtc_t hb4 ; have q5 : mtc e n [110] (a + 1 + 1 + 1 + 1 + 1) = 0 := mtc_f hb5 ; omega
  exact ⟨hb0, hb1, hb2, hb3, hb4, hb5⟩
theorem ex_1_0 {e : List Int64} {n a : Nat} (h : mj1 e n a = 6) : mj0 e n a ≤ 1 := by
  have x := ex_1 h
  unfold mj0
  have y : chB e n (a + 1) 105 = false := by
    rcases bo2 (chB e n (a + 1) 105) with hb | hb
    · exact hb
    · have h1 := (chB_t hb).2
      have h2 := (chB_t x.2.1).2
      omega
  have q0 : mtc e n [112, 105, 101, 99, 101] (a) = mtc e n [105, 101, 99, 101] (a + 1) + 1 := mtc_t x.1
  have q1 : mtc e n [105, 101, 99, 101] (a + 1) = 0 := mtc_f y
  omega
theorem ex_1_2 {e : List Int64} {n a : Nat} (h : mj1 e n a = 6) : mj2 e n a ≤ 1 := by
  have x := ex_1 h
  unfold mj2
  have y : chB e n (a) 99 = false := by
    rcases bo2 (chB e n (a) 99) with hb | hb
    · exact hb
    · have h1 := (chB_t hb).2
      have h2 := (chB_t x.1).2
      omega
  have q0 : mtc e n [99, 111, 115, 116] (a) = 0 := mtc_f y
  omega
theorem ex_1_3 {e : List Int64} {n a : Nat} (h : mj1 e n a = 6) : mj3 e n a ≤ 1 := by
  have x := ex_1 h
  unfold mj3
  have y : chB e n (a) 104 = false := by
    rcases bo2 (chB e n (a) 104) with hb | hb
    · exact hb
    · have h1 := (chB_t hb).2
      have h2 := (chB_t x.1).2
      omega
  have q0 : mtc e n [104, 97, 115] (a) = 0 := mtc_f y
  omega
theorem ex_1_4 {e : List Int64} {n a : Nat} (h : mj1 e n a = 6) : mj4 e n a ≤ 1 := by
  have x := ex_1 h
  unfold mj4
  have y : chB e n (a) 98 = false := by
    rcases bo2 (chB e n (a) 98) with hb | hb
    · exact hb
    · have h1 := (chB_t hb).2
      have h2 := (chB_t x.1).2
      omega
  have q0 : mtc e n [98, 97, 99, 107] (a) = 0 := mtc_f y
  omega
theorem ex_1_5 {e : List Int64} {n a : Nat} (h : mj1 e n a = 6) : mj5 e n a ≤ 1 := by
  have x := ex_1 h
  unfold mj5
  have y : chB e n (a) 103 = false := by
    rcases bo2 (chB e n (a) 103) with hb | hb
    · exact hb
    · have h1 := (chB_t hb).2
      have h2 := (chB_t x.1).2
      omega
  have q0 : mtc e n [103, 114, 101, 101, 100, 121] (a) = 0 := mtc_f y
  omega
theorem ex_1_6 {e : List Int64} {n a : Nat} (h : mj1 e n a = 6) : mj6 e n a ≤ 1 := by
  have x := ex_1 h
  unfold mj6
  have y : chB e n (a) 98 = false := by
    rcases bo2 (chB e n (a) 98) with hb | hb
    · exact hb
    · have h1 := (chB_t hb).2
      have h2 := (chB_t x.1).2
      omega
  have q0 : mtc e n [98, 101, 115, 116] (a) = 0 := mtc_f y
  omega
theorem ex_2 {e : List Int64} {n a : Nat} (h : mj2 e n a = 4) : chB e n (a) 99 = true ∧ chB e n (a + 1) 111 = true ∧ chB e n (a + 1 + 1) 115 = true ∧ chB e n (a + 1 + 1 + 1) 116 = true := by
  unfold mj2 at h
  rcases bo2 (chB e n (a) 99) with hb0 | hb0
  · have q0 : mtc e n [99, 111, 115, 116] (a) = 0 := mtc_f hb0 ; omega
  rcases bo2 (chB e n (a + 1) 111) with hb1 | hb1
  · have q0 : mtc e n [99, 111, 115, 116] (a) = mtc e n [111, 115, 116] (a + 1) + 1 := mtc_t hb0 ; have q1 : mtc e n [111, 115, 116] (a + 1) = 0 := mtc_f hb1 ; omega
  rcases bo2 (chB e n (a + 1 + 1) 115) with hb2 | hb2
  · have q0 : mtc e n [99, 111, 115, 116] (a) = mtc e n [111, 115, 116] (a + 1) + 1 := mtc_t hb0 ; have q1 : mtc e n [111, 115, 116] (a + 1) = mtc e n [115, 116] (a + 1 + 1) + 1 := mtc_t hb1 ; have q2 : mtc e n [115, 116] (a + 1 + 1) = 0 := mtc_f hb2 ; omega
  rcases bo2 (chB e n (a + 1 + 1 + 1) 116) with hb3 | hb3
  · have q0 : mtc e n [99, 111, 115, 116] (a) = mtc e n [111, 115, 116] (a + 1) + 1 := mtc_t hb0 ; have q1 : mtc e n [111, 115, 116] (a + 1) = mtc e n [115, 116] (a + 1 + 1) + 1 := mtc_t hb1 ; have q2 : mtc e n [115, 116] (a + 1 + 1) = mtc e n [116] (a + 1 + 1 + 1) + 1 := mtc_t hb2 ; have q3 : mtc e n [116] (a + 1 + 1 + 1) = 0 := mtc_f hb3 ; omega
  exact ⟨hb0, hb1, hb2, hb3⟩
theorem ex_2_0 {e : List Int64} {n a : Nat} (h : mj2 e n a = 4) : mj0 e n a ≤ 1 := by
  have x := ex_2 h
  unfold mj0
  have y : chB e n (a) 112 = false := by
    rcases bo2 (chB e n (a) 112) with hb | hb
    · exact hb
    · have h1 := (chB_t hb).2
      have h2 := (chB_t x.1).2
      omega
  have q0 : mtc e n [112, 105, 101, 99, 101] (a) = 0 := mtc_f y
  omega
theorem ex_2_1 {e : List Int64} {n a : Nat} (h : mj2 e n a = 4) : mj1 e n a ≤ 1 := by
  have x := ex_2 h
  unfold mj1
  have y : chB e n (a) 112 = false := by
    rcases bo2 (chB e n (a) 112) with hb | hb
    · exact hb
    · have h1 := (chB_t hb).2
      have h2 := (chB_t x.1).2
      omega
  have q0 : mtc e n [112, 101, 114, 115, 111, 110] (a) = 0 := mtc_f y
  omega
theorem ex_2_3 {e : List Int64} {n a : Nat} (h : mj2 e n a = 4) : mj3 e n a ≤ 1 := by
  have x := ex_2 h
  unfold mj3
  have y : chB e n (a) 104 = false := by
    rcases bo2 (chB e n (a) 104) with hb | hb
    · exact hb
    · have h1 := (chB_t hb).2
      have h2 := (chB_t x.1).2
      omega
  have q0 : mtc e n [104, 97, 115] (a) = 0 := mtc_f y
  omega
theorem ex_2_4 {e : List Int64} {n a : Nat} (h : mj2 e n a = 4) : mj4 e n a ≤ 1 := by
  have x := ex_2 h
  unfold mj4
  have y : chB e n (a) 98 = false := by
    rcases bo2 (chB e n (a) 98) with hb | hb
    · exact hb
    · have h1 := (chB_t hb).2
      have h2 := (chB_t x.1).2
      omega
  have q0 : mtc e n [98, 97, 99, 107] (a) = 0 := mtc_f y
  omega
theorem ex_2_5 {e : List Int64} {n a : Nat} (h : mj2 e n a = 4) : mj5 e n a ≤ 1 := by
  have x := ex_2 h
  unfold mj5
  have y : chB e n (a) 103 = false := by
    rcases bo2 (chB e n (a) 103) with hb | hb
    · exact hb
    · have h1 := (chB_t hb).2
      have h2 := (chB_t x.1).2
      omega
  have q0 : mtc e n [103, 114, 101, 101, 100, 121] (a) = 0 := mtc_f y
  omega
theorem ex_2_6 {e : List Int64} {n a : Nat} (h : mj2 e n a = 4) : mj6 e n a ≤ 1 := by
  have x := ex_2 h
  unfold mj6
  have y : chB e n (a) 98 = false := by
    rcases bo2 (chB e n (a) 98) with hb | hb
    · exact hb
    · have h1 := (chB_t hb).2
      have h2 := (chB_t x.1).2
      omega
  have q0 : mtc e n [98, 101, 115, 116] (a) = 0 := mtc_f y
  omega
theorem ex_3 {e : List Int64} {n a : Nat} (h : mj3 e n a = 3) : chB e n (a) 104 = true ∧ chB e n (a + 1) 97 = true ∧ chB e n (a + 1 + 1) 115 = true := by
  unfold mj3 at h
  rcases bo2 (chB e n (a) 104) with hb0 | hb0
  · have q0 : mtc e n [104, 97, 115] (a) = 0 := mtc_f hb0 ; omega
  rcases bo2 (chB e n (a + 1) 97) with hb1 | hb1
  · have q0 : mtc e n [104, 97, 115] (a) = mtc e n [97, 115] (a + 1) + 1 := mtc_t hb0 ; have q1 : mtc e n [97, 115] (a + 1) = 0 := mtc_f hb1 ; omega
  rcases bo2 (chB e n (a + 1 + 1) 115) with hb2 | hb2
  · have q0 : mtc e n [104, 97, 115] (a) = mtc e n [97, 115] (a + 1) + 1 := mtc_t hb0 ; have q1 : mtc e n [97, 115] (a + 1) = mtc e n [115] (a + 1 + 1) + 1 := mtc_t hb1 ; have q2 : mtc e n [115] (a + 1 + 1) = 0 := mtc_f hb2 ; omega
  exact ⟨hb0, hb1, hb2⟩
theorem ex_3_0 {e : List Int64} {n a : Nat} (h : mj3 e n a = 3) : mj0 e n a ≤ 1 := by
  have x := ex_3 h
  unfold mj0
  have y : chB e n (a) 112 = false := by
    rcases bo2 (chB e n (a) 112) with hb | hb
    · exact hb
    · have h1 := (chB_t hb).2
      have h2 := (chB_t x.1).2
      omega
  have q0 : mtc e n [112, 105, 101, 99, 101] (a) = 0 := mtc_f y
  omega
theorem ex_3_1 {e : List Int64} {n a : Nat} (h : mj3 e n a = 3) : mj1 e n a ≤ 1 := by
  have x := ex_3 h
  unfold mj1
  have y : chB e n (a) 112 = false := by
    rcases bo2 (chB e n (a) 112) with hb | hb
    · exact hb
    · have h1 := (chB_t hb).2
      have h2 := (chB_t x.1).2
      omega
  have q0 : mtc e n [112, 101, 114, 115, 111, 110] (a) = 0 := mtc_f y
  omega
theorem ex_3_2 {e : List Int64} {n a : Nat} (h : mj3 e n a = 3) : mj2 e n a ≤ 1 := by
  have x := ex_3 h
  unfold mj2
  have y : chB e n (a) 99 = false := by
    rcases bo2 (chB e n (a) 99) with hb | hb
    · exact hb
    · have h1 := (chB_t hb).2
      have h2 := (chB_t x.1).2
      omega
  have q0 : mtc e n [99, 111, 115, 116] (a) = 0 := mtc_f y
  omega
theorem ex_3_4 {e : List Int64} {n a : Nat} (h : mj3 e n a = 3) : mj4 e n a ≤ 1 := by
  have x := ex_3 h
  unfold mj4
  have y : chB e n (a) 98 = false := by
    rcases bo2 (chB e n (a) 98) with hb | hb
    · exact hb
    · have h1 := (chB_t hb).2
      have h2 := (chB_t x.1).2
      omega
  have q0 : mtc e n [98, 97, 99, 107] (a) = 0 := mtc_f y
  omega
theorem ex_3_5 {e : List Int64} {n a : Nat} (h : mj3 e n a = 3) : mj5 e n a ≤ 1 := by
  have x := ex_3 h
  unfold mj5
  have y : chB e n (a) 103 = false := by
    rcases bo2 (chB e n (a) 103) with hb | hb
    · exact hb
    · have h1 := (chB_t hb).2
      have h2 := (chB_t x.1).2
      omega
  have q0 : mtc e n [103, 114, 101, 101, 100, 121] (a) = 0 := mtc_f y
  omega
theorem ex_3_6 {e : List Int64} {n a : Nat} (h : mj3 e n a = 3) : mj6 e n a ≤ 1 := by
  have x := ex_3 h
  unfold mj6
  have y : chB e n (a) 98 = false := by
    rcases bo2 (chB e n (a) 98) with hb | hb
    · exact hb
    · have h1 := (chB_t hb).2
      have h2 := (chB_t x.1).2
      omega
  have q0 : mtc e n [98, 101, 115, 116] (a) = 0 := mtc_f y
  omega
theorem ex_4 {e : List Int64} {n a : Nat} (h : mj4 e n a = 4) : chB e n (a) 98 = true ∧ chB e n (a + 1) 97 = true ∧ chB e n (a + 1 + 1) 99 = true ∧ chB e n (a + 1 + 1 + 1) 107 = true := by
  unfold mj4 at h
  rcases bo2 (chB e n (a) 98) with hb0 | hb0
  · have q0 : mtc e n [98, 97, 99, 107] (a) = 0 := mtc_f hb0 ; omega
  rcases bo2 (chB e n (a + 1) 97) with hb1 | hb1
  · have q0 : mtc e n [98, 97, 99, 107] (a) = mtc e n [97, 99, 107] (a + 1) + 1 := mtc_t hb0 ; have q1 : mtc e n [97, 99, 107] (a + 1) = 0 := mtc_f hb1 ; omega
  rcases bo2 (chB e n (a + 1 + 1) 99) with hb2 | hb2
  · have q0 : mtc e n [98, 97, 99, 107] (a) = mtc e n [97, 99, 107] (a + 1) + 1 := mtc_t hb0 ; have q1 : mtc e n [97, 99, 107] (a + 1) = mtc e n [99, 107] (a + 1 + 1) + 1 := mtc_t hb1 ; have q2 : mtc e n [99, 107] (a + 1 + 1) = 0 := mtc_f hb2 ; omega
  rcases bo2 (chB e n (a + 1 + 1 + 1) 107) with hb3 | hb3
  · have q0 : mtc e n [98, 97, 99, 107] (a) = mtc e n [97, 99, 107] (a + 1) + 1 := mtc_t hb0 ; have q1 : mtc e n [97, 99, 107] (a + 1) = mtc e n [99, 107] (a + 1 + 1) + 1 := mtc_t hb1 ; have q2 : mtc e n [99, 107] (a + 1 + 1) = mtc e n [107] (a + 1 + 1 + 1) + 1 := mtc_t hb2 ; have q3 : mtc e n [107] (a + 1 + 1 + 1) = 0 := mtc_f hb3 ; omega
  exact ⟨hb0, hb1, hb2, hb3⟩
theorem ex_4_0 {e : List Int64} {n a : Nat} (h : mj4 e n a = 4) : mj0 e n a ≤ 1 := by
  have x := ex_4 h
  unfold mj0
  have y : chB e n (a) 112 = false := by
    rcases bo2 (chB e n (a) 112) with hb | hb
    · exact hb
    · have h1 := (chB_t hb).2
      have h2 := (chB_t x.1).2
      omega
  have q0 : mtc e n [112, 105, 101, 99, 101] (a) = 0 := mtc_f y
  omega
theorem ex_4_1 {e : List Int64} {n a : Nat} (h : mj4 e n a = 4) : mj1 e n a ≤ 1 := by
  have x := ex_4 h
  unfold mj1
  have y : chB e n (a) 112 = false := by
    rcases bo2 (chB e n (a) 112) with hb | hb
    · exact hb
    · have h1 := (chB_t hb).2
      have h2 := (chB_t x.1).2
      omega
  have q0 : mtc e n [112, 101, 114, 115, 111, 110] (a) = 0 := mtc_f y
  omega
theorem ex_4_2 {e : List Int64} {n a : Nat} (h : mj4 e n a = 4) : mj2 e n a ≤ 1 := by
  have x := ex_4 h
  unfold mj2
  have y : chB e n (a) 99 = false := by
    rcases bo2 (chB e n (a) 99) with hb | hb
    · exact hb
    · have h1 := (chB_t hb).2
      have h2 := (chB_t x.1).2
      omega
  have q0 : mtc e n [99, 111, 115, 116] (a) = 0 := mtc_f y
  omega
theorem ex_4_3 {e : List Int64} {n a : Nat} (h : mj4 e n a = 4) : mj3 e n a ≤ 1 := by
  have x := ex_4 h
  unfold mj3
  have y : chB e n (a) 104 = false := by
    rcases bo2 (chB e n (a) 104) with hb | hb
    · exact hb
    · have h1 := (chB_t hb).2
      have h2 := (chB_t x.1).2
      omega
  have q0 : mtc e n [104, 97, 115] (a) = 0 := mtc_f y
  omega
theorem ex_4_5 {e : List Int64} {n a : Nat} (h : mj4 e n a = 4) : mj5 e n a ≤ 1 := by
  have x := ex_4 h
  unfold mj5
  have y : chB e n (a) 103 = false := by
    rcases bo2 (chB e n (a) 103) with hb | hb
    · exact hb
    · have h1 := (chB_t hb).2
      have h2 := (chB_t x.1).2
      omega
  have q0 : mtc e n [103, 114, 101, 101, 100, 121] (a) = 0 := mtc_f y
  omega
theorem ex_4_6 {e : List Int64} {n a : Nat} (h : mj4 e n a = 4) : mj6 e n a ≤ 1 := by
  have x := ex_4 h
  unfold mj6
  have y : chB e n (a + 1) 101 = false := by
    rcases bo2 (chB e n (a + 1) 101) with hb | hb
    · exact hb
    · have h1 := (chB_t hb).2
      have h2 := (chB_t x.2.1).2
      omega
  have q0 : mtc e n [98, 101, 115, 116] (a) = mtc e n [101, 115, 116] (a + 1) + 1 := mtc_t x.1
  have q1 : mtc e n [101, 115, 116] (a + 1) = 0 := mtc_f y
  omega
theorem ex_5 {e : List Int64} {n a : Nat} (h : mj5 e n a = 6) : chB e n (a) 103 = true ∧ chB e n (a + 1) 114 = true ∧ chB e n (a + 1 + 1) 101 = true ∧ chB e n (a + 1 + 1 + 1) 101 = true ∧ chB e n (a + 1 + 1 + 1 + 1) 100 = true ∧ chB e n (a + 1 + 1 + 1 + 1 + 1) 121 = true := by
  unfold mj5 at h
  rcases bo2 (chB e n (a) 103) with hb0 | hb0
  · have q0 : mtc e n [103, 114, 101, 101, 100, 121] (a) = 0 := mtc_f hb0 ; omega
  rcases bo2 (chB e n (a + 1) 114) with hb1 | hb1
  · have q0 : mtc e n [103, 114, 101, 101, 100, 121] (a) = mtc e n [114, 101, 101, 100, 121] (a + 1) + 1 := mtc_t hb0 ; have q1 : mtc e n [114, 101, 101, 100, 121] (a + 1) = 0 := mtc_f hb1 ; omega
  rcases bo2 (chB e n (a + 1 + 1) 101) with hb2 | hb2
  · have q0 : mtc e n [103, 114, 101, 101, 100, 121] (a) = mtc e n [114, 101, 101, 100, 121] (a + 1) + 1 := mtc_t hb0 ; have q1 : mtc e n [114, 101, 101, 100, 121] (a + 1) = mtc e n [101, 101, 100, 121] (a + 1 + 1) + 1 := mtc_t hb1 ; have q2 : mtc e n [101, 101, 100, 121] (a + 1 + 1) = 0 := mtc_f hb2 ; omega
  rcases bo2 (chB e n (a + 1 + 1 + 1) 101) with hb3 | hb3
  · have q0 : mtc e n [103, 114, 101, 101, 100, 121] (a) = mtc e n [114, 101, 101, 100, 121] (a + 1) + 1 := mtc_t hb0 ; have q1 : mtc e n [114, 101, 101, 100, 121] (a + 1) = mtc e n [101, 101, 100, 121] (a + 1 + 1) + 1 := mtc_t hb1 ; have q2 : mtc e n [101, 101, 100, 121] (a + 1 + 1) = mtc e n [101, 100, 121] (a + 1 + 1 + 1) + 1 := mtc_t hb2 ; have q3 : mtc e n [101, 100, 121] (a + 1 + 1 + 1) = 0 := mtc_f hb3 ; omega
  rcases bo2 (chB e n (a + 1 + 1 + 1 + 1) 100) with hb4 | hb4
  · have q0 : mtc e n [103, 114, 101, 101, 100, 121] (a) = mtc e n [114, 101, 101, 100, 121] (a + 1) + 1 := mtc_t hb0 ; have q1 : mtc e n [114, 101, 101, 100, 121] (a + 1) = mtc e n [101, 101, 100, 121] (a + 1 + 1) + 1 := mtc_t hb1 ; have q2 : mtc e n [101, 101, 100, 121] (a + 1 + 1) = mtc e n [101, 100, 121] (a + 1 + 1 + 1) + 1 := mtc_t hb2 ; have q3 : mtc e n [101, 100, 121] (a + 1 + 1 + 1) = mtc e n [100, 121] (a + 1 + 1 + 1 + 1) + 1 := mtc_t hb3 ; have q4 : mtc e n [100, 121] (a + 1 + 1 + 1 + 1) = 0 := mtc_f hb4 ; omega
  rcases bo2 (chB e n (a + 1 + 1 + 1 + 1 + 1) 121) with hb5 | hb5
  · have q0 : mtc e n [103, 114, 101, 101, 100, 121] (a) = mtc e n [114, 101, 101, 100, 121] (a + 1) + 1 := mtc_t hb0 ; have q1 : mtc e n [114, 101, 101, 100, 121] (a + 1) = mtc e n [101, 101, 100, 121] (a + 1 + 1) + 1 := mtc_t hb1 ; have q2 : mtc e n [101, 101, 100, 121] (a + 1 + 1) = mtc e n [101, 100, 121] (a + 1 + 1 + 1) + 1 := mtc_t hb2 ; have q3 : mtc e n [101, 100, 121] (a + 1 + 1 + 1) = mtc e n [100, 121] (a + 1 + 1 + 1 + 1) + 1 := mtc_t hb3 ; have q4 : mtc e n [100, 121] (a + 1 + 1 + 1 + 1) = mtc e n [121] (a + 1 + 1 + 1 + 1 + 1) + 1 := mtc_t hb4 ; have q5 : mtc e n [121] (a + 1 + 1 + 1 + 1 + 1) = 0 := mtc_f hb5 ; omega
  exact ⟨hb0, hb1, hb2, hb3, hb4, hb5⟩
theorem ex_5_0 {e : List Int64} {n a : Nat} (h : mj5 e n a = 6) : mj0 e n a ≤ 1 := by
  have x := ex_5 h
  unfold mj0
  have y : chB e n (a) 112 = false := by
    rcases bo2 (chB e n (a) 112) with hb | hb
    · exact hb
    · have h1 := (chB_t hb).2
      have h2 := (chB_t x.1).2
      omega
  have q0 : mtc e n [112, 105, 101, 99, 101] (a) = 0 := mtc_f y
  omega
theorem ex_5_1 {e : List Int64} {n a : Nat} (h : mj5 e n a = 6) : mj1 e n a ≤ 1 := by
  have x := ex_5 h
  unfold mj1
  have y : chB e n (a) 112 = false := by
    rcases bo2 (chB e n (a) 112) with hb | hb
    · exact hb
    · have h1 := (chB_t hb).2
      have h2 := (chB_t x.1).2
      omega
  have q0 : mtc e n [112, 101, 114, 115, 111, 110] (a) = 0 := mtc_f y
  omega
theorem ex_5_2 {e : List Int64} {n a : Nat} (h : mj5 e n a = 6) : mj2 e n a ≤ 1 := by
  have x := ex_5 h
  unfold mj2
  have y : chB e n (a) 99 = false := by
    rcases bo2 (chB e n (a) 99) with hb | hb
    · exact hb
    · have h1 := (chB_t hb).2
      have h2 := (chB_t x.1).2
      omega
  have q0 : mtc e n [99, 111, 115, 116] (a) = 0 := mtc_f y
  omega
theorem ex_5_3 {e : List Int64} {n a : Nat} (h : mj5 e n a = 6) : mj3 e n a ≤ 1 := by
  have x := ex_5 h
  unfold mj3
  have y : chB e n (a) 104 = false := by
    rcases bo2 (chB e n (a) 104) with hb | hb
    · exact hb
    · have h1 := (chB_t hb).2
      have h2 := (chB_t x.1).2
      omega
  have q0 : mtc e n [104, 97, 115] (a) = 0 := mtc_f y
  omega
theorem ex_5_4 {e : List Int64} {n a : Nat} (h : mj5 e n a = 6) : mj4 e n a ≤ 1 := by
  have x := ex_5 h
  unfold mj4
  have y : chB e n (a) 98 = false := by
    rcases bo2 (chB e n (a) 98) with hb | hb
    · exact hb
    · have h1 := (chB_t hb).2
      have h2 := (chB_t x.1).2
      omega
  have q0 : mtc e n [98, 97, 99, 107] (a) = 0 := mtc_f y
  omega
theorem ex_5_6 {e : List Int64} {n a : Nat} (h : mj5 e n a = 6) : mj6 e n a ≤ 1 := by
  have x := ex_5 h
  unfold mj6
  have y : chB e n (a) 98 = false := by
    rcases bo2 (chB e n (a) 98) with hb | hb
    · exact hb
    · have h1 := (chB_t hb).2
      have h2 := (chB_t x.1).2
      omega
  have q0 : mtc e n [98, 101, 115, 116] (a) = 0 := mtc_f y
  omega
theorem ex_6 {e : List Int64} {n a : Nat} (h : mj6 e n a = 4) : chB e n (a) 98 = true ∧ chB e n (a + 1) 101 = true ∧ chB e n (a + 1 + 1) 115 = true ∧ chB e n (a + 1 + 1 + 1) 116 = true := by
  unfold mj6 at h
  rcases bo2 (chB e n (a) 98) with hb0 | hb0
  · have q0 : mtc e n [98, 101, 115, 116] (a) = 0 := mtc_f hb0 ; omega
  rcases bo2 (chB e n (a + 1) 101) with hb1 | hb1
  · have q0 : mtc e n [98, 101, 115, 116] (a) = mtc e n [101, 115, 116] (a + 1) + 1 := mtc_t hb0 ; have q1 : mtc e n [101, 115, 116] (a + 1) = 0 := mtc_f hb1 ; omega
  rcases bo2 (chB e n (a + 1 + 1) 115) with hb2 | hb2
  · have q0 : mtc e n [98, 101, 115, 116] (a) = mtc e n [101, 115, 116] (a + 1) + 1 := mtc_t hb0 ; have q1 : mtc e n [101, 115, 116] (a + 1) = mtc e n [115, 116] (a + 1 + 1) + 1 := mtc_t hb1 ; have q2 : mtc e n [115, 116] (a + 1 + 1) = 0 := mtc_f hb2 ; omega
  rcases bo2 (chB e n (a + 1 + 1 + 1) 116) with hb3 | hb3
  · have q0 : mtc e n [98, 101, 115, 116] (a) = mtc e n [101, 115, 116] (a + 1) + 1 := mtc_t hb0 ; have q1 : mtc e n [101, 115, 116] (a + 1) = mtc e n [115, 116] (a + 1 + 1) + 1 := mtc_t hb1 ; have q2 : mtc e n [115, 116] (a + 1 + 1) = mtc e n [116] (a + 1 + 1 + 1) + 1 := mtc_t hb2 ; have q3 : mtc e n [116] (a + 1 + 1 + 1) = 0 := mtc_f hb3 ; omega
  exact ⟨hb0, hb1, hb2, hb3⟩
theorem ex_6_0 {e : List Int64} {n a : Nat} (h : mj6 e n a = 4) : mj0 e n a ≤ 1 := by
  have x := ex_6 h
  unfold mj0
  have y : chB e n (a) 112 = false := by
    rcases bo2 (chB e n (a) 112) with hb | hb
    · exact hb
    · have h1 := (chB_t hb).2
      have h2 := (chB_t x.1).2
      omega
  have q0 : mtc e n [112, 105, 101, 99, 101] (a) = 0 := mtc_f y
  omega
theorem ex_6_1 {e : List Int64} {n a : Nat} (h : mj6 e n a = 4) : mj1 e n a ≤ 1 := by
  have x := ex_6 h
  unfold mj1
  have y : chB e n (a) 112 = false := by
    rcases bo2 (chB e n (a) 112) with hb | hb
    · exact hb
    · have h1 := (chB_t hb).2
      have h2 := (chB_t x.1).2
      omega
  have q0 : mtc e n [112, 101, 114, 115, 111, 110] (a) = 0 := mtc_f y
  omega
theorem ex_6_2 {e : List Int64} {n a : Nat} (h : mj6 e n a = 4) : mj2 e n a ≤ 1 := by
  have x := ex_6 h
  unfold mj2
  have y : chB e n (a) 99 = false := by
    rcases bo2 (chB e n (a) 99) with hb | hb
    · exact hb
    · have h1 := (chB_t hb).2
      have h2 := (chB_t x.1).2
      omega
  have q0 : mtc e n [99, 111, 115, 116] (a) = 0 := mtc_f y
  omega
theorem ex_6_3 {e : List Int64} {n a : Nat} (h : mj6 e n a = 4) : mj3 e n a ≤ 1 := by
  have x := ex_6 h
  unfold mj3
  have y : chB e n (a) 104 = false := by
    rcases bo2 (chB e n (a) 104) with hb | hb
    · exact hb
    · have h1 := (chB_t hb).2
      have h2 := (chB_t x.1).2
      omega
  have q0 : mtc e n [104, 97, 115] (a) = 0 := mtc_f y
  omega
theorem ex_6_4 {e : List Int64} {n a : Nat} (h : mj6 e n a = 4) : mj4 e n a ≤ 1 := by
  have x := ex_6 h
  unfold mj4
  have y : chB e n (a + 1) 97 = false := by
    rcases bo2 (chB e n (a + 1) 97) with hb | hb
    · exact hb
    · have h1 := (chB_t hb).2
      have h2 := (chB_t x.2.1).2
      omega
  have q0 : mtc e n [98, 97, 99, 107] (a) = mtc e n [97, 99, 107] (a + 1) + 1 := mtc_t x.1
  have q1 : mtc e n [97, 99, 107] (a + 1) = 0 := mtc_f y
  omega
theorem ex_6_5 {e : List Int64} {n a : Nat} (h : mj6 e n a = 4) : mj5 e n a ≤ 1 := by
  have x := ex_6 h
  unfold mj5
  have y : chB e n (a) 103 = false := by
    rcases bo2 (chB e n (a) 103) with hb | hb
    · exact hb
    · have h1 := (chB_t hb).2
      have h2 := (chB_t x.1).2
      omega
  have q0 : mtc e n [103, 114, 101, 101, 100, 121] (a) = 0 := mtc_f y
  omega
def dv (e : List Int64) (b : Nat) : Nat := ((tw e b).toInt - 48).toNat
theorem dv_eq {e : List Int64} {n b : Nat} (h : dgB e n b = true) : tw e b - nI 48 = nI (dv e b) ∧ dv e b ≤ 9 ∧ tw e b = nI (dv e b + 48) := by
  obtain ⟨-, h1, h2⟩ := dgB_t h
  rcases ab_int (tw e b) with ⟨x, hx, ex⟩ | z
  · have t : (tw e b).toInt = x := by rw [ex]; exact nI_toInt hx
    have d : dv e b = x - 48 := by unfold dv; omega
    refine ⟨?_, by omega, ?_⟩
    · rw [ex, pk_sub (by omega), d]
    · rw [ex, d]
      exact congrArg nI (by omega)
  · omega
/-- the number at b, and its end -/
def nuV (e : List Int64) (n b : Nat) : Nat := if dgB e n (b + 1) = true then dv e b * 10 + dv e (b + 1) else dv e b
def nuE (e : List Int64) (n b : Nat) : Nat := if dgB e n (b + 1) = true then b + 2 else b + 1
/-- a blank and a number from lo on, below hb: 0 it stands, f + 1 the fault -/
def nuF (e : List Int64) (n a lo hb : Nat) : Nat := if chB e n a 32 = false then a + 1 else if dgB e n (a + 1) = false then a + 2 else if nuV e n (a + 1) < lo ∨ hb ≤ nuV e n (a + 1) then a + 2 else 0
def cnE (e : List Int64) (n a : Nat) : Nat := nuE e n (a + 1)
theorem nuF_A {e : List Int64} {n a lo hb : Nat} (h : chB e n a 32 = false) : nuF e n a lo hb = a + 1 := if_pos h
theorem nuF_B {e : List Int64} {n a lo hb : Nat} (h : chB e n a 32 = true) (h2 : dgB e n (a + 1) = false) : nuF e n a lo hb = a + 2 := by
  unfold nuF
  rw [if_neg (by rw [h]; decide), if_pos h2]
theorem nuF_D {e : List Int64} {n a lo hb : Nat} (h : chB e n a 32 = true) (h2 : dgB e n (a + 1) = true) (h3 : nuV e n (a + 1) < lo ∨ hb ≤ nuV e n (a + 1)) : nuF e n a lo hb = a + 2 := by
  unfold nuF
  rw [if_neg (by rw [h]; decide), if_neg (by rw [h2]; decide), if_pos h3]
theorem nuF_C {e : List Int64} {n a lo hb : Nat} (h : chB e n a 32 = true) (h2 : dgB e n (a + 1) = true) (h3 : ¬ (nuV e n (a + 1) < lo ∨ hb ≤ nuV e n (a + 1))) : nuF e n a lo hb = 0 := by
  unfold nuF
  rw [if_neg (by rw [h]; decide), if_neg (by rw [h2]; decide), if_neg h3]
theorem cnE_n {e : List Int64} {n a : Nat} (h : dgB e n (a + 1) = true) : cnE e n a ≤ n ∧ a + 2 ≤ cnE e n a := by
  unfold cnE nuE
  have := (dgB_t h).1
  split
  · rename_i z
    have := (dgB_t z).1
    omega
  · omega
theorem nuV_99 {e : List Int64} {n b : Nat} (h : dgB e n b = true) : nuV e n b ≤ 99 := by
  have := (dv_eq h).2.1
  unfold nuV
  split
  · rename_i z
    have := (dv_eq z).2.1
    omega
  · omega
def s2F (e : List Int64) (n l1 b1 l2 b2 c : Nat) : Nat := if nuF e n c l1 b1 = 0 then nuF e n (cnE e n c) l2 b2 else nuF e n c l1 b1
def s3F (e : List Int64) (n l1 b1 l2 b2 l3 b3 c : Nat) : Nat := if nuF e n c l1 b1 = 0 then s2F e n l2 b2 l3 b3 (cnE e n c) else nuF e n c l1 b1
def hasF (e : List Int64) (n : Nat) (q : ab_q) (a : Nat) : Nat := if nuF e n (a + 3) 0 (qN q) = 0 then (if (qP q).getD (nuV e n (a + 4)) 0 = 99 then nuF e n (cnE e n (a + 3)) 0 (qM q) else a + 5) else nuF e n (a + 3) 0 (qN q)
def bakF (e : List Int64) (n : Nat) (q : ab_q) (a : Nat) : Nat := if nuF e n (a + 4) 0 (qN q) = 0 then (if (qP q).getD (nuV e n (a + 5)) 0 = 99 then a + 6 else 0) else nuF e n (a + 4) 0 (qN q)
/-- one item: 0 it stands, f + 1 the fault -/
def itF (e : List Int64) (n : Nat) (q : ab_q) (a : Nat) : Nat := match wd e n a with
  | 0 => if qN q = 9 then a + 1 else s3F e n 0 7 0 10 1 51 (a + 5)
  | 1 => if qM q = 6 then a + 1 else s3F e n 0 100 0 10 0 8 (a + 6)
  | 2 => s2F e n 0 8 1 61 (a + 4)
  | 3 => hasF e n q a
  | 4 => bakF e n q a
  | 5 => 0
  | 6 => 0
  | _ => a + mxL e n a + 1
def adP (q : ab_q) (x y z : Nat) : ab_q := qs_N (qs_P (qs_B (qs_A (qs_K q ((qK q).set (qN q) x)) ((qA q).set (qN q) y)) ((qB q).set (qN q) z)) ((qP q).set (qN q) 99)) (qN q + 1)
def adM (q : ab_q) (x y z : Nat) : ab_q := qs_M (qs_G (qs_W (qs_L (qs_U q ((qU q).set (qM q) x)) ((qL q).set (qM q) y)) ((qW q).set (qM q) z)) ((qG q).set (qM q) (nI 0))) (qM q + 1)
def itQ (e : List Int64) (n : Nat) (q : ab_q) (a : Nat) : ab_q := match wd e n a with
  | 0 => adP q (nuV e n (a + 6)) (nuV e n (cnE e n (a + 5) + 1)) (nuV e n (cnE e n (cnE e n (a + 5)) + 1))
  | 1 => adM q (nuV e n (a + 7)) (nuV e n (cnE e n (a + 6) + 1)) (nuV e n (cnE e n (cnE e n (a + 6)) + 1))
  | 2 => qs_C q ((qC q).set (nuV e n (a + 5)) (nuV e n (cnE e n (a + 4) + 1)))
  | 3 => qs_P q ((qP q).set (nuV e n (a + 4)) (nuV e n (cnE e n (a + 3) + 1)))
  | 4 => qs_P q ((qP q).set (nuV e n (a + 5)) 99)
  | 5 => qs_R q (nI 1)
  | 6 => qs_R q (nI 0)
  | _ => q
def itA (e : List Int64) (n : Nat) (a : Nat) : Nat := match wd e n a with
  | 0 => cnE e n (cnE e n (cnE e n (a + 5)))
  | 1 => cnE e n (cnE e n (cnE e n (a + 6)))
  | 2 => cnE e n (cnE e n (a + 4))
  | 3 => cnE e n (cnE e n (a + 3))
  | 4 => cnE e n (a + 4)
  | 5 => a + 6
  | 6 => a + 4
  | _ => a
theorem it_0 {e : List Int64} {n a : Nat} {q : ab_q} (h : wd e n a = 0) : itF e n q a = (if qN q = 9 then a + 1 else s3F e n 0 7 0 10 1 51 (a + 5)) ∧ itQ e n q a = adP q (nuV e n (a + 6)) (nuV e n (cnE e n (a + 5) + 1)) (nuV e n (cnE e n (cnE e n (a + 5)) + 1)) ∧ itA e n a = cnE e n (cnE e n (cnE e n (a + 5))) := by
  unfold itF itQ itA
  rw [h]
  exact ⟨rfl, rfl, rfl⟩
theorem it_1 {e : List Int64} {n a : Nat} {q : ab_q} (h : wd e n a = 1) : itF e n q a = (if qM q = 6 then a + 1 else s3F e n 0 100 0 10 0 8 (a + 6)) ∧ itQ e n q a = adM q (nuV e n (a + 7)) (nuV e n (cnE e n (a + 6) + 1)) (nuV e n (cnE e n (cnE e n (a + 6)) + 1)) ∧ itA e n a = cnE e n (cnE e n (cnE e n (a + 6))) := by
  unfold itF itQ itA
  rw [h]
  exact ⟨rfl, rfl, rfl⟩
theorem it_2 {e : List Int64} {n a : Nat} {q : ab_q} (h : wd e n a = 2) : itF e n q a = (s2F e n 0 8 1 61 (a + 4)) ∧ itQ e n q a = qs_C q ((qC q).set (nuV e n (a + 5)) (nuV e n (cnE e n (a + 4) + 1))) ∧ itA e n a = cnE e n (cnE e n (a + 4)) := by
  unfold itF itQ itA
  rw [h]
  exact ⟨rfl, rfl, rfl⟩
theorem it_3 {e : List Int64} {n a : Nat} {q : ab_q} (h : wd e n a = 3) : itF e n q a = (hasF e n q a) ∧ itQ e n q a = qs_P q ((qP q).set (nuV e n (a + 4)) (nuV e n (cnE e n (a + 3) + 1))) ∧ itA e n a = cnE e n (cnE e n (a + 3)) := by
  unfold itF itQ itA
  rw [h]
  exact ⟨rfl, rfl, rfl⟩
theorem it_4 {e : List Int64} {n a : Nat} {q : ab_q} (h : wd e n a = 4) : itF e n q a = (bakF e n q a) ∧ itQ e n q a = qs_P q ((qP q).set (nuV e n (a + 5)) 99) ∧ itA e n a = cnE e n (a + 4) := by
  unfold itF itQ itA
  rw [h]
  exact ⟨rfl, rfl, rfl⟩
theorem it_5 {e : List Int64} {n a : Nat} {q : ab_q} (h : wd e n a = 5) : itF e n q a = (0) ∧ itQ e n q a = qs_R q (nI 1) ∧ itA e n a = a + 6 := by
  unfold itF itQ itA
  rw [h]
  exact ⟨rfl, rfl, rfl⟩
theorem it_6 {e : List Int64} {n a : Nat} {q : ab_q} (h : wd e n a = 6) : itF e n q a = (0) ∧ itQ e n q a = qs_R q (nI 0) ∧ itA e n a = a + 4 := by
  unfold itF itQ itA
  rw [h]
  exact ⟨rfl, rfl, rfl⟩
theorem it_7 {e : List Int64} {n a : Nat} {q : ab_q} (h : wd e n a = 7) : itF e n q a = (a + mxL e n a + 1) ∧ itQ e n q a = q ∧ itA e n a = a := by
  unfold itF itQ itA
  rw [h]
  exact ⟨rfl, rfl, rfl⟩
