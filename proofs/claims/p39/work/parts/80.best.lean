/-! CHANGE by the best: the least key of all sets, and how each class comes to it -/
theorem qBit_lo {T i x : Nat} (h : x < i) : qBit (T + 2 ^ i) x = qBit T x := by
  have a := qBit_t (T + 2 ^ i) x
  have b := qBit_t T x
  rw [Nat.add_comm, Nat.testBit_two_pow_add_gt h, ← b] at a
  rw [Nat.add_comm]
  have c := qBit2 (2 ^ i + T) x
  have d := qBit2 T x
  omega
theorem qBit_hi {T i : Nat} (h : T < 2 ^ i) : qBit (T + 2 ^ i) i = 1 := by
  unfold qBit
  rw [Nat.add_div_right _ (Nat.two_pow_pos i), Nat.div_eq_of_lt h]
theorem qBit_0 {T i : Nat} (h : T < 2 ^ i) : qBit T i = 0 := by
  unfold qBit
  rw [Nat.div_eq_of_lt h]
/-- below i + 1: without i, or with it -/
theorem qSplit {S i : Nat} (h : S < 2 ^ (i + 1)) : (S < 2 ^ i ∧ qBit S i = 0) ∨ ∃ T, T < 2 ^ i ∧ S = T + 2 ^ i := by
  by_cases c : S < 2 ^ i
  · exact Or.inl ⟨c, qBit_0 c⟩
  · refine Or.inr ⟨S - 2 ^ i, ?_, by omega⟩
    rw [Nat.pow_succ] at h
    omega
theorem qWs_co {s : ab_q} {S T : Nat} : ∀ i, (∀ x, x < i → qBit S x = qBit T x) → qWs s S i = qWs s T i
  | 0, _ => rfl
  | i + 1, h => by
    show qWs s S i + _ = qWs s T i + _
    rw [qWs_co i (fun x hx => h x (Nat.lt_succ_of_lt hx)), h i (Nat.lt_succ_self i)]
theorem qHs_co {s : ab_q} {S T : Nat} : ∀ i, (∀ x, x < i → qBit S x = qBit T x) → qHs s S i = qHs s T i
  | 0, _ => rfl
  | i + 1, h => by
    show qHs s S i + _ = qHs s T i + _
    rw [qHs_co i (fun x hx => h x (Nat.lt_succ_of_lt hx)), h i (Nat.lt_succ_self i)]
theorem qMany_co {S T : Nat} : ∀ i, (∀ x, x < i → qBit S x = qBit T x) → qMany S i = qMany T i
  | 0, _ => rfl
  | i + 1, h => by
    show qMany S i + _ = qMany T i + _
    rw [qMany_co i (fun x hx => h x (Nat.lt_succ_of_lt hx)), h i (Nat.lt_succ_self i)]
theorem qSub_add {T i m : Nat} (h : T < 2 ^ i) : (T + 2 ^ i) &&& m = T + 2 ^ i ↔ T &&& m = T ∧ qBit m i = 1 := by
  have hb : ∀ j, (T + 2 ^ i).testBit j = (T.testBit j || decide (i = j)) := by
    intro j
    rw [show T + 2 ^ i = 2 ^ i * 1 + T by omega, Nat.two_pow_add_eq_or_of_lt h 1, Nat.mul_one, Nat.testBit_or, Nat.testBit_two_pow, Bool.or_comm]
  constructor
  · intro e
    constructor
    · apply Nat.eq_of_testBit_eq
      intro j
      have := congrArg (fun z => z.testBit j) e
      simp only [Nat.testBit_and, hb] at this
      rw [Nat.testBit_and]
      by_cases c : i = j
      · subst c
        rw [Nat.testBit_lt_two_pow h]
        rfl
      · simpa [c] using this
    · rw [qBit_t]
      have := congrArg (fun z => z.testBit i) e
      simp only [Nat.testBit_and, hb] at this
      simpa using this
  · rintro ⟨e, b⟩
    rw [qBit_t] at b
    apply Nat.eq_of_testBit_eq
    intro j
    have := congrArg (fun z => z.testBit j) e
    simp only [Nat.testBit_and] at this
    rw [Nat.testBit_and, hb]
    by_cases c : i = j
    · subst c
      simp [b]
    · simpa [c] using this
/-- a set's key -/
def kAt (s : ab_q) (S i : Nat) : Nat := qMany S i * 1048576 + qHs s S i * 1024 + S
theorem kAt_add {s : ab_q} {T i : Nat} (h : T < 2 ^ i) : kAt s (T + 2 ^ i) (i + 1) = kAt s T i + (1048576 + qHarm s i * 1024 + 2 ^ i) := by
  unfold kAt
  show (qMany (T + 2 ^ i) i + qBit (T + 2 ^ i) i) * 1048576 + (qHs s (T + 2 ^ i) i + (if qBit (T + 2 ^ i) i = 1 then qHarm s i else 0)) * 1024 + (T + 2 ^ i) = _
  rw [qBit_hi h, if_pos rfl, qMany_co i (fun x hx => qBit_lo hx), qHs_co i (fun x hx => qBit_lo hx)]
  omega
theorem kAt_0 {s : ab_q} {T i : Nat} (h : T < 2 ^ i) : kAt s T (i + 1) = kAt s T i := by
  unfold kAt
  show (qMany T i + qBit T i) * 1048576 + (qHs s T i + (if qBit T i = 1 then qHarm s i else 0)) * 1024 + T = _
  rw [qBit_0 h, if_neg (by omega)]
  omega
theorem qWs_add {s : ab_q} {T i : Nat} (h : T < 2 ^ i) : qWs s (T + 2 ^ i) (i + 1) = qWs s T i + qWorth s i := by
  show qWs s (T + 2 ^ i) i + (if qBit (T + 2 ^ i) i = 1 then qWorth s i else 0) = _
  rw [qBit_hi h, if_pos rfl, qWs_co i (fun x hx => qBit_lo hx)]
theorem qWs_00 {s : ab_q} {T i : Nat} (h : T < 2 ^ i) : qWs s T (i + 1) = qWs s T i := by
  show qWs s T i + (if qBit T i = 1 then qWorth s i else 0) = _
  rw [qBit_0 h, if_neg (by omega), Nat.add_zero]
/-- the class's way: keys less by one piece more (0: none; k + 1: the key k) -/
def putF (f : Nat → Nat) (w k : Nat) : Nat → Nat := fun c => if w ≤ c ∧ f (c - w) ≠ 0 ∧ (f c = 0 ∨ f (c - w) + k < f c) then f (c - w) + k else f c
def wgh (s : ab_q) (m : Nat) : Nat → Nat → Nat
  | 0 => fun c => if c = 0 then 1 else 0
  | i + 1 => if qBit m i = 1 then putF (wgh s m i) (qWorth s i) (1048576 + qHarm s i * 1024 + 2 ^ i) else wgh s m i
/-- the reference's way: set by set (0: none; S + 1: the set S) -/
def bst (s : ab_q) (m n : Nat) : Nat → Nat → Nat
  | 0 => fun _ => 0
  | S + 1 => fun c => if S &&& m = S ∧ qWs s S n = c ∧ (bst s m n S c = 0 ∨ kAt s S n < kAt s (bst s m n S c - 1) n) then S + 1 else bst s m n S c
theorem wgh_in {s : ab_q} {m : Nat} : ∀ i c k, wgh s m i c = k + 1 → ∃ S, S < 2 ^ i ∧ S &&& m = S ∧ qWs s S i = c ∧ kAt s S i = k
  | 0, c, k, h => by
    have h : (if c = 0 then 1 else 0) = k + 1 := h
    split at h
    · rename_i e
      exact ⟨0, by decide, Nat.zero_and m, e.symm, by unfold kAt; rw [show qMany 0 0 = 0 from rfl, show qHs s 0 0 = 0 from rfl]; simp only [Nat.zero_mul]; exact Nat.succ.inj h⟩
    · omega
  | i + 1, c, k, h => by
    have lift : wgh s m i c = k + 1 → ∃ S, S < 2 ^ (i + 1) ∧ S &&& m = S ∧ qWs s S (i + 1) = c ∧ kAt s S (i + 1) = k := fun h => by
      obtain ⟨S, a, b, e, d⟩ := wgh_in i c k h
      exact ⟨S, by rw [Nat.pow_succ]; omega, b, by rw [qWs_00 a, e], by rw [kAt_0 a, d]⟩
    have h : (if qBit m i = 1 then putF (wgh s m i) (qWorth s i) (1048576 + qHarm s i * 1024 + 2 ^ i) else wgh s m i) c = k + 1 := h
    by_cases q : qBit m i = 1
    · rw [if_pos q] at h
      unfold putF at h
      split at h
      · rename_i z
        obtain ⟨z1, z2, -⟩ := z
        obtain ⟨j, hj⟩ : ∃ j, wgh s m i (c - qWorth s i) = j + 1 := ⟨wgh s m i (c - qWorth s i) - 1, by omega⟩
        obtain ⟨T, a, b, e, d⟩ := wgh_in i _ j hj
        exact ⟨T + 2 ^ i, by rw [Nat.pow_succ]; omega, (qSub_add a).mpr ⟨b, q⟩, by rw [qWs_add a, e]; omega, by rw [kAt_add a, d]; omega⟩
      · exact lift h
    · rw [if_neg q] at h
      exact lift h
theorem putF_le {f : Nat → Nat} {w k c : Nat} (h : f c ≠ 0) : putF f w k c ≠ 0 ∧ putF f w k c ≤ f c := by
  unfold putF
  split
  · rename_i z
    omega
  · exact ⟨h, Nat.le_refl _⟩
theorem putF_add {f : Nat → Nat} {w k c : Nat} (h1 : w ≤ c) (h : f (c - w) ≠ 0) : putF f w k c ≠ 0 ∧ putF f w k c ≤ f (c - w) + k := by
  unfold putF
  split
  · omega
  · rename_i z
    have : ¬ (f c = 0 ∨ f (c - w) + k < f c) := fun q => z ⟨h1, h, q⟩
    omega
theorem wgh_le {s : ab_q} {m : Nat} : ∀ i S, S < 2 ^ i → S &&& m = S → wgh s m i (qWs s S i) ≠ 0 ∧ wgh s m i (qWs s S i) ≤ kAt s S i + 1
  | 0, S, h, _ => by
    obtain rfl : S = 0 := by
      rw [Nat.pow_zero] at h
      omega
    show (if 0 = 0 then 1 else 0) ≠ 0 ∧ (if 0 = 0 then 1 else 0) ≤ _
    rw [if_pos rfl]
    omega
  | i + 1, S, h, e => by
    have hd : wgh s m (i + 1) = if qBit m i = 1 then putF (wgh s m i) (qWorth s i) (1048576 + qHarm s i * 1024 + 2 ^ i) else wgh s m i := rfl
    rcases qSplit h with ⟨a, b⟩ | ⟨T, a, rfl⟩
    · have ih := wgh_le (s := s) i S a e
      rw [qWs_00 a, kAt_0 a, hd]
      split
      · have := putF_le (w := qWorth s i) (k := 1048576 + qHarm s i * 1024 + 2 ^ i) ih.1
        exact ⟨this.1, Nat.le_trans this.2 ih.2⟩
      · exact ih
    · obtain ⟨e1, e2⟩ := (qSub_add a).mp e
      have ih := wgh_le (s := s) i T a e1
      rw [qWs_add a, kAt_add a, hd, if_pos e2]
      have hc : qWs s T i + qWorth s i - qWorth s i = qWs s T i := by omega
      have := putF_add (f := wgh s m i) (w := qWorth s i) (k := 1048576 + qHarm s i * 1024 + 2 ^ i) (c := qWs s T i + qWorth s i) (by omega) (by rw [hc]; exact ih.1)
      rw [hc] at this
      omega
theorem bst_in {s : ab_q} {m n : Nat} : ∀ N c S, bst s m n N c = S + 1 → S < N ∧ S &&& m = S ∧ qWs s S n = c
  | 0, c, S, h => by cases h
  | N + 1, c, S, h => by
    have h : (if N &&& m = N ∧ qWs s N n = c ∧ (bst s m n N c = 0 ∨ kAt s N n < kAt s (bst s m n N c - 1) n) then N + 1 else bst s m n N c) = S + 1 := h
    split at h
    · rename_i z
      obtain rfl : N = S := by omega
      exact ⟨Nat.lt_succ_self _, z.1, z.2.1⟩
    · have := bst_in N c S h
      exact ⟨Nat.lt_succ_of_lt this.1, this.2⟩
theorem bst_le {s : ab_q} {m n : Nat} : ∀ N S, S < N → S &&& m = S → ∃ B, bst s m n N (qWs s S n) = B + 1 ∧ kAt s B n ≤ kAt s S n
  | 0, S, h, _ => by omega
  | N + 1, S, h, e => by
    have hd : bst s m n (N + 1) (qWs s S n) = if N &&& m = N ∧ qWs s N n = qWs s S n ∧ (bst s m n N (qWs s S n) = 0 ∨ kAt s N n < kAt s (bst s m n N (qWs s S n) - 1) n) then N + 1 else bst s m n N (qWs s S n) := rfl
    rw [hd]
    by_cases c : S = N
    · subst c
      split
      · exact ⟨S, rfl, Nat.le_refl _⟩
      · rename_i z
        have z : ¬ (bst s m n S (qWs s S n) = 0 ∨ kAt s S n < kAt s (bst s m n S (qWs s S n) - 1) n) := fun q => z ⟨e, rfl, q⟩
        exact ⟨bst s m n S (qWs s S n) - 1, by omega, by omega⟩
    · obtain ⟨B, h1, h2⟩ := bst_le N S (by omega) e
      split
      · rename_i z
        have := z.2.2
        rw [h1] at this
        have e3 : B + 1 - 1 = B := rfl
        rw [e3] at this
        exact ⟨N, rfl, by omega⟩
      · exact ⟨B, h1, h2⟩
/-- both come to the same set -/
theorem wgh_bst (s : ab_q) (m n c : Nat) : (wgh s m n c = 0 ∧ bst s m n (2 ^ n) c = 0) ∨ ∃ B, B < 2 ^ n ∧ B &&& m = B ∧ qWs s B n = c ∧ bst s m n (2 ^ n) c = B + 1 ∧ wgh s m n c = kAt s B n + 1 := by
  rcases hb : bst s m n (2 ^ n) c with _ | B
  · refine Or.inl ⟨?_, rfl⟩
    rcases hw : wgh s m n c with _ | k
    · rfl
    · obtain ⟨S, a, b, e, d⟩ := wgh_in n c k hw
      obtain ⟨B, h1, h2⟩ := bst_le (s := s) (m := m) (n := n) (2 ^ n) S a b
      rw [e, hb] at h1
      cases h1
  · obtain ⟨a, b, e⟩ := bst_in (2 ^ n) c B hb
    refine Or.inr ⟨B, a, b, e, rfl, ?_⟩
    have h1 := wgh_le (s := s) (m := m) n B a b
    rw [e] at h1
    obtain ⟨k, hk⟩ : ∃ k, wgh s m n c = k + 1 := ⟨wgh s m n c - 1, by omega⟩
    obtain ⟨S, a2, b2, e2, d2⟩ := wgh_in n c k hk
    obtain ⟨B2, h3, h4⟩ := bst_le (s := s) (m := m) (n := n) (2 ^ n) S a2 b2
    rw [e2, hb] at h3
    obtain rfl : B = B2 := by omega
    omega
theorem qMany_9 (S : Nat) : ∀ i, qMany S i ≤ i := qMany_in S
theorem qHs_le {s : ab_q} (I : qI s) (S : Nat) : ∀ i, i ≤ qN s → qHs s S i ≤ 18 * i
  | 0, _ => Nat.le_refl _
  | i + 1, h => by
    have ih := qHs_le I S i (by omega)
    have := qHarm_in I (x := i) (by omega)
    show qHs s S i + (if _ then _ else _) ≤ _
    split <;> omega
theorem kAt_bits {s : ab_q} (I : qI s) {S : Nat} (h : S < 2 ^ qN s) : kAt s S (qN s) % 1024 = S ∧ kAt s S (qN s) < 16777216 := by
  have h9 := I.2.2.1.1
  have a := qMany_9 S (qN s)
  have b := qHs_le I S (qN s) (Nat.le_refl _)
  have c : 2 ^ qN s ≤ 2 ^ 9 := Nat.pow_le_pow_right (by decide) h9
  unfold kAt
  omega
/-- CHANGE by the best for c out of m: 0 none, S + 1 the set S -/
def bestC (s : ab_q) (m c : Nat) : Nat := bst s m (qN s) (2 ^ qN s) c
