/-! answers that may be none, split -/
theorem Ev.g0 {Z : ab_Z} {d y : Nat} {As : List Value} {cs c2 : List ab_C} {X : Nat} (e : X = 0) (h : Ev Z d y As cs (some (.int (qE X)), c2)) : Ev Z d y As cs (some (.int (-1)), c2) := by
  rw [e] at h
  exact h
theorem Ev.g1 {Z : ab_Z} {d y j : Nat} {As : List Value} {cs c2 : List ab_C} {X : Nat} (e : X = j + 1) (h : Ev Z d y As cs (some (.int (qE X)), c2)) : Ev Z d y As cs (some (.int (nI j)), c2) := by
  rw [e] at h
  exact h
theorem qGd_512 {s : ab_q} (I : qI s) : ∀ t l u m, m < 512 → qGd s t l u m ≤ 512
  | 0, l, u, m, h => by
    by_cases hl : l = 0
    · rw [hl, qGd_z]; omega
    · rw [qGd_n hl]; omega
  | t + 1, l, u, m, h => by
    by_cases hl : l = 0
    · rw [hl, qGd_z]; omega
    · rcases hp : qPk s l u (qN s) with _ | k
      · rw [qGd_0 hl hp]; omega
      · rw [qGd_k hl hp]
        exact qGd_512 I t _ _ _ (ab_or512 h (Nat.lt_of_lt_of_le (qPk_ok _ hp).1 I.2.2.1.1))
theorem qGr_512 {s : ab_q} (I : qI s) (c : Nat) : qGreedy s c ≤ 512 := qGd_512 I _ _ _ _ (by decide)
