/-! squares: what a Square's cells hold; by program (wip/tools/sq.py) -/
theorem ab_gne {cs : List ab_C} {i j : Nat} {c v : ab_C} (h : cs[i]? = some c) (n : j ≠ i) : (cs.set j v)[i]? = some c := by
  rw [List.getElem?_set_ne n]
  exact h
theorem ab_geq {cs : List ab_C} {i : Nat} {c v : ab_C} (h : cs[i]? = some c) : (cs.set i v)[i]? = some v := List.getElem?_set_self (List.getElem?_eq_some_iff.mp h).1
theorem ab_rvOf {cs : List ab_C} {b ci : Nat} {fs l : List Value} (h : cs[b]? = some (.inr (.inr (.inr (ci, fs))))) (hg : (ab_G ci).isSome = true) : ab_rv ab_G ci (.ref b :: l) cs = true := by
  unfold ab_rv
  dsimp only
  rw [h]
  simp [hg]
theorem ab_gD {α : Type} {l : List α} {j : Nat} {z : α} (h : j < l.length) : l[j]? = some (l.getD j z) := by
  rw [List.getD_eq_getElem?_getD, List.getElem?_eq_getElem h]
  rfl
section GS
variable {Z : ab_Z} {d : Nat} {md : ab_D} {pc : Nat} {L : ab_L} {r0 : List Value} {cs cs2 : List ab_C} {r : Option Value × List ab_C} {k : ab_K} {ps : List Nat}
theorem E_ialN {a j v : Nat} {l : List Nat} (h : ab_at md pc = some (.iaload, 1, k, ps)) (hc : cs[a]? = some (.inl (l.map nI))) (hj : j < l.length) (hl : l.length < 2 ^ 31) (hv : l.getD j 0 = v) (K : Ef Z d md (pc + 1, L, .int (nI v) :: r0, cs) r) : Ef Z d md (pc, L, .int (nI j) :: .ref a :: r0, cs) r :=
  E_iaload (j := j) h hc (nI_pos (by omega)) (nI_clamp (by omega)) (by rw [List.getElem?_map, ab_gD (z := 0) hj, hv]; rfl) K
theorem E_ialI {a j : Nat} {v : Int32} {l : List Int32} (h : ab_at md pc = some (.iaload, 1, k, ps)) (hc : cs[a]? = some (.inl l)) (hj : j < l.length) (hl : l.length < 2 ^ 31) (hv : l.getD j 0 = v) (K : Ef Z d md (pc + 1, L, .int v :: r0, cs) r) : Ef Z d md (pc, L, .int (nI j) :: .ref a :: r0, cs) r :=
  E_iaload (j := j) h hc (nI_pos (by omega)) (nI_clamp (by omega)) (by rw [ab_gD (z := 0) hj, hv]) K
theorem E_lalL {a j : Nat} {v : Int64} {l : List Int64} (h : ab_at md pc = some (.laload, 1, k, ps)) (hc : cs[a]? = some (.inr (.inl l))) (hj : j < l.length) (hl : l.length < 2 ^ 31) (hv : l.getD j 0 = v) (K : Ef Z d md (pc + 1, L, .long v :: r0, cs) r) : Ef Z d md (pc, L, .int (nI j) :: .ref a :: r0, cs) r :=
  E_laload (j := j) h hc (nI_pos (by omega)) (nI_clamp (by omega)) (by rw [ab_gD (z := 0) hj, hv]) K
theorem E_iasN {a j v : Nat} {l : List Nat} (h : ab_at md pc = some (.iastore, 1, k, ps)) (hc : cs[a]? = some (.inl (l.map nI))) (hj : j < l.length) (hl : l.length < 2 ^ 31) (h2 : cs.set a (.inl ((l.set j v).map nI)) = cs2) (K : Ef Z d md (pc + 1, L, r0, cs2) r) : Ef Z d md (pc, L, .int (nI v) :: .int (nI j) :: .ref a :: r0, cs) r :=
  E_iastore (j := j) h hc (nI_pos (by omega)) (nI_clamp (by omega)) (by rw [List.length_map]; exact hj) (by rw [← h2, List.map_set]) K
theorem E_iasI {a j : Nat} {v : Int32} {l : List Int32} (h : ab_at md pc = some (.iastore, 1, k, ps)) (hc : cs[a]? = some (.inl l)) (hj : j < l.length) (hl : l.length < 2 ^ 31) (h2 : cs.set a (.inl (l.set j v)) = cs2) (K : Ef Z d md (pc + 1, L, r0, cs2) r) : Ef Z d md (pc, L, .int v :: .int (nI j) :: .ref a :: r0, cs) r :=
  E_iastore (j := j) h hc (nI_pos (by omega)) (nI_clamp (by omega)) hj h2 K
theorem E_lasL {a j : Nat} {v : Int64} {l : List Int64} (h : ab_at md pc = some (.lastore, 1, k, ps)) (hc : cs[a]? = some (.inr (.inl l))) (hj : j < l.length) (hl : l.length < 2 ^ 31) (h2 : cs.set a (.inr (.inl (l.set j v))) = cs2) (K : Ef Z d md (pc + 1, L, r0, cs2) r) : Ef Z d md (pc, L, .long v :: .int (nI j) :: .ref a :: r0, cs) r :=
  E_lastore (j := j) h hc (nI_pos (by omega)) (nI_clamp (by omega)) hj h2 K
end GS
theorem cn_eqN {a b : Nat} (ha : a < 2 ^ 31) (hb : b < 2 ^ 31) : ab_cn .eq (nI a) (nI b) = decide (a = b) := (cn_eq (nI_toInt ha) (nI_toInt hb)).trans (decide_eq_decide.mpr (by omega))
theorem cn_neN {a b : Nat} (ha : a < 2 ^ 31) (hb : b < 2 ^ 31) : ab_cn .ne (nI a) (nI b) = decide (¬ a = b) := (cn_ne (nI_toInt ha) (nI_toInt hb)).trans (decide_eq_decide.mpr (by omega))
theorem cn_ltN {a b : Nat} (ha : a < 2 ^ 31) (hb : b < 2 ^ 31) : ab_cn .lt (nI a) (nI b) = decide (a < b) := (cn_lt (nI_toInt ha) (nI_toInt hb)).trans (decide_eq_decide.mpr (by omega))
theorem cn_geN {a b : Nat} (ha : a < 2 ^ 31) (hb : b < 2 ^ 31) : ab_cn .ge (nI a) (nI b) = decide (b ≤ a) := (cn_ge (nI_toInt ha) (nI_toInt hb)).trans (decide_eq_decide.mpr (by omega))
theorem cn_gtN {a b : Nat} (ha : a < 2 ^ 31) (hb : b < 2 ^ 31) : ab_cn .gt (nI a) (nI b) = decide (b < a) := (cn_gt (nI_toInt ha) (nI_toInt hb)).trans (decide_eq_decide.mpr (by omega))
theorem cn_leN {a b : Nat} (ha : a < 2 ^ 31) (hb : b < 2 ^ 31) : ab_cn .le (nI a) (nI b) = decide (a ≤ b) := (cn_le (nI_toInt ha) (nI_toInt hb)).trans (decide_eq_decide.mpr (by omega))
/-- a square: kind, a, base, place, purse, luck, want, granted, cost; pieces, people, rule, money, days, seed -/
abbrev ab_q : Type := List Nat × List Nat × List Nat × List Nat × List Nat × List Nat × List Nat × List Int32 × List Nat × Nat × Nat × Int32 × Int32 × Int32 × Int32
def qK (s : ab_q) : List Nat := s.1
def qA (s : ab_q) : List Nat := s.2.1
def qB (s : ab_q) : List Nat := s.2.2.1
def qP (s : ab_q) : List Nat := s.2.2.2.1
def qU (s : ab_q) : List Nat := s.2.2.2.2.1
def qL (s : ab_q) : List Nat := s.2.2.2.2.2.1
def qW (s : ab_q) : List Nat := s.2.2.2.2.2.2.1
def qG (s : ab_q) : List Int32 := s.2.2.2.2.2.2.2.1
def qC (s : ab_q) : List Nat := s.2.2.2.2.2.2.2.2.1
def qN (s : ab_q) : Nat := s.2.2.2.2.2.2.2.2.2.1
def qM (s : ab_q) : Nat := s.2.2.2.2.2.2.2.2.2.2.1
def qR (s : ab_q) : Int32 := s.2.2.2.2.2.2.2.2.2.2.2.1
def qY (s : ab_q) : Int32 := s.2.2.2.2.2.2.2.2.2.2.2.2.1
def qD (s : ab_q) : Int32 := s.2.2.2.2.2.2.2.2.2.2.2.2.2.1
def qS (s : ab_q) : Int32 := s.2.2.2.2.2.2.2.2.2.2.2.2.2.2
/-- the Square at b, and its arrays behind it, hold s -/
def qAt (cs : List ab_C) (b : Nat) (s : ab_q) : Prop := cs[b]? = some (.inr (.inr (.inr (4, [.ref (b + 1), .ref (b + 2), .ref (b + 3), .ref (b + 4), .ref (b + 5), .ref (b + 6), .ref (b + 7), .ref (b + 8), .ref (b + 9), .int (nI (qN s)), .int (nI (qM s)), .int (qR s), .int (qY s), .int (qD s), .int (qS s)])))) ∧ cs[b + 1]? = some (.inl ((qK s).map nI)) ∧ cs[b + 2]? = some (.inl ((qA s).map nI)) ∧ cs[b + 3]? = some (.inl ((qB s).map nI)) ∧ cs[b + 4]? = some (.inl ((qP s).map nI)) ∧ cs[b + 5]? = some (.inl ((qU s).map nI)) ∧ cs[b + 6]? = some (.inl ((qL s).map nI)) ∧ cs[b + 7]? = some (.inl ((qW s).map nI)) ∧ cs[b + 8]? = some (.inl (qG s)) ∧ cs[b + 9]? = some (.inl ((qC s).map nI))
/-- what holds of every square that the class comes to -/
def qI (s : ab_q) : Prop := ((qK s).length = 9 ∧ (qA s).length = 9 ∧ (qB s).length = 9 ∧ (qP s).length = 9) ∧ ((qU s).length = 6 ∧ (qL s).length = 6 ∧ (qW s).length = 6 ∧ (qG s).length = 6 ∧ (qC s).length = 8) ∧ (qN s ≤ 9 ∧ qM s ≤ 6) ∧
  (∀ x, x < qN s → (qK s).getD x 0 ≤ 6 ∧ (qA s).getD x 0 ≤ 9 ∧ 1 ≤ (qB s).getD x 0 ∧ (qB s).getD x 0 ≤ 50 ∧ ((qP s).getD x 0 = 99 ∨ (qP s).getD x 0 < qM s)) ∧
  (∀ p, p < qM s → (qU s).getD p 0 ≤ 99 ∧ (qL s).getD p 0 ≤ 9 ∧ (qW s).getD p 0 ≤ 7) ∧ (∀ w, w < 8 → 1 ≤ (qC s).getD w 0 ∧ (qC s).getD w 0 ≤ 60) ∧ (qR s = 0 ∨ qR s = 1)
