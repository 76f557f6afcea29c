/-! what each method answers on the fresh world, the class beside the reference; by program (wip/tools/p1.py) -/
theorem ab_nneg {i : Int32} (h : 0 ≤ i.toInt) : ¬ i < 0 := fun q => by
  have := Int32.lt_iff_toInt_lt.mp q
  have e : (0 : Int32).toInt = 0 := by decide
  omega
theorem ab_pick {l : List Int32} {x i : Int32} {lo hi : Nat} (h : ((List.range (hi + 1)).all (fun j => decide (j < lo) || decide (l[j]? = some x))) = true) (h1 : (lo : Int) ≤ i.toInt) (h2 : i.toInt ≤ hi) : l[i.toNatClampNeg]? = some x := by
  have e : (i.toNatClampNeg : Int) = i.toInt := by
    show ((i.toInt.toNat : Nat) : Int) = i.toInt
    omega
  have h3 := List.all_eq_true.mp h i.toNatClampNeg (List.mem_range.mpr (by omega))
  rw [Bool.or_eq_true, decide_eq_true_eq, decide_eq_true_eq] at h3
  rcases h3 with h3 | h3
  · omega
  · exact h3
theorem ab_ltge (a b : Int) : a < b ∨ b ≤ a := by omega
theorem ab_szs {cs : List ab_C} {q : Nat} {c : ab_C} (h : (cs[q]?).map ab_sc = some (ab_sc c)) : ab_sz (cs.set q c) = ab_sz cs := by
  cases hq : cs[q]? with
  | none => rw [hq] at h; cases h
  | some z =>
    rw [hq] at h
    exact ab_sz_set hq (Option.some.inj h).symm
def p1_P (d1 y1 d2 y2 : Nat) (As Bs : List Value) : Prop := ∃ (r : Int32) (cs1 cs2 : List ab_C), Ev ab_Z0 d1 y1 As w0 (some (.int r), cs1) ∧ Ev ab_Z0 d2 y2 Bs cs1 (some (.int r), cs2) ∧ cs1.length = 95 ∧ cs2.length = 95 ∧ ab_sz cs2 = ab_sz w0
def p1_PJ (d1 y1 d2 y2 : Nat) (As Bs : List Value) : Prop := ∃ (r : Int64) (cs1 cs2 : List ab_C), Ev ab_Z0 d1 y1 As w0 (some (.long r), cs1) ∧ Ev ab_Z0 d2 y2 Bs cs1 (some (.long r), cs2) ∧ cs1.length = 95 ∧ cs2.length = 95 ∧ ab_sz cs2 = ab_sz w0
