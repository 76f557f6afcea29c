/-! what each method answers on the fresh world, the class beside the reference; by program (wip/tools/p1.py) -/
theorem ab_nneg {i : Int32} (h : 0 ≤ i.toInt) : ¬ i < 0 := fun q => by
  have := Int32.lt_iff_toInt_lt.mp q
  have e : (0 : Int32).toInt = 0 := by decide
  omega
theorem ab_pick {l : List Int32} {x i : Int32} {lo hi : Nat} (h : ((List.range (hi + 1)).all (fun j => decide (j < lo) || decide (l[j]? = some x))) = true) (h1 : (lo : Int) ≤ i.toInt) (h2 : i.toInt ≤ hi) : l[i.toNatClampNeg]? = some x := by
  have e : (i.toNatClampNeg : Int) = i.toInt := by
    show ((i.toInt.toNat : Nat) : Int) = i.toInt
    omega
  have h3 := List.all_eq_true.mp h i.toNatClampNeg (List.mem_range.mpr (by omega))
  rw [Bool.or_eq_true, decide_eq_true_eq, decide_eq_true_eq] at h3
  rcases h3 with h3 | h3
  · omega
  · exact h3
theorem ab_ltge (a b : Int) : a < b ∨ b ≤ a := by omega
theorem ab_szs {cs : List ab_C} {q : Nat} {c : ab_C} (h : (cs[q]?).map ab_sc = some (ab_sc c)) : ab_sz (cs.set q c) = ab_sz cs := by
  cases hq : cs[q]? with
  | none => rw [hq] at h; cases h
  | some z =>
    rw [hq] at h
    exact ab_sz_set hq (Option.some.inj h).symm
theorem ab_set_same {cs : List ab_C} {q : Nat} {c : ab_C} (h : cs[q]? = some c) : cs.set q c = cs := by
  apply List.ext_getElem?
  intro i
  by_cases hi : i = q
  · subst hi
    rw [List.getElem?_set_self (List.getElem?_eq_some_iff.mp h).1, h]
  · rw [List.getElem?_set_ne (fun z => hi z.symm)]
theorem p1_mrow {d sv : Nat} {o3 n3 : Int32} {cs : List ab_C} {fs : List Value} {r : Option Value × List ab_C} (hs : sv < 8) (hc : cs[65]? = some (.inr (.inr (.inr (6, fs))))) (hf : fs[21]? = some (.ref 80)) (hz : cs[80]? = some (.inr (.inl (List.replicate 1280 0))))
    (K : Ef ab_Z0 d mX6_row (107, [some (.ref 65), some (.int (nI sv)), some (.int o3), some (.int n3), some (.int (nI 160))], [], cs) r) : ∀ n i, i + n = 160 → Ef ab_Z0 d mX6_row (79, [some (.ref 65), some (.int (nI sv)), some (.int o3), some (.int n3), some (.int (nI i))], [], cs) r := by
  intro n
  induction n with
  | zero =>
    intro i hi
    obtain rfl : i = 160 := by omega
    refine E_iload rfl rfl ?_
    refine E_sipush (x := nI 160) rfl (by decide) ?_
    exact E_ic (t := 107) (b := true) rfl rfl (by decide) K
  | succ n ih =>
    intro i hi
    have hi2 : i < 160 := by omega
    refine E_iload rfl rfl ?_
    refine E_sipush (x := nI 160) rfl (by decide) ?_
    refine E_ic (t := 107) (b := false) rfl rfl (decide_eq_false (nI_ge hi2 (by decide))) ?_
    refine E_aload_n rfl rfl ?_
    refine E_getfield rfl hc rfl (by decide) hf ?_
    refine E_sipush (x := nI 160) rfl (by decide) ?_
    refine E_iload_n rfl rfl ?_
    refine E_imul (z := nI (160 * sv)) rfl (pk_mul 160 sv) ?_
    refine E_iload rfl rfl ?_
    refine E_iadd (z := nI (160 * sv + i)) rfl (nI_add (160 * sv) i) ?_
    refine E_lconst (x := 0) rfl (by decide) ?_
    refine E_lastore (j := 160 * sv + i) (cs2 := cs) rfl hz (nI_pos (by omega)) (nI_clamp (by omega)) (by rw [List.length_replicate]; omega) ?_ ?_
    · rw [show (List.replicate 1280 (0 : Int64)).set (160 * sv + i) 0 = List.replicate 1280 0 by
        apply List.ext_getElem?
        intro j
        rw [List.getElem?_set]
        split
        · rename_i e
          subst e
          rw [List.length_replicate, if_pos (by omega), List.getElem?_replicate, if_pos (by omega)]
        · rfl]
      exact ab_set_same hz
    refine E_iinc (y := nI (i + 1)) (L2 := [some (.ref 65), some (.int (nI sv)), some (.int o3), some (.int n3), some (.int (nI (i + 1)))]) rfl rfl (nI_1 i) rfl ?_
    refine E_goto (t := 79) rfl rfl ?_
    exact ih (i + 1) (by omega)
def p1_P (d1 y1 d2 y2 : Nat) (As Bs : List Value) : Prop := ∃ (r : Int32) (cs1 cs2 : List ab_C), Ev ab_Z0 d1 y1 As w0 (some (.int r), cs1) ∧ Ev ab_Z0 d2 y2 Bs cs1 (some (.int r), cs2) ∧ cs1.length = 95 ∧ cs2.length = 95 ∧ ab_sz cs2 = ab_sz w0 ∧ ∀ l, ab_rv ab_G 6 (.ref 65 :: l) cs1 = true
def p1_PJ (d1 y1 d2 y2 : Nat) (As Bs : List Value) : Prop := ∃ (r : Int64) (cs1 cs2 : List ab_C), Ev ab_Z0 d1 y1 As w0 (some (.long r), cs1) ∧ Ev ab_Z0 d2 y2 Bs cs1 (some (.long r), cs2) ∧ cs1.length = 95 ∧ cs2.length = 95 ∧ ab_sz cs2 = ab_sz w0 ∧ ∀ l, ab_rv ab_G 6 (.ref 65 :: l) cs1 = true
