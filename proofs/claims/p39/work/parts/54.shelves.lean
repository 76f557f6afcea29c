/-! what keeps the shelves -/
theorem ab_gsI {α : Type} {l : List α} {i j : Nat} {v z : α} (h : i < l.length) : (l.set i v).getD j z = if j = i then v else l.getD j z := by
  rw [ab_gs]
  by_cases e : i = j
  · rw [if_pos ⟨e, h⟩, if_pos e.symm]
  · rw [if_neg (fun q => e q.1), if_neg (fun q => e q.symm)]
theorem ab_repD {n q : Nat} : (List.replicate n (0 : Int64)).getD q 0 = 0 := by
  rw [List.getD_eq_getElem?_getD, List.getElem?_replicate]
  split <;> rfl
section SHK
variable {s : ab_q} {hd sz : Nat → Int32} {el : Nat → List Int64} {hm so si : List Nat} {sh : List Int32} {ce : List Int64}
theorem iS_row (h : iS s hd sz el hm so si sh ce) {j o n : Nat} (hj : j < 8) (ho : o ≤ 3) (hn : n ≤ 160) (l1 : hm.length = 8) (l2 : so.length = 8) (l3 : si.length = 8) :
    iS s (fUp hd j (nI (100 + o))) (fUp sz j (nI n)) (fUp el j (List.replicate 160 0)) (hm.set j 1) (so.set j o) (si.set j n) sh (zf ce (160 * j) 160) := by
  intro i hi
  by_cases e : i = j
  · subst e
    rw [fUp_eq, fUp_eq, fUp_eq, ab_gs2 (by omega), ab_gs2 (by omega), ab_gs2 (by omega)]
    exact Or.inr (Or.inr ⟨rfl, rfl, rfl, ho, hn, fun q hq => by rw [ab_repD, zf_get, if_pos (by omega)]⟩)
  · rw [fUp_ne e, fUp_ne e, fUp_ne e, ab_gs1 (fun z => e z.symm), ab_gs1 (fun z => e z.symm), ab_gs1 (fun z => e z.symm)]
    rcases h i hi with h | h | ⟨h1, h2, h3, h4, h5, h6⟩
    · exact Or.inl h
    · exact Or.inr (Or.inl h)
    · exact Or.inr (Or.inr ⟨h1, h2, h3, h4, h5, fun q hq => by rw [h6 q hq, zf_get, if_neg (by omega)]⟩)
theorem iS_none (h : iS s hd sz el hm so si sh ce) {j : Nat} {w : Int32} (hj : j < 8) (l1 : hm.length = 8) (l2 : sh.length = 8) :
    iS s (fUp hd j (-1)) (fUp sz j (nI 0)) el (hm.set j 0) so si (sh.set j w) ce := by
  intro i hi
  by_cases e : i = j
  · subst e
    rw [fUp_eq, fUp_eq, ab_gs2 (by omega), ab_gs2 (by omega)]
    exact Or.inl ⟨rfl, rfl, rfl⟩
  · rw [fUp_ne e, fUp_ne e, ab_gs1 (fun z => e z.symm), ab_gs1 (fun z => e z.symm)]
    exact h i hi
theorem iS_piece (h : iS s hd sz el hm so si sh ce) {j x : Nat} (hj : j < 8) (hx : x < qN s) (l1 : hm.length = 8) (l2 : sh.length = 8) :
    iS s (fUp hd j (nI x)) (fUp sz j (nI 0)) el (hm.set j 2) so si (sh.set j (nI x)) ce := by
  intro i hi
  by_cases e : i = j
  · subst e
    rw [fUp_eq, fUp_eq, ab_gs2 (by omega), ab_gs2 (by omega)]
    exact Or.inr (Or.inl ⟨x, hx, rfl, rfl, rfl, rfl⟩)
  · rw [fUp_ne e, fUp_ne e, ab_gs1 (fun z => e z.symm), ab_gs1 (fun z => e z.symm)]
    exact h i hi
theorem iS_set (h : iS s hd sz el hm so si sh ce) {j x : Nat} {v : Int64} (hj : j < 8) (hx : x < 160) (l1 : (el j).length = 160) (l2 : ce.length = 1280) :
    iS s hd sz (fUp el j ((el j).set x v)) hm so si sh (ce.set (160 * j + x) v) := by
  intro i hi
  by_cases e : i = j
  · subst e
    rw [fUp_eq]
    rcases h i hi with h | h | ⟨h1, h2, h3, h4, h5, h6⟩
    · exact Or.inl h
    · exact Or.inr (Or.inl h)
    · refine Or.inr (Or.inr ⟨h1, h2, h3, h4, h5, fun q hq => ?_⟩)
      rw [ab_gsI (by omega), ab_gsI (by omega)]
      by_cases e2 : q = x
      · rw [if_pos e2, if_pos (by omega)]
      · rw [if_neg e2, if_neg (by omega)]
        exact h6 q hq
  · rw [fUp_ne e]
    rcases h i hi with h | h | ⟨h1, h2, h3, h4, h5, h6⟩
    · exact Or.inl h
    · exact Or.inr (Or.inl h)
    · exact Or.inr (Or.inr ⟨h1, h2, h3, h4, h5, fun q hq => by rw [h6 q hq, ab_gs1 (by omega)]⟩)
theorem l_elU {l : List Int64} {j : Nat} (h : ∀ i, i < 8 → (el i).length = 160) (hl : l.length = 160) : ∀ i, i < 8 → (fUp el j l i).length = 160 := fun i hi => by
  by_cases e : i = j
  · subst e
    rw [fUp_eq]
    exact hl
  · rw [fUp_ne e]
    exact h i hi
end SHK
/-- of each kind the one that is under: what isOfKind answers -/
def qOf (k w : Nat) : Nat := if w = 0 ∨ w = k ∨ (w = 1 ∧ k = 3) ∨ (w = 2 ∧ k = 5) ∨ (w = 4 ∧ k = 6) then 1 else 0
theorem qOf_spec (k w : Nat) : (qOf k w = 1 ∧ (w = 0 ∨ w = k ∨ (w = 1 ∧ k = 3) ∨ (w = 2 ∧ k = 5) ∨ (w = 4 ∧ k = 6))) ∨ (qOf k w = 0 ∧ ¬ (w = 0 ∨ w = k ∨ (w = 1 ∧ k = 3) ∨ (w = 2 ∧ k = 5) ∨ (w = 4 ∧ k = 6))) := by
  unfold qOf
  split
  · rename_i h
    exact Or.inl ⟨rfl, h⟩
  · rename_i h
    exact Or.inr ⟨rfl, h⟩
theorem ab_ieq {x y : Int32} {a : Int} (h : x.toInt = a) (h2 : y.toInt = a) : x = y := Int32.toInt_inj.mp (h.trans h2.symm)
