/-! what keeps a square a square -/
theorem ab_gs {α : Type} {l : List α} {i j : Nat} {v z : α} : (l.set i v).getD j z = if i = j ∧ i < l.length then v else l.getD j z := by
  rw [List.getD_eq_getElem?_getD, List.getElem?_set]
  by_cases h : i = j
  · subst h
    by_cases h2 : i < l.length
    · rw [if_pos rfl, if_pos h2, if_pos ⟨rfl, h2⟩]
      rfl
    · rw [if_pos rfl, if_neg h2, if_neg (fun q => h2 q.2), List.getD_eq_getElem?_getD, List.getElem?_eq_none (by omega)]
  · rw [if_neg h, if_neg (fun q => h q.1), List.getD_eq_getElem?_getD]
theorem ab_gs1 {α : Type} {l : List α} {i j : Nat} {v z : α} (h : ¬ i = j) : (l.set i v).getD j z = l.getD j z := by
  rw [ab_gs, if_neg (fun q => h q.1)]
theorem ab_gs2 {α : Type} {l : List α} {i : Nat} {v z : α} (h : i < l.length) : (l.set i v).getD i z = v := by
  rw [ab_gs, if_pos ⟨rfl, h⟩]
/-- a property of all places, kept by a set -/
theorem ab_gsP {P : Nat → Prop} {l : List Nat} {i j v : Nat} (hv : P v) (h : P (l.getD j 0)) : P ((l.set i v).getD j 0) := by
  rw [ab_gs]
  split
  · exact hv
  · exact h
section KEEP
variable {s : ab_q}
theorem qI_S {v : Int32} (I : qI s) : qI (qs_S s v) := I
theorem qI_D {v : Int32} (I : qI s) : qI (qs_D s v) := I
theorem qI_Y {v : Int32} (I : qI s) : qI (qs_Y s v) := I
theorem qI_R {v : Int32} (I : qI s) (h : v = 0 ∨ v = 1) : qI (qs_R s v) := ⟨I.1, I.2.1, I.2.2.1, I.2.2.2.1, I.2.2.2.2.1, I.2.2.2.2.2.1, h⟩
theorem qI_C {l : List Nat} (I : qI s) (hl : l.length = 8) (h1 : ∀ w, w < 8 → 1 ≤ l.getD w 0 ∧ l.getD w 0 ≤ 60) : qI (qs_C s l) := by
  obtain ⟨a, ⟨b1, b2, b3, b4, b5⟩, c, e, f, g, h⟩ := I
  exact ⟨a, ⟨b1, b2, b3, b4, hl⟩, c, e, f, h1, h⟩
theorem qI_U {l : List Nat} (I : qI s) (hl : l.length = 6) (h1 : ∀ p, p < qM s → l.getD p 0 ≤ 99) : qI (qs_U s l) := by
  obtain ⟨a, ⟨b1, b2, b3, b4, b5⟩, c, e, f, g, h⟩ := I
  exact ⟨a, ⟨hl, b2, b3, b4, b5⟩, c, e, fun x hx => ⟨h1 x hx, (f x hx).2⟩, g, h⟩
theorem qI_L {l : List Nat} (I : qI s) (hl : l.length = 6) (h1 : ∀ p, p < qM s → l.getD p 0 ≤ 9) : qI (qs_L s l) := by
  obtain ⟨a, ⟨b1, b2, b3, b4, b5⟩, c, e, f, g, h⟩ := I
  exact ⟨a, ⟨b1, hl, b3, b4, b5⟩, c, e, fun x hx => ⟨(f x hx).1, h1 x hx, (f x hx).2.2⟩, g, h⟩
theorem qI_W {l : List Nat} (I : qI s) (hl : l.length = 6) (h1 : ∀ p, p < qM s → l.getD p 0 ≤ 7) : qI (qs_W s l) := by
  obtain ⟨a, ⟨b1, b2, b3, b4, b5⟩, c, e, f, g, h⟩ := I
  exact ⟨a, ⟨b1, b2, hl, b4, b5⟩, c, e, fun x hx => ⟨(f x hx).1, (f x hx).2.1, h1 x hx⟩, g, h⟩
theorem qI_G {l : List Int32} (I : qI s) (hl : l.length = 6) : qI (qs_G s l) := by
  obtain ⟨a, ⟨b1, b2, b3, b4, b5⟩, c⟩ := I
  exact ⟨a, ⟨b1, b2, b3, hl, b5⟩, c⟩
theorem qI_P {l : List Nat} (I : qI s) (hl : l.length = 9) (h1 : ∀ x, x < qN s → l.getD x 0 = 99 ∨ l.getD x 0 < qM s) : qI (qs_P s l) := by
  obtain ⟨⟨a1, a2, a3, a4⟩, b, c, e, f⟩ := I
  exact ⟨⟨a1, a2, a3, hl⟩, b, c, fun y hy => ⟨(e y hy).1, (e y hy).2.1, (e y hy).2.2.1, (e y hy).2.2.2.1, h1 y hy⟩, f⟩
theorem kC {w v : Nat} (I : qI s) (h1 : 1 ≤ v) (h2 : v ≤ 60) : qI (qs_C s ((qC s).set w v)) := qI_C I (List.length_set.trans I.2.1.2.2.2.2) (fun x hx => ab_gsP (P := fun z => 1 ≤ z ∧ z ≤ 60) ⟨h1, h2⟩ (I.2.2.2.2.2.1 x hx))
theorem kU {p v : Nat} (I : qI s) (h : v ≤ 99) : qI (qs_U s ((qU s).set p v)) := qI_U I (List.length_set.trans I.2.1.1) (fun x hx => ab_gsP (P := fun z => z ≤ 99) h (I.2.2.2.2.1 x hx).1)
theorem kL {p v : Nat} (I : qI s) (h : v ≤ 9) : qI (qs_L s ((qL s).set p v)) := qI_L I (List.length_set.trans I.2.1.2.1) (fun x hx => ab_gsP (P := fun z => z ≤ 9) h (I.2.2.2.2.1 x hx).2.1)
theorem kW {p v : Nat} (I : qI s) (h : v ≤ 7) : qI (qs_W s ((qW s).set p v)) := qI_W I (List.length_set.trans I.2.1.2.2.1) (fun x hx => ab_gsP (P := fun z => z ≤ 7) h (I.2.2.2.2.1 x hx).2.2)
theorem kP {x v : Nat} (I : qI s) (h : v = 99 ∨ v < qM s) : qI (qs_P s ((qP s).set x v)) := qI_P I (List.length_set.trans I.1.2.2.2) (fun y hy => ab_gsP (P := fun z => z = 99 ∨ z < qM s) h (I.2.2.2.1 y hy).2.2.2.2)
/-- all places anew -/
theorem qI_Pl {l : List Nat} (I : qI s) (hl : l.length = 9) (h1 : ∀ x, x < qN s → l.getD x 0 = 99 ∨ l.getD x 0 < qM s) : qI (qPl s l) := by
  obtain ⟨⟨a1, a2, a3, a4⟩, b, c, e, f⟩ := I
  exact ⟨⟨a1, a2, a3, hl⟩, b, c, fun y hy => ⟨(e y hy).1, (e y hy).2.1, (e y hy).2.2.1, (e y hy).2.2.2.1, h1 y hy⟩, f⟩
theorem qI_addP {k a c : Nat} (I : qI s) (hn : qN s < 9) (hk : k ≤ 6) (ha : a ≤ 9) (h1 : 1 ≤ c) (h2 : c ≤ 50) : qI (qAddP s k a c) := by
  obtain ⟨⟨a1, a2, a3, a4⟩, b, ⟨c1, c2⟩, e, f, g⟩ := I
  refine ⟨⟨List.length_set.trans a1, List.length_set.trans a2, List.length_set.trans a3, List.length_set.trans a4⟩, b, ⟨?_, c2⟩, fun x hx => ?_, f, g⟩
  · show qN s + 1 ≤ 9
    omega
  · have hx : x < qN s + 1 := hx
    show ((qK s).set (qN s) k).getD x 0 ≤ 6 ∧ ((qA s).set (qN s) a).getD x 0 ≤ 9 ∧ 1 ≤ ((qB s).set (qN s) c).getD x 0 ∧ ((qB s).set (qN s) c).getD x 0 ≤ 50 ∧ (((qP s).set (qN s) 99).getD x 0 = 99 ∨ ((qP s).set (qN s) 99).getD x 0 < qM s)
    by_cases h : qN s = x
    · subst h
      rw [ab_gs2 (by omega), ab_gs2 (by omega), ab_gs2 (by omega), ab_gs2 (by omega)]
      exact ⟨hk, ha, h1, h2, Or.inl rfl⟩
    · rw [ab_gs1 h, ab_gs1 h, ab_gs1 h, ab_gs1 h]
      exact e x (by omega)
theorem qI_addM {u l w : Nat} (I : qI s) (hn : qM s < 6) (hu : u ≤ 99) (hl : l ≤ 9) (hw : w ≤ 7) : qI (qAddM s u l w) := by
  obtain ⟨a, ⟨b1, b2, b3, b4, b5⟩, ⟨c1, c2⟩, e, f, g⟩ := I
  refine ⟨a, ⟨List.length_set.trans b1, List.length_set.trans b2, List.length_set.trans b3, List.length_set.trans b4, b5⟩, ⟨c1, ?_⟩, fun x hx => ?_, fun x hx => ?_, g⟩
  · show qM s + 1 ≤ 6
    omega
  · have := e x hx
    refine ⟨this.1, this.2.1, this.2.2.1, this.2.2.2.1, ?_⟩
    show (qP s).getD x 0 = 99 ∨ (qP s).getD x 0 < qM s + 1
    omega
  · have hx : x < qM s + 1 := hx
    show ((qU s).set (qM s) u).getD x 0 ≤ 99 ∧ ((qL s).set (qM s) l).getD x 0 ≤ 9 ∧ ((qW s).set (qM s) w).getD x 0 ≤ 7
    by_cases h : qM s = x
    · subst h
      rw [ab_gs2 (by omega), ab_gs2 (by omega), ab_gs2 (by omega)]
      exact ⟨hu, hl, hw⟩
    · rw [ab_gs1 h, ab_gs1 h, ab_gs1 h]
      exact f x (by omega)
/-- shelves, over another square with as many pieces at least -/
theorem iS.n {s2 : ab_q} {hd sz : Nat → Int32} {el : Nat → List Int64} {hm so si : List Nat} {sh : List Int32} {ce : List Int64} (h : iS s hd sz el hm so si sh ce) (q : qN s ≤ qN s2) : iS s2 hd sz el hm so si sh ce := fun j hj => by
  rcases h j hj with h | ⟨x, h1, h2⟩ | h
  · exact Or.inl h
  · exact Or.inr (Or.inl ⟨x, by omega, h2⟩)
  · exact Or.inr (Or.inr h)
end KEEP
