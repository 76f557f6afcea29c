/-! what a writing method leaves as it was; by program (wip/tools/wr.py) -/
/-- cs2 is cs but for what the cells from lo to hi hold -/
def ab_Up (lo hi : Nat) (cs cs2 : List ab_C) : Prop := cs2.length = cs.length ∧ ab_sz cs2 = ab_sz cs ∧ ∀ i, (i < lo ∨ hi ≤ i) → cs2[i]? = cs[i]?
theorem ab_Up.rfl {lo hi : Nat} {cs : List ab_C} : ab_Up lo hi cs cs := ⟨Eq.refl _, Eq.refl _, fun _ _ => Eq.refl _⟩
theorem ab_Up.trans {lo hi : Nat} {a b c : List ab_C} (h : ab_Up lo hi a b) (k : ab_Up lo hi b c) : ab_Up lo hi a c := ⟨k.1.trans h.1, k.2.1.trans h.2.1, fun i q => (k.2.2 i q).trans (h.2.2 i q)⟩
theorem ab_Up.wide {lo hi l2 h2 : Nat} {a b : List ab_C} (h : ab_Up lo hi a b) (q1 : l2 ≤ lo) (q2 : hi ≤ h2) : ab_Up l2 h2 a b := ⟨h.1, h.2.1, fun i q => h.2.2 i (by omega)⟩
theorem ab_Up.put {lo hi p : Nat} {cs cs2 : List ab_C} {c d : ab_C} (h : ab_Up lo hi cs cs2) (hp : lo ≤ p ∧ p < hi) (hc : cs2[p]? = some d) (hs : ab_sc d = ab_sc c) : ab_Up lo hi cs (cs2.set p c) :=
  h.trans ⟨List.length_set, ab_sz_set hc hs.symm, fun i q => List.getElem?_set_ne (by omega)⟩
theorem qAt.up {cs cs2 : List ab_C} {b lo hi : Nat} {s : ab_q} (h : qAt cs b s) (u : ab_Up lo hi cs cs2) (q : b + 10 ≤ lo ∨ hi ≤ b) : qAt cs2 b s := by
  obtain ⟨h0, h1, h2, h3, h4, h5, h6, h7, h8, h9⟩ := h
  have e := u.2.2
  exact ⟨(e _ (by omega)).trans h0, (e _ (by omega)).trans h1, (e _ (by omega)).trans h2, (e _ (by omega)).trans h3, (e _ (by omega)).trans h4, (e _ (by omega)).trans h5, (e _ (by omega)).trans h6, (e _ (by omega)).trans h7, (e _ (by omega)).trans h8, (e _ (by omega)).trans h9⟩
theorem mAt.up {cs cs2 : List ab_C} {lo hi : Nat} {s : ab_q} {g : Nat → Int32} (h : mAt cs s g) (u : ab_Up lo hi cs cs2) (q : 76 ≤ lo ∨ hi ≤ 65) : mAt cs2 s g := by
  obtain ⟨h0, h1, h2, h3, h4, h5, h6, h7, h8, h9⟩ := h
  have e := u.2.2
  exact ⟨(e _ (by omega)).trans h0, (e _ (by omega)).trans h1, (e _ (by omega)).trans h2, (e _ (by omega)).trans h3, (e _ (by omega)).trans h4, (e _ (by omega)).trans h5, (e _ (by omega)).trans h6, (e _ (by omega)).trans h7, (e _ (by omega)).trans h8, (e _ (by omega)).trans h9⟩
/-- a piece more -/
def qAddP (s : ab_q) (k a c : Nat) : ab_q := ((qK s).set (qN s) k, (qA s).set (qN s) a, (qB s).set (qN s) c, (qP s).set (qN s) 99, qU s, qL s, qW s, qG s, qC s, qN s + 1, qM s, qR s, qY s, qD s, qS s)
/-- a person more -/
def qAddM (s : ab_q) (u l w : Nat) : ab_q := (qK s, qA s, qB s, qP s, (qU s).set (qM s) u, (qL s).set (qM s) l, (qW s).set (qM s) w, (qG s).set (qM s) 0, qC s, qN s, qM s + 1, qR s, qY s, qD s, qS s)
