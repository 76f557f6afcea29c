/-! squares carried as 75 ints, and back; by program (wip/tools/mk61.py) -/
theorem ab_ext {α : Type} {l m : List α} (z : α) (h : l.length = m.length) (k : ∀ q, q < l.length → l.getD q z = m.getD q z) : l = m := by
  apply List.ext_getElem?
  intro q
  by_cases hq : q < l.length
  · have := k q hq
    rw [List.getD_eq_getElem?_getD, List.getD_eq_getElem?_getD, List.getElem?_eq_getElem hq, List.getElem?_eq_getElem (by omega)] at this
    rw [List.getElem?_eq_getElem hq, List.getElem?_eq_getElem (by omega)]
    exact congrArg some this
  · rw [List.getElem?_eq_none (by omega), List.getElem?_eq_none (by omega)]
theorem ab_cp_0 {α : Type} {f g : List α} {i j : Nat} : ab_cp f g i j 0 = g := by
  unfold ab_cp
  rw [List.take_zero, List.nil_append, Nat.add_zero, List.take_append_drop]
theorem ab_cp_st {α : Type} {f g : List α} {i j k : Nat} {z : α} (h1 : i + k < f.length) (h2 : j + k < g.length) : (ab_cp f g i j k).set (j + k) (f.getD (i + k) z) = ab_cp f g i j (k + 1) := by
  have l1 := ab_cpl (f := f) (g := g) (sp := i) (dp := j) (n := k) (by omega) (by omega)
  have l2 := ab_cpl (f := f) (g := g) (sp := i) (dp := j) (n := k + 1) (by omega) (by omega)
  apply ab_ext z
  · rw [List.length_set, l1, l2]
  · intro q hq
    rw [ab_gsI (by rw [l1]; omega), ab_cp_get (by omega) (by omega), ab_cp_get (by omega) (by omega)]
    by_cases e : q = j + k
    · subst e
      rw [if_pos rfl, if_pos (by omega), Nat.add_sub_cancel_left]
    · rw [if_neg e]
      by_cases e2 : j ≤ q ∧ q < j + k
      · rw [if_pos e2, if_pos (by omega)]
      · rw [if_neg e2, if_neg (by omega)]
theorem mo_carO_l {A B n f : Nat} {F G : List Int32} (hF : F.length = n) (hG : G.length = 75) (hf : f + n ≤ 75) (hne : ¬ A = B) : ∀ m i cs, i + m = n → cs[A]? = some (.inl F) → cs[B]? = some (.inl (ab_cp F G 0 f i)) → Ef ab_Z0 0 mX6_carries (3, [some (.ref 65), some (.ref A), some (.int (nI n)), some (.ref B), some (.int (nI f)), some (.int (nI 0)), some (.int (nI i))], [], cs) (some (.int (nI (f + n))), cs.set B (.inl (ab_cp F G 0 f n))) := by
  intro m
  induction m with
  | zero =>
    intro i cs hi hA hB
    have hi : i = n := by omega
    rw [hi] at hB ⊢
    rw [ab_set_id hB]
    refine E_iload at_X6_carries_3 rfl ?_
    refine E_iload_n at_X6_carries_5 rfl ?_
    refine E_ic (t := 45) (b := true) at_X6_carries_6 rfl ((cn_ge (nI_toInt (by omega)) (nI_toInt (by omega))).trans (decide_eq_true (by omega))) ?_
    refine E_iload at_X6_carries_45 rfl ?_
    refine E_iload_n at_X6_carries_47 rfl ?_
    refine E_iadd (z := nI (f + n)) at_X6_carries_48 (nI_add _ _) ?_
    exact E_iret at_X6_carries_49 rfl
  | succ m ih =>
    intro i cs hi hA hB
    have hl := ab_cpl (f := F) (g := G) (sp := 0) (dp := f) (n := i) (by omega) (by omega)
    have X := ih (i + 1) (cs.set B (.inl (ab_cp F G 0 f (i + 1)))) (by omega) (ab_gne hA (fun q => hne q.symm)) (ab_geq hB)
    rw [List.set_set] at X
    rw [← ab_cp_st (z := 0) (by omega) (by omega)] at X
    rw [Nat.zero_add] at X
    refine E_iload at_X6_carries_3 rfl ?_
    refine E_iload_n at_X6_carries_5 rfl ?_
    refine E_ic (t := 45) (b := false) at_X6_carries_6 rfl ((cn_ge (nI_toInt (by omega)) (nI_toInt (by omega))).trans (decide_eq_false (by omega))) ?_
    refine E_iload at_X6_carries_9 rfl ?_
    refine E_if (t := 28) (b := true) at_X6_carries_11 rfl (by decide) ?_
    refine E_aload_n rfl rfl ?_
    refine E_iload rfl rfl ?_
    refine E_iload rfl rfl ?_
    refine E_iadd (z := nI (f + i)) rfl (nI_add _ _) ?_
    refine E_aload_n rfl rfl ?_
    refine E_iload rfl rfl ?_
    refine E_ialI (l := F) (v := F.getD i 0) rfl hA (by omega) (by omega) rfl ?_
    refine E_iasI (l := (ab_cp F G 0 f i)) (cs2 := (cs.set B (.inl ((ab_cp F G 0 f i).set (f + i) (F.getD i 0))))) rfl hB (by omega) (by omega) rfl ?_
    refine E_iinc (y := nI (i + 1)) (L2 := [some (.ref 65), some (.ref A), some (.int (nI n)), some (.ref B), some (.int (nI f)), some (.int (nI 0)), some (.int (nI (i + 1)))]) at_X6_carries_39 rfl (nI_1 _) rfl ?_
    refine E_goto (t := 3) at_X6_carries_42 rfl ?_
    exact X
theorem mo_carO {cs : List ab_C} {A B n f : Nat} {F G : List Int32} (hA : cs[A]? = some (.inl F)) (hB : cs[B]? = some (.inl G)) (hF : F.length = n) (hG : G.length = 75) (hf : f + n ≤ 75) (hne : ¬ A = B) : Ev ab_Z0 1 163 [.ref 65, .ref A, .int (nI n), .ref B, .int (nI f), .int (nI 0)] cs (some (.int (nI (f + n))), cs.set B (.inl (ab_cp F G 0 f n))) := by
  refine Ef.in (md := mX6_carries) (L := [some (.ref 65), some (.ref A), some (.int (nI n)), some (.ref B), some (.int (nI f)), some (.int (nI 0)), none]) rfl (Nat.le_of_ble_eq_true rfl) rfl ?_
  refine E_iconst (x := nI 0) at_X6_carries_0 (by decide) ?_
  refine E_istore (L2 := [some (.ref 65), some (.ref A), some (.int (nI n)), some (.ref B), some (.int (nI f)), some (.int (nI 0)), some (.int (nI 0))]) at_X6_carries_1 rfl ?_
  exact mo_carO_l hF hG hf hne n 0 cs (Nat.zero_add n) hA (by rw [ab_cp_0]; exact hB)
theorem mo_carB_l {A B n f : Nat} {F G : List Int32} (hF : F.length = n) (hG : G.length = 75) (hf : f + n ≤ 75) (hne : ¬ A = B) : ∀ m i cs, i + m = n → cs[A]? = some (.inl (ab_cp G F f 0 i)) → cs[B]? = some (.inl G) → Ef ab_Z0 0 mX6_carries (3, [some (.ref 65), some (.ref A), some (.int (nI n)), some (.ref B), some (.int (nI f)), some (.int (nI 1)), some (.int (nI i))], [], cs) (some (.int (nI (f + n))), cs.set A (.inl (ab_cp G F f 0 n))) := by
  intro m
  induction m with
  | zero =>
    intro i cs hi hA hB
    have hi : i = n := by omega
    rw [hi] at hA ⊢
    rw [ab_set_id hA]
    refine E_iload at_X6_carries_3 rfl ?_
    refine E_iload_n at_X6_carries_5 rfl ?_
    refine E_ic (t := 45) (b := true) at_X6_carries_6 rfl ((cn_ge (nI_toInt (by omega)) (nI_toInt (by omega))).trans (decide_eq_true (by omega))) ?_
    refine E_iload at_X6_carries_45 rfl ?_
    refine E_iload_n at_X6_carries_47 rfl ?_
    refine E_iadd (z := nI (f + n)) at_X6_carries_48 (nI_add _ _) ?_
    exact E_iret at_X6_carries_49 rfl
  | succ m ih =>
    intro i cs hi hA hB
    have hl := ab_cpl (f := G) (g := F) (sp := f) (dp := 0) (n := i) (by omega) (by omega)
    have X := ih (i + 1) (cs.set A (.inl (ab_cp G F f 0 (i + 1)))) (by omega) (ab_geq hA) (ab_gne hB (fun q => hne q))
    rw [List.set_set] at X
    rw [← ab_cp_st (z := 0) (by omega) (by omega)] at X
    rw [Nat.zero_add] at X
    refine E_iload at_X6_carries_3 rfl ?_
    refine E_iload_n at_X6_carries_5 rfl ?_
    refine E_ic (t := 45) (b := false) at_X6_carries_6 rfl ((cn_ge (nI_toInt (by omega)) (nI_toInt (by omega))).trans (decide_eq_false (by omega))) ?_
    refine E_iload at_X6_carries_9 rfl ?_
    refine E_if (t := 28) (b := false) at_X6_carries_11 rfl (by decide) ?_
    refine E_aload_n rfl rfl ?_
    refine E_iload rfl rfl ?_
    refine E_aload_n rfl rfl ?_
    refine E_iload rfl rfl ?_
    refine E_iload rfl rfl ?_
    refine E_iadd (z := nI (f + i)) rfl (nI_add _ _) ?_
    refine E_ialI (l := G) (v := G.getD (f + i) 0) rfl hB (by omega) (by omega) rfl ?_
    refine E_iasI (l := (ab_cp G F f 0 i)) (cs2 := (cs.set A (.inl ((ab_cp G F f 0 i).set i (G.getD (f + i) 0))))) rfl hA (by omega) (by omega) rfl ?_
    refine E_goto (t := 39) rfl rfl ?_
    refine E_iinc (y := nI (i + 1)) (L2 := [some (.ref 65), some (.ref A), some (.int (nI n)), some (.ref B), some (.int (nI f)), some (.int (nI 1)), some (.int (nI (i + 1)))]) at_X6_carries_39 rfl (nI_1 _) rfl ?_
    refine E_goto (t := 3) at_X6_carries_42 rfl ?_
    exact X
theorem mo_carB {cs : List ab_C} {A B n f : Nat} {F G : List Int32} (hA : cs[A]? = some (.inl F)) (hB : cs[B]? = some (.inl G)) (hF : F.length = n) (hG : G.length = 75) (hf : f + n ≤ 75) (hne : ¬ A = B) : Ev ab_Z0 1 163 [.ref 65, .ref A, .int (nI n), .ref B, .int (nI f), .int (nI 1)] cs (some (.int (nI (f + n))), cs.set A (.inl (ab_cp G F f 0 n))) := by
  refine Ef.in (md := mX6_carries) (L := [some (.ref 65), some (.ref A), some (.int (nI n)), some (.ref B), some (.int (nI f)), some (.int (nI 1)), none]) rfl (Nat.le_of_ble_eq_true rfl) rfl ?_
  refine E_iconst (x := nI 0) at_X6_carries_0 (by decide) ?_
  refine E_istore (L2 := [some (.ref 65), some (.ref A), some (.int (nI n)), some (.ref B), some (.int (nI f)), some (.int (nI 1)), some (.int (nI 0))]) at_X6_carries_1 rfl ?_
  exact mo_carB_l hF hG hf hne n 0 cs (Nat.zero_add n) (by rw [ab_cp_0]; exact hA) hB
theorem ab_cpP {α : Type} {P R f : List α} {p n : Nat} (h1 : P.length = p) (h2 : f.length = n) : ab_cp f (P ++ R) 0 p n = (P ++ f) ++ R.drop n := by
  have e1 : f.take n = f := List.take_of_length_le (by omega)
  unfold ab_cp
  rw [List.drop_zero, e1, List.take_left' h1, ← List.drop_drop, List.drop_left' h1, List.append_assoc]
theorem ab_cpQ {α : Type} {P Q f g : List α} {p n : Nat} (h1 : P.length = p) (h2 : Q.length = n) (h3 : f.length = n) : ab_cp (P ++ (Q ++ g)) f p 0 n = Q := by
  unfold ab_cp
  rw [List.take_zero, List.nil_append, List.drop_left' h1, List.take_left' h2, Nat.zero_add, List.drop_of_length_le (by omega), List.append_nil]
def qFl (s : ab_q) : List Int32 := (qK s).map nI ++ ((qA s).map nI ++ ((qB s).map nI ++ ((qP s).map nI ++ ((qU s).map nI ++ ((qL s).map nI ++ ((qW s).map nI ++ (qG s ++ ((qC s).map nI ++ [nI (qN s), nI (qM s), qR s, qY s, qD s, qS s]))))))))
theorem ab_seven {α : Type} : ∀ {l : List α}, l.length = 7 → ∃ a b c d e f g, l = [a, b, c, d, e, f, g]
  | [a, b, c, d, e, f, g], _ => ⟨a, b, c, d, e, f, g, rfl⟩
/-- what stands behind all that is carried -/
theorem qFl_eq {s : ab_q} (l : qLn s) {g : List Int32} (hg : g.length = 75) : ∃ z, ((((((ab_cp ((qC s).map nI) (ab_cp (qG s) (ab_cp ((qW s).map nI) (ab_cp ((qL s).map nI) (ab_cp ((qU s).map nI) (ab_cp ((qP s).map nI) (ab_cp ((qB s).map nI) (ab_cp ((qA s).map nI) (ab_cp ((qK s).map nI) g 0 0 9) 0 9 9) 0 18 9) 0 27 9) 0 36 6) 0 42 6) 0 48 6) 0 54 6) 0 60 8).set 68 (nI (qN s))).set 69 (nI (qM s))).set 70 (qR s)).set 71 (qY s)).set 72 (qD s)).set 73 (qS s) = qFl s ++ [z] := by
  obtain ⟨a1, a2, a3, a4, a5, a6, a7, a8, a9⟩ := l
  have b1 : ((qK s).map nI).length = 9 := by rw [List.length_map]; exact a1
  have b2 : ((qA s).map nI).length = 9 := by rw [List.length_map]; exact a2
  have b3 : ((qB s).map nI).length = 9 := by rw [List.length_map]; exact a3
  have b4 : ((qP s).map nI).length = 9 := by rw [List.length_map]; exact a4
  have b5 : ((qU s).map nI).length = 6 := by rw [List.length_map]; exact a5
  have b6 : ((qL s).map nI).length = 6 := by rw [List.length_map]; exact a6
  have b7 : ((qW s).map nI).length = 6 := by rw [List.length_map]; exact a7
  have b9 : ((qC s).map nI).length = 8 := by rw [List.length_map]; exact a9
  unfold qFl
  generalize (qK s).map nI = f1 at *
  generalize (qA s).map nI = f2 at *
  generalize (qB s).map nI = f3 at *
  generalize (qP s).map nI = f4 at *
  generalize (qU s).map nI = f5 at *
  generalize (qL s).map nI = f6 at *
  generalize (qW s).map nI = f7 at *
  generalize qG s = f8 at *
  generalize (qC s).map nI = f9 at *
  have e1 : ab_cp f1 g 0 0 9 = f1 ++ g.drop 9 := ab_cpP (P := []) rfl b1
  have l2 : (f1 ++ f2).length = 18 := by simp only [List.length_append]; omega
  have l3 : ((f1 ++ f2) ++ f3).length = 27 := by simp only [List.length_append]; omega
  have l4 : (((f1 ++ f2) ++ f3) ++ f4).length = 36 := by simp only [List.length_append]; omega
  have l5 : ((((f1 ++ f2) ++ f3) ++ f4) ++ f5).length = 42 := by simp only [List.length_append]; omega
  have l6 : (((((f1 ++ f2) ++ f3) ++ f4) ++ f5) ++ f6).length = 48 := by simp only [List.length_append]; omega
  have l7 : ((((((f1 ++ f2) ++ f3) ++ f4) ++ f5) ++ f6) ++ f7).length = 54 := by simp only [List.length_append]; omega
  have l8 : (((((((f1 ++ f2) ++ f3) ++ f4) ++ f5) ++ f6) ++ f7) ++ f8).length = 60 := by simp only [List.length_append]; omega
  have l9 : ((((((((f1 ++ f2) ++ f3) ++ f4) ++ f5) ++ f6) ++ f7) ++ f8) ++ f9).length = 68 := by simp only [List.length_append]; omega
  rw [e1, ab_cpP b1 b2, ab_cpP l2 b3, ab_cpP l3 b4, ab_cpP l4 b5, ab_cpP l5 b6, ab_cpP l6 b7, ab_cpP l7 a8, ab_cpP l8 b9]
  obtain ⟨r0, r1, r2, r3, r4, r5, r6, hR⟩ := ab_seven (l := (((((((((g.drop 9).drop 9).drop 9).drop 9).drop 6).drop 6).drop 6).drop 6).drop 8)) (by simp only [List.length_drop]; omega)
  rw [hR]
  refine ⟨r6, ?_⟩
  generalize hp : ((((((((f1 ++ f2) ++ f3) ++ f4) ++ f5) ++ f6) ++ f7) ++ f8) ++ f9) = p at *
  rw [List.set_append_right _ _ (by omega), List.set_append_right _ _ (by omega), List.set_append_right _ _ (by omega), List.set_append_right _ _ (by omega), List.set_append_right _ _ (by omega), List.set_append_right _ _ (by omega), l9, ← hp]
  simp only [List.append_assoc]
  rfl
section FLAT
variable {s : ab_q} {z : Int32}
theorem qFl_len (l : qLn s) : (qFl s ++ [z]).length = 75 := by
  obtain ⟨a1, a2, a3, a4, a5, a6, a7, a8, a9⟩ := l
  unfold qFl
  simp only [List.length_append, List.length_map, List.length_cons, List.length_nil]
  omega

theorem qFl_K (l : qLn s) {f : List Int32} (hf : f.length = 9) : ab_cp (qFl s ++ [z]) f 0 0 9 = (qK s).map nI := by
  obtain ⟨a1, a2, a3, a4, a5, a6, a7, a8, a9⟩ := l
  have e : qFl s ++ [z] = ([]) ++ (((qK s).map nI) ++ (((qA s).map nI) ++ (((qB s).map nI) ++ (((qP s).map nI) ++ (((qU s).map nI) ++ (((qL s).map nI) ++ (((qW s).map nI) ++ ((qG s) ++ (((qC s).map nI) ++ [nI (qN s), nI (qM s), qR s, qY s, qD s, qS s, z]))))))))) := by
    unfold qFl
    simp only [List.append_assoc, List.nil_append, List.cons_append]
  rw [e]
  exact ab_cpQ (by simp only [List.length_append, List.length_map, List.length_nil] <;> omega) (by rw [List.length_map]; omega) hf
theorem qFl_A (l : qLn s) {f : List Int32} (hf : f.length = 9) : ab_cp (qFl s ++ [z]) f 9 0 9 = (qA s).map nI := by
  obtain ⟨a1, a2, a3, a4, a5, a6, a7, a8, a9⟩ := l
  have e : qFl s ++ [z] = (((qK s).map nI)) ++ (((qA s).map nI) ++ (((qB s).map nI) ++ (((qP s).map nI) ++ (((qU s).map nI) ++ (((qL s).map nI) ++ (((qW s).map nI) ++ ((qG s) ++ (((qC s).map nI) ++ [nI (qN s), nI (qM s), qR s, qY s, qD s, qS s, z])))))))) := by
    unfold qFl
    simp only [List.append_assoc, List.nil_append, List.cons_append]
  rw [e]
  exact ab_cpQ (by simp only [List.length_append, List.length_map, List.length_nil] <;> omega) (by rw [List.length_map]; omega) hf
theorem qFl_B (l : qLn s) {f : List Int32} (hf : f.length = 9) : ab_cp (qFl s ++ [z]) f 18 0 9 = (qB s).map nI := by
  obtain ⟨a1, a2, a3, a4, a5, a6, a7, a8, a9⟩ := l
  have e : qFl s ++ [z] = (((qK s).map nI) ++ ((qA s).map nI)) ++ (((qB s).map nI) ++ (((qP s).map nI) ++ (((qU s).map nI) ++ (((qL s).map nI) ++ (((qW s).map nI) ++ ((qG s) ++ (((qC s).map nI) ++ [nI (qN s), nI (qM s), qR s, qY s, qD s, qS s, z]))))))) := by
    unfold qFl
    simp only [List.append_assoc, List.nil_append, List.cons_append]
  rw [e]
  exact ab_cpQ (by simp only [List.length_append, List.length_map, List.length_nil] <;> omega) (by rw [List.length_map]; omega) hf
theorem qFl_P (l : qLn s) {f : List Int32} (hf : f.length = 9) : ab_cp (qFl s ++ [z]) f 27 0 9 = (qP s).map nI := by
  obtain ⟨a1, a2, a3, a4, a5, a6, a7, a8, a9⟩ := l
  have e : qFl s ++ [z] = (((qK s).map nI) ++ ((qA s).map nI) ++ ((qB s).map nI)) ++ (((qP s).map nI) ++ (((qU s).map nI) ++ (((qL s).map nI) ++ (((qW s).map nI) ++ ((qG s) ++ (((qC s).map nI) ++ [nI (qN s), nI (qM s), qR s, qY s, qD s, qS s, z])))))) := by
    unfold qFl
    simp only [List.append_assoc, List.nil_append, List.cons_append]
  rw [e]
  exact ab_cpQ (by simp only [List.length_append, List.length_map, List.length_nil] <;> omega) (by rw [List.length_map]; omega) hf
theorem qFl_U (l : qLn s) {f : List Int32} (hf : f.length = 6) : ab_cp (qFl s ++ [z]) f 36 0 6 = (qU s).map nI := by
  obtain ⟨a1, a2, a3, a4, a5, a6, a7, a8, a9⟩ := l
  have e : qFl s ++ [z] = (((qK s).map nI) ++ ((qA s).map nI) ++ ((qB s).map nI) ++ ((qP s).map nI)) ++ (((qU s).map nI) ++ (((qL s).map nI) ++ (((qW s).map nI) ++ ((qG s) ++ (((qC s).map nI) ++ [nI (qN s), nI (qM s), qR s, qY s, qD s, qS s, z]))))) := by
    unfold qFl
    simp only [List.append_assoc, List.nil_append, List.cons_append]
  rw [e]
  exact ab_cpQ (by simp only [List.length_append, List.length_map, List.length_nil] <;> omega) (by rw [List.length_map]; omega) hf
theorem qFl_L (l : qLn s) {f : List Int32} (hf : f.length = 6) : ab_cp (qFl s ++ [z]) f 42 0 6 = (qL s).map nI := by
  obtain ⟨a1, a2, a3, a4, a5, a6, a7, a8, a9⟩ := l
  have e : qFl s ++ [z] = (((qK s).map nI) ++ ((qA s).map nI) ++ ((qB s).map nI) ++ ((qP s).map nI) ++ ((qU s).map nI)) ++ (((qL s).map nI) ++ (((qW s).map nI) ++ ((qG s) ++ (((qC s).map nI) ++ [nI (qN s), nI (qM s), qR s, qY s, qD s, qS s, z])))) := by
    unfold qFl
    simp only [List.append_assoc, List.nil_append, List.cons_append]
  rw [e]
  exact ab_cpQ (by simp only [List.length_append, List.length_map, List.length_nil] <;> omega) (by rw [List.length_map]; omega) hf
theorem qFl_W (l : qLn s) {f : List Int32} (hf : f.length = 6) : ab_cp (qFl s ++ [z]) f 48 0 6 = (qW s).map nI := by
  obtain ⟨a1, a2, a3, a4, a5, a6, a7, a8, a9⟩ := l
  have e : qFl s ++ [z] = (((qK s).map nI) ++ ((qA s).map nI) ++ ((qB s).map nI) ++ ((qP s).map nI) ++ ((qU s).map nI) ++ ((qL s).map nI)) ++ (((qW s).map nI) ++ ((qG s) ++ (((qC s).map nI) ++ [nI (qN s), nI (qM s), qR s, qY s, qD s, qS s, z]))) := by
    unfold qFl
    simp only [List.append_assoc, List.nil_append, List.cons_append]
  rw [e]
  exact ab_cpQ (by simp only [List.length_append, List.length_map, List.length_nil] <;> omega) (by rw [List.length_map]; omega) hf
theorem qFl_G (l : qLn s) {f : List Int32} (hf : f.length = 6) : ab_cp (qFl s ++ [z]) f 54 0 6 = qG s := by
  obtain ⟨a1, a2, a3, a4, a5, a6, a7, a8, a9⟩ := l
  have e : qFl s ++ [z] = (((qK s).map nI) ++ ((qA s).map nI) ++ ((qB s).map nI) ++ ((qP s).map nI) ++ ((qU s).map nI) ++ ((qL s).map nI) ++ ((qW s).map nI)) ++ ((qG s) ++ (((qC s).map nI) ++ [nI (qN s), nI (qM s), qR s, qY s, qD s, qS s, z])) := by
    unfold qFl
    simp only [List.append_assoc, List.nil_append, List.cons_append]
  rw [e]
  exact ab_cpQ (by simp only [List.length_append, List.length_map, List.length_nil] <;> omega) (by skip; omega) hf
theorem qFl_C (l : qLn s) {f : List Int32} (hf : f.length = 8) : ab_cp (qFl s ++ [z]) f 60 0 8 = (qC s).map nI := by
  obtain ⟨a1, a2, a3, a4, a5, a6, a7, a8, a9⟩ := l
  have e : qFl s ++ [z] = (((qK s).map nI) ++ ((qA s).map nI) ++ ((qB s).map nI) ++ ((qP s).map nI) ++ ((qU s).map nI) ++ ((qL s).map nI) ++ ((qW s).map nI) ++ (qG s)) ++ (((qC s).map nI) ++ ([nI (qN s), nI (qM s), qR s, qY s, qD s, qS s, z])) := by
    unfold qFl
    simp only [List.append_assoc, List.nil_append, List.cons_append]
  rw [e]
  exact ab_cpQ (by simp only [List.length_append, List.length_map, List.length_nil] <;> omega) (by rw [List.length_map]; omega) hf
theorem qFl_e : qFl s ++ [z] = (((qK s).map nI) ++ ((qA s).map nI) ++ ((qB s).map nI) ++ ((qP s).map nI) ++ ((qU s).map nI) ++ ((qL s).map nI) ++ ((qW s).map nI) ++ (qG s) ++ ((qC s).map nI)) ++ [nI (qN s), nI (qM s), qR s, qY s, qD s, qS s, z] := by
  unfold qFl
  simp only [List.append_assoc, List.nil_append, List.cons_append]
theorem qFl_pre (l : qLn s) : (((qK s).map nI) ++ ((qA s).map nI) ++ ((qB s).map nI) ++ ((qP s).map nI) ++ ((qU s).map nI) ++ ((qL s).map nI) ++ ((qW s).map nI) ++ (qG s) ++ ((qC s).map nI)).length = 68 := by
  obtain ⟨a1, a2, a3, a4, a5, a6, a7, a8, a9⟩ := l
  simp only [List.length_append, List.length_map]
  omega
theorem qFl_68 (l : qLn s) : (qFl s ++ [z]).getD 68 0 = nI (qN s) := by
  rw [qFl_e, List.getD_eq_getElem?_getD, List.getElem?_append_right (by rw [qFl_pre l]; omega), qFl_pre l]
  rfl
theorem qFl_69 (l : qLn s) : (qFl s ++ [z]).getD 69 0 = nI (qM s) := by
  rw [qFl_e, List.getD_eq_getElem?_getD, List.getElem?_append_right (by rw [qFl_pre l]; omega), qFl_pre l]
  rfl
theorem qFl_70 (l : qLn s) : (qFl s ++ [z]).getD 70 0 = qR s := by
  rw [qFl_e, List.getD_eq_getElem?_getD, List.getElem?_append_right (by rw [qFl_pre l]; omega), qFl_pre l]
  rfl
theorem qFl_71 (l : qLn s) : (qFl s ++ [z]).getD 71 0 = qY s := by
  rw [qFl_e, List.getD_eq_getElem?_getD, List.getElem?_append_right (by rw [qFl_pre l]; omega), qFl_pre l]
  rfl
theorem qFl_72 (l : qLn s) : (qFl s ++ [z]).getD 72 0 = qD s := by
  rw [qFl_e, List.getD_eq_getElem?_getD, List.getElem?_append_right (by rw [qFl_pre l]; omega), qFl_pre l]
  rfl
theorem qFl_73 (l : qLn s) : (qFl s ++ [z]).getD 73 0 = qS s := by
  rw [qFl_e, List.getD_eq_getElem?_getD, List.getElem?_append_right (by rw [qFl_pre l]; omega), qFl_pre l]
  rfl
theorem qFn_K (l : qLn s) {g f : List Int32} (hg : g.length = 75) (hf : f.length = 9) : ab_cp (qFn s g) f 0 0 9 = (qK s).map nI := by
  obtain ⟨z, e⟩ := qFl_eq l hg
  show ab_cp (qFn s g) f 0 0 9 = _
  rw [show qFn s g = qFl s ++ [z] from e]
  exact qFl_K l hf
theorem qFn_A (l : qLn s) {g f : List Int32} (hg : g.length = 75) (hf : f.length = 9) : ab_cp (qFn s g) f 9 0 9 = (qA s).map nI := by
  obtain ⟨z, e⟩ := qFl_eq l hg
  show ab_cp (qFn s g) f 9 0 9 = _
  rw [show qFn s g = qFl s ++ [z] from e]
  exact qFl_A l hf
theorem qFn_B (l : qLn s) {g f : List Int32} (hg : g.length = 75) (hf : f.length = 9) : ab_cp (qFn s g) f 18 0 9 = (qB s).map nI := by
  obtain ⟨z, e⟩ := qFl_eq l hg
  show ab_cp (qFn s g) f 18 0 9 = _
  rw [show qFn s g = qFl s ++ [z] from e]
  exact qFl_B l hf
theorem qFn_P (l : qLn s) {g f : List Int32} (hg : g.length = 75) (hf : f.length = 9) : ab_cp (qFn s g) f 27 0 9 = (qP s).map nI := by
  obtain ⟨z, e⟩ := qFl_eq l hg
  show ab_cp (qFn s g) f 27 0 9 = _
  rw [show qFn s g = qFl s ++ [z] from e]
  exact qFl_P l hf
theorem qFn_U (l : qLn s) {g f : List Int32} (hg : g.length = 75) (hf : f.length = 6) : ab_cp (qFn s g) f 36 0 6 = (qU s).map nI := by
  obtain ⟨z, e⟩ := qFl_eq l hg
  show ab_cp (qFn s g) f 36 0 6 = _
  rw [show qFn s g = qFl s ++ [z] from e]
  exact qFl_U l hf
theorem qFn_L (l : qLn s) {g f : List Int32} (hg : g.length = 75) (hf : f.length = 6) : ab_cp (qFn s g) f 42 0 6 = (qL s).map nI := by
  obtain ⟨z, e⟩ := qFl_eq l hg
  show ab_cp (qFn s g) f 42 0 6 = _
  rw [show qFn s g = qFl s ++ [z] from e]
  exact qFl_L l hf
theorem qFn_W (l : qLn s) {g f : List Int32} (hg : g.length = 75) (hf : f.length = 6) : ab_cp (qFn s g) f 48 0 6 = (qW s).map nI := by
  obtain ⟨z, e⟩ := qFl_eq l hg
  show ab_cp (qFn s g) f 48 0 6 = _
  rw [show qFn s g = qFl s ++ [z] from e]
  exact qFl_W l hf
theorem qFn_G (l : qLn s) {g f : List Int32} (hg : g.length = 75) (hf : f.length = 6) : ab_cp (qFn s g) f 54 0 6 = qG s := by
  obtain ⟨z, e⟩ := qFl_eq l hg
  show ab_cp (qFn s g) f 54 0 6 = _
  rw [show qFn s g = qFl s ++ [z] from e]
  exact qFl_G l hf
theorem qFn_C (l : qLn s) {g f : List Int32} (hg : g.length = 75) (hf : f.length = 8) : ab_cp (qFn s g) f 60 0 8 = (qC s).map nI := by
  obtain ⟨z, e⟩ := qFl_eq l hg
  show ab_cp (qFn s g) f 60 0 8 = _
  rw [show qFn s g = qFl s ++ [z] from e]
  exact qFl_C l hf
theorem qFn_68 (l : qLn s) {g : List Int32} (hg : g.length = 75) : (qFn s g).getD 68 0 = nI (qN s) := by
  obtain ⟨z, e⟩ := qFl_eq l hg
  rw [show qFn s g = qFl s ++ [z] from e]
  exact qFl_68 l
theorem qFn_69 (l : qLn s) {g : List Int32} (hg : g.length = 75) : (qFn s g).getD 69 0 = nI (qM s) := by
  obtain ⟨z, e⟩ := qFl_eq l hg
  rw [show qFn s g = qFl s ++ [z] from e]
  exact qFl_69 l
theorem qFn_70 (l : qLn s) {g : List Int32} (hg : g.length = 75) : (qFn s g).getD 70 0 = qR s := by
  obtain ⟨z, e⟩ := qFl_eq l hg
  rw [show qFn s g = qFl s ++ [z] from e]
  exact qFl_70 l
theorem qFn_71 (l : qLn s) {g : List Int32} (hg : g.length = 75) : (qFn s g).getD 71 0 = qY s := by
  obtain ⟨z, e⟩ := qFl_eq l hg
  rw [show qFn s g = qFl s ++ [z] from e]
  exact qFl_71 l
theorem qFn_72 (l : qLn s) {g : List Int32} (hg : g.length = 75) : (qFn s g).getD 72 0 = qD s := by
  obtain ⟨z, e⟩ := qFl_eq l hg
  rw [show qFn s g = qFl s ++ [z] from e]
  exact qFl_72 l
theorem qFn_73 (l : qLn s) {g : List Int32} (hg : g.length = 75) : (qFn s g).getD 73 0 = qS s := by
  obtain ⟨z, e⟩ := qFl_eq l hg
  rw [show qFn s g = qFl s ++ [z] from e]
  exact qFl_73 l
theorem qFn_len (l : qLn s) {g : List Int32} (hg : g.length = 75) : (qFn s g).length = 75 := by
  obtain ⟨z, e⟩ := qFl_eq l hg
  rw [show qFn s g = qFl s ++ [z] from e]
  exact qFl_len l
end FLAT
