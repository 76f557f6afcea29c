/-! copies of rows; by program (wip/tools/mk56.py) -/
theorem ab_subI {a b : Nat} (ha : a < 2147483648) (hb : b < 2147483648) : (nI a - nI b).toInt = (a : Int) - b := by
  rw [Int32.toInt_sub, nI_toInt (by omega), nI_toInt (by omega)]
  exact Int.bmod_eq_of_le (by omega) (by omega)
def cpA (ca ce : List Int64) (b : Nat) : Nat → List Int64
  | 0 => ca
  | k + 1 => (cpA ca ce b k).set k (ce.getD (b + k) 0)
theorem cpA_len (ca ce : List Int64) (b : Nat) : ∀ k, (cpA ca ce b k).length = ca.length
  | 0 => rfl
  | k + 1 => List.length_set.trans (cpA_len ca ce b k)
theorem cpA_get {ca ce : List Int64} {b : Nat} : ∀ k q, k ≤ ca.length → (cpA ca ce b k).getD q 0 = if q < k then ce.getD (b + q) 0 else ca.getD q 0
  | 0, q, _ => by rw [if_neg (by omega)]; rfl
  | k + 1, q, h => by
    show ((cpA ca ce b k).set k (ce.getD (b + k) 0)).getD q 0 = _
    rw [ab_gsI (by rw [cpA_len]; omega), cpA_get k q (by omega)]
    by_cases e : q = k
    · subst e
      rw [if_pos rfl, if_pos (by omega)]
    · rw [if_neg e]
      by_cases e2 : q < k
      · rw [if_pos e2, if_pos (by omega)]
      · rw [if_neg e2, if_neg (by omega)]
def cpB (ce ca : List Int64) (b : Nat) : Nat → List Int64
  | 0 => ce
  | k + 1 => (cpB ce ca b k).set (b + k) (ca.getD k 0)
theorem cpB_len (ce ca : List Int64) (b : Nat) : ∀ k, (cpB ce ca b k).length = ce.length
  | 0 => rfl
  | k + 1 => List.length_set.trans (cpB_len ce ca b k)
theorem cpB_get {ce ca : List Int64} {b : Nat} : ∀ k q, b + k ≤ ce.length → (cpB ce ca b k).getD q 0 = if b ≤ q ∧ q < b + k then ca.getD (q - b) 0 else ce.getD q 0
  | 0, q, _ => by rw [if_neg (by omega)]; rfl
  | k + 1, q, h => by
    show ((cpB ce ca b k).set (b + k) (ca.getD k 0)).getD q 0 = _
    rw [ab_gsI (by rw [cpB_len]; omega), cpB_get k q (by omega)]
    by_cases e : q = b + k
    · subst e
      rw [if_pos rfl, if_pos (by omega), Nat.add_sub_cancel_left]
    · rw [if_neg e]
      by_cases e2 : b ≤ q ∧ q < b + k
      · rw [if_pos e2, if_pos (by omega)]
      · rw [if_neg e2, if_neg (by omega)]
theorem ab_cp_get {α : Type} {f g : List α} {i j n q : Nat} {z : α} (h1 : i + n ≤ f.length) (h2 : j + n ≤ g.length) : (ab_cp f g i j n).getD q z = if j ≤ q ∧ q < j + n then f.getD (i + (q - j)) z else g.getD q z := by
  unfold ab_cp
  rw [List.getD_eq_getElem?_getD, List.getD_eq_getElem?_getD, List.getD_eq_getElem?_getD]
  have l1 : (g.take j).length = j := by rw [List.length_take]; omega
  have l2 : ((f.drop i).take n).length = n := by rw [List.length_take, List.length_drop]; omega
  by_cases e1 : q < j
  · rw [if_neg (by omega), List.getElem?_append_left (by omega), List.getElem?_take, if_pos e1]
  · rw [List.getElem?_append_right (by omega), l1]
    by_cases e2 : q < j + n
    · rw [if_pos ⟨by omega, e2⟩, List.getElem?_append_left (by omega), List.getElem?_take, if_pos (by omega), List.getElem?_drop]
    · rw [if_neg (by omega), List.getElem?_append_right (by omega), l2, List.getElem?_drop, show j + n + (q - j - n) = q by omega]
theorem iS_copy {s : ab_q} {hd sz : Nat → Int32} {el : Nat → List Int64} {hm so si : List Nat} {sh : List Int32} {ce ca : List Int64} (h : iS s hd sz el hm so si sh ce) {p q i j n : Nat} (hp : p < 8) (hq : q < 8) (l0 : ca.length = 160) (l1 : (el p).length = 160) (l2 : (el q).length = 160) (l3 : ce.length = 1280) (h1 : i + n ≤ 160) (h2 : j + n ≤ 160) (hr : hm.getD p 0 = 1) :
    iS s hd sz (fUp el q (ab_cp (el p) (el q) i j n)) hm so si sh (cpB ce (cpA ca ce (160 * p + i) n) (160 * q + j) n) := by
  intro x hx
  by_cases e : x = q
  · subst e
    rw [fUp_eq]
    rcases h x hx with z | z | ⟨z1, z2, z3, z4, z5, z6⟩
    · exact Or.inl z
    · exact Or.inr (Or.inl z)
    · refine Or.inr (Or.inr ⟨z1, z2, z3, z4, z5, fun y hy => ?_⟩)
      rw [ab_cp_get (by omega) (by omega), cpB_get n _ (by omega)]
      by_cases e2 : j ≤ y ∧ y < j + n
      · rw [if_pos e2, if_pos (by omega), cpA_get n _ (by omega), if_pos (by omega)]
        rcases h p hp with w | ⟨_, _, _, _, w, _⟩ | ⟨w1, w2, w3, w4, w5, w6⟩
        · omega
        · omega
        · rw [w6 _ (by omega)]
          congr 1
          omega
      · rw [if_neg e2, if_neg (by omega)]
        exact z6 y hy
  · rw [fUp_ne e]
    rcases h x hx with z | z | ⟨z1, z2, z3, z4, z5, z6⟩
    · exact Or.inl z
    · exact Or.inr (Or.inl z)
    · exact Or.inr (Or.inr ⟨z1, z2, z3, z4, z5, fun y hy => by rw [z6 y hy, cpB_get n _ (by omega), if_neg (by omega)]⟩)
section CPW
variable {im : Int32} {lf : Int32} {s : ab_q} {d : ab_q} {k : ab_q} {ls : List Int32} {rf : Int32} {rz : Int32} {ra : Int32} {rn : Int32} {rq : ab_q} {lt : List Int32} {m1 : Int32} {m2 : Int32} {m3 : Int32} {m4 : Int32} {bd : List Int32} {fc : List Int32} {hd : Nat → Int32} {sz : Nat → Int32} {el : Nat → List Int64} {t : ab_q} {g : Nat → Int32} {fm : List Int32} {hm : List Nat} {so : List Nat} {si : List Nat} {sh : List Int32} {ce : List Int64} {ca : List Int64} {td : List Int32} {wa : List Int32} {kp : List Int32} {la : List Int32} {bf : List Int32} {oo : List Int32} {bo : List Int32} {pw : List Int32} {ow : List Int32} {tr : List Int32}
set_option maxHeartbeats 2000000 in
theorem mcpA_l {dd : Nat} {r : Option Value × List ab_C} {p q i j n : Nat} (hf0 : p < 8) (hf1 : q < 8) (hf2 : i + n ≤ 160) (hf3 : j + n ≤ 160) (l_ce : ce.length = 1280) (l_ca : ca.length = 160) (K : Ef ab_Z0 dd mX6_copy (202, [some (.ref 65), some (.int (nI p)), some (.int (nI q)), some (.int (nI i)), some (.int (nI j)), some (.int (nI n)), some (.int (nI n))], [], (ww im lf s d k ls rf rz ra rn rq lt m1 m2 m3 m4 bd fc hd sz el s g fm hm so si sh ce (cpA ca ce (160 * p + i) n) td wa kp la bf oo bo pw ow tr)) r) : ∀ m v, v + m = n → Ef ab_Z0 dd mX6_copy (167, [some (.ref 65), some (.int (nI p)), some (.int (nI q)), some (.int (nI i)), some (.int (nI j)), some (.int (nI n)), some (.int (nI v))], [], (ww im lf s d k ls rf rz ra rn rq lt m1 m2 m3 m4 bd fc hd sz el s g fm hm so si sh ce (cpA ca ce (160 * p + i) v) td wa kp la bf oo bo pw ow tr)) r := by
  intro m
  induction m with
  | zero =>
    intro v hi
    have hi : v = n := by omega
    subst hi
    refine E_iload rfl rfl ?_
    refine E_iload rfl rfl ?_
    refine E_ic (t := 202) (b := true) rfl rfl ((cn_ge (nI_toInt (by omega)) (nI_toInt (by omega))).trans (decide_eq_true (by omega))) ?_
    exact K
  | succ m ih =>
    intro v hi
    have := cpA_len ca ce (160 * p + i) v
    have : (cpA ca ce (160 * p + i) v).length = 160 := by first | omega | (simp only [List.length_set]; omega)
    refine E_iload rfl rfl ?_
    refine E_iload rfl rfl ?_
    refine E_ic (t := 202) (b := false) rfl rfl ((cn_ge (nI_toInt (by omega)) (nI_toInt (by omega))).trans (decide_eq_false (by omega))) ?_
    refine E_aload_n rfl rfl ?_
    refine E_getfield (v := .ref 81) rfl w65 rfl (by decide) rfl ?_
    refine E_iload rfl rfl ?_
    refine E_aload_n rfl rfl ?_
    refine E_getfield (v := .ref 80) rfl w65 rfl (by decide) rfl ?_
    refine E_sipush (x := nI 160) rfl (by decide) ?_
    refine E_iload_n rfl rfl ?_
    refine E_imul (z := nI (160 * p)) rfl (pk_mul _ _) ?_
    refine E_iload_n rfl rfl ?_
    refine E_iadd (z := nI ((160 * p) + i)) rfl (nI_add _ _) ?_
    refine E_iload rfl rfl ?_
    refine E_iadd (z := nI (((160 * p) + i) + v)) rfl (nI_add _ _) ?_
    refine E_lalL (l := ce) (v := ce.getD (((160 * p) + i) + v) 0) rfl w80 (by omega) (by omega) rfl ?_
    refine E_lasL (l := (cpA ca ce (160 * p + i) v)) (cs2 := (ww im lf s d k ls rf rz ra rn rq lt m1 m2 m3 m4 bd fc hd sz el s g fm hm so si sh ce ((cpA ca ce (160 * p + i) v).set v (ce.getD (((160 * p) + i) + v) 0)) td wa kp la bf oo bo pw ow tr)) rfl w81 (by omega) (by omega) rfl ?_
    refine E_iinc (y := nI (v + 1)) (L2 := [some (.ref 65), some (.int (nI p)), some (.int (nI q)), some (.int (nI i)), some (.int (nI j)), some (.int (nI n)), some (.int (nI (v + 1)))]) rfl rfl (nI_1 _) rfl ?_
    refine E_goto (t := 167) rfl rfl ?_
    exact ih (v + 1) (by omega)
set_option maxHeartbeats 2000000 in
theorem mcpB_l {dd : Nat} {r : Option Value × List ab_C} {p q i j n : Nat} (hf0 : p < 8) (hf1 : q < 8) (hf2 : i + n ≤ 160) (hf3 : j + n ≤ 160) (l_ce : ce.length = 1280) (l_ca : ca.length = 160) (K : Ef ab_Z0 dd mX6_copy (241, [some (.ref 65), some (.int (nI p)), some (.int (nI q)), some (.int (nI i)), some (.int (nI j)), some (.int (nI n)), some (.int (nI n))], [], (ww im lf s d k ls rf rz ra rn rq lt m1 m2 m3 m4 bd fc hd sz el s g fm hm so si sh (cpB ce ca (160 * q + j) n) ca td wa kp la bf oo bo pw ow tr)) r) : ∀ m v, v + m = n → Ef ab_Z0 dd mX6_copy (205, [some (.ref 65), some (.int (nI p)), some (.int (nI q)), some (.int (nI i)), some (.int (nI j)), some (.int (nI n)), some (.int (nI v))], [], (ww im lf s d k ls rf rz ra rn rq lt m1 m2 m3 m4 bd fc hd sz el s g fm hm so si sh (cpB ce ca (160 * q + j) v) ca td wa kp la bf oo bo pw ow tr)) r := by
  intro m
  induction m with
  | zero =>
    intro v hi
    have hi : v = n := by omega
    subst hi
    refine E_iload rfl rfl ?_
    refine E_iload rfl rfl ?_
    refine E_ic (t := 241) (b := true) rfl rfl ((cn_ge (nI_toInt (by omega)) (nI_toInt (by omega))).trans (decide_eq_true (by omega))) ?_
    exact K
  | succ m ih =>
    intro v hi
    have := cpB_len ce ca (160 * q + j) v
    have : (cpB ce ca (160 * q + j) v).length = 1280 := by first | omega | (simp only [List.length_set]; omega)
    refine E_iload rfl rfl ?_
    refine E_iload rfl rfl ?_
    refine E_ic (t := 241) (b := false) rfl rfl ((cn_ge (nI_toInt (by omega)) (nI_toInt (by omega))).trans (decide_eq_false (by omega))) ?_
    refine E_aload_n rfl rfl ?_
    refine E_getfield (v := .ref 80) rfl w65 rfl (by decide) rfl ?_
    refine E_sipush (x := nI 160) rfl (by decide) ?_
    refine E_iload_n rfl rfl ?_
    refine E_imul (z := nI (160 * q)) rfl (pk_mul _ _) ?_
    refine E_iload rfl rfl ?_
    refine E_iadd (z := nI ((160 * q) + j)) rfl (nI_add _ _) ?_
    refine E_iload rfl rfl ?_
    refine E_iadd (z := nI (((160 * q) + j) + v)) rfl (nI_add _ _) ?_
    refine E_aload_n rfl rfl ?_
    refine E_getfield (v := .ref 81) rfl w65 rfl (by decide) rfl ?_
    refine E_iload rfl rfl ?_
    refine E_lalL (l := ca) (v := ca.getD v 0) rfl w81 (by omega) (by omega) rfl ?_
    refine E_lasL (l := (cpB ce ca (160 * q + j) v)) (cs2 := (ww im lf s d k ls rf rz ra rn rq lt m1 m2 m3 m4 bd fc hd sz el s g fm hm so si sh ((cpB ce ca (160 * q + j) v).set (((160 * q) + j) + v) (ca.getD v 0)) ca td wa kp la bf oo bo pw ow tr)) rfl w80 (by omega) (by omega) rfl ?_
    refine E_iinc (y := nI (v + 1)) (L2 := [some (.ref 65), some (.int (nI p)), some (.int (nI q)), some (.int (nI i)), some (.int (nI j)), some (.int (nI n)), some (.int (nI (v + 1)))]) rfl rfl (nI_1 _) rfl ?_
    refine E_goto (t := 205) rfl rfl ?_
    exact ih (v + 1) (by omega)
end CPW
