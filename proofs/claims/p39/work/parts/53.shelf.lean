/-! shelves, fills; by program (wip/tools/mk53.py) -/
theorem fUp_up {α : Type} {f : Nat → α} {j : Nat} {v w : α} : fUp (fUp f j v) j w = fUp f j w := by
  funext i
  unfold fUp
  split <;> rfl
section SH
variable {im : Int32} {lf : Int32} {s : ab_q} {d : ab_q} {k : ab_q} {ls : List Int32} {rf : Int32} {rz : Int32} {ra : Int32} {rn : Int32} {rq : ab_q} {lt : List Int32} {m1 : Int32} {m2 : Int32} {m3 : Int32} {m4 : Int32} {bd : List Int32} {fc : List Int32} {hd : Nat → Int32} {sz : Nat → Int32} {el : Nat → List Int64} {t : ab_q} {g : Nat → Int32} {fm : List Int32} {hm : List Nat} {so : List Nat} {si : List Nat} {sh : List Int32} {ce : List Int64} {ca : List Int64} {td : List Int32} {wa : List Int32} {kp : List Int32} {la : List Int32} {bf : List Int32} {oo : List Int32} {bo : List Int32} {pw : List Int32} {ow : List Int32} {tr : List Int32}
theorem w_shv {j : Nat} {v w : Int32} (hj : j < 8) (h1 : hd j = v) (h2 : sz j = w) : (ww im lf s d k ls rf rz ra rn rq lt m1 m2 m3 m4 bd fc hd sz el t g fm hm so si sh ce ca td wa kp la bf oo bo pw ow tr)[49 + 2 * j]? = some (.inr (.inr (.inr (3, [.ref (50 + 2 * j), .int v, .int w])))) := by
  rw [w_sh hj, h1, h2]
theorem w_shput2 {v w v0 w0 : Int32} {j : Nat} (hj : j < 8) : (ww im lf s d k ls rf rz ra rn rq lt m1 m2 m3 m4 bd fc (fUp hd j v0) (fUp sz j w0) el t g fm hm so si sh ce ca td wa kp la bf oo bo pw ow tr).set (49 + 2 * j) (.inr (.inr (.inr (3, [.ref (50 + 2 * j), .int v, .int w])))) = ww im lf s d k ls rf rz ra rn rq lt m1 m2 m3 m4 bd fc (fUp hd j v) (fUp sz j w) el t g fm hm so si sh ce ca td wa kp la bf oo bo pw ow tr := (w_shput hj).trans (by rw [fUp_up, fUp_up])
theorem w_elput2 {l l0 : List Int64} {j : Nat} (hj : j < 8) : (ww im lf s d k ls rf rz ra rn rq lt m1 m2 m3 m4 bd fc hd sz (fUp el j l0) t g fm hm so si sh ce ca td wa kp la bf oo bo pw ow tr).set (50 + 2 * j) (.inr (.inl l)) = ww im lf s d k ls rf rz ra rn rq lt m1 m2 m3 m4 bd fc hd sz (fUp el j l) t g fm hm so si sh ce ca td wa kp la bf oo bo pw ow tr := (w_elput hj).trans (by rw [fUp_up])
theorem w_elv {j : Nat} {l : List Int64} (hj : j < 8) (h : el j = l) : (ww im lf s d k ls rf rz ra rn rq lt m1 m2 m3 m4 bd fc hd sz el t g fm hm so si sh ce ca td wa kp la bf oo bo pw ow tr)[50 + 2 * j]? = some (.inr (.inl l)) := by
  rw [w_el hj, h]
end SH
section ER3
variable {Z : ab_Z} {d : Nat} {md : ab_D} {pc : Nat} {L : ab_L} {r0 : List Value} {cs : List ab_C} {r : Option Value × List ab_C} {k : ab_K} {ps : List Nat}
theorem E_alI {a : Nat} {l : List Int32} {z : Int32} (h : ab_at md pc = some (.arraylength, 1, k, ps)) (hc : cs[a]? = some (.inl l)) (hz : Int32.ofNat l.length = z) (K : Ef Z d md (pc + 1, L, .int z :: r0, cs) r) : Ef Z d md (pc, L, .ref a :: r0, cs) r :=
  Ef.hp h (Or.inl rfl) rfl rfl (by show ab_al Z.2 (.ref a :: r0) cs = _; unfold ab_al; dsimp only; rw [hc]; dsimp only; rw [hz]) K
theorem E_alL {a : Nat} {l : List Int64} {z : Int32} (h : ab_at md pc = some (.arraylength, 1, k, ps)) (hc : cs[a]? = some (.inr (.inl l))) (hz : Int32.ofNat l.length = z) (K : Ef Z d md (pc + 1, L, .int z :: r0, cs) r) : Ef Z d md (pc, L, .ref a :: r0, cs) r :=
  Ef.hp h (Or.inl rfl) rfl rfl (by show ab_al Z.2 (.ref a :: r0) cs = _; unfold ab_al; dsimp only; rw [hc]; dsimp only; rw [hz]) K
end ER3
theorem ab_rep_set {α : Type} {v : α} {l : List α} {i : Nat} (h : i < l.length) : (List.replicate i v ++ l.drop i).set i v = List.replicate (i + 1) v ++ l.drop (i + 1) := by
  rw [List.set_append_right _ _ (by simp), List.length_replicate, Nat.sub_self, List.drop_eq_getElem_cons h, List.set_cons_zero, List.replicate_succ', List.append_assoc]
  rfl
theorem ab_set_id {cs : List ab_C} {q : Nat} {c : ab_C} (h : cs[q]? = some c) : cs.set q c = cs := by
  apply List.ext_getElem?
  intro i
  by_cases hi : i = q
  · subst hi
    rw [List.getElem?_set_self (List.getElem?_eq_some_iff.mp h).1, h]
  · rw [List.getElem?_set_ne (fun z => hi z.symm)]
set_option maxHeartbeats 1000000 in
theorem fillL_l {a n : Nat} {v : Int64} {l : List Int64} (hl : l.length = n) (hn : n < 2147483648) : ∀ m i cs, i + m = n → cs[a]? = some (.inr (.inl (List.replicate i v ++ l.drop i))) → Ef ab_Z0 0 mJ7_fill_d0a16 (6, [some (.ref a), some (.long v), none, some (.int (nI i)), some (.int (nI n))], [], cs) (none, cs.set a (.inr (.inl (List.replicate n v)))) := by
  intro m
  induction m with
  | zero =>
    intro i cs hi hc
    obtain rfl : i = n := by omega
    have e : List.replicate i v ++ l.drop i = List.replicate i v := by rw [List.drop_of_length_le (by omega), List.append_nil]
    rw [e] at hc
    rw [ab_set_id hc]
    refine E_iload_n rfl rfl ?_
    refine E_iload rfl rfl ?_
    refine E_ic (t := 22) (b := true) rfl rfl ((cn_ge (nI_toInt (by omega)) (nI_toInt (by omega))).trans (decide_eq_true (by omega))) ?_
    exact E_vret rfl rfl
  | succ m ih =>
    intro i cs hi hc
    have hll : (List.replicate i v ++ l.drop i).length = n := by rw [List.length_append, List.length_replicate, List.length_drop]; omega
    have X := ih (i + 1) (cs.set a (.inr (.inl (List.replicate (i + 1) v ++ l.drop (i + 1))))) (by omega) (ab_geq hc)
    rw [List.set_set] at X
    refine E_iload_n rfl rfl ?_
    refine E_iload rfl rfl ?_
    refine E_ic (t := 22) (b := false) rfl rfl ((cn_ge (nI_toInt (by omega)) (nI_toInt (by omega))).trans (decide_eq_false (by omega))) ?_
    refine E_aload_n rfl rfl ?_
    refine E_iload_n rfl rfl ?_
    refine E_lload_n rfl rfl ?_
    refine E_lasL (l := (List.replicate i v ++ l.drop i)) (cs2 := (cs.set a (.inr (.inl ((List.replicate i v ++ l.drop i).set i v))))) rfl hc (by omega) (by omega) rfl ?_
    refine E_iinc (y := nI (i + 1)) (L2 := [some (.ref a), some (.long v), none, some (.int (nI (i + 1))), some (.int (nI n))]) rfl rfl (nI_1 _) rfl ?_
    refine E_goto (t := 6) rfl rfl ?_
    rw [ab_rep_set (by omega)]
    exact X
theorem fillL {cs : List ab_C} {a n : Nat} {v : Int64} {l : List Int64} (hc : cs[a]? = some (.inr (.inl l))) (hl : l.length = n) (hn : n < 2147483648) : Ev ab_Z0 1 214 [.ref a, .long v] cs (none, cs.set a (.inr (.inl (List.replicate n v)))) := by
  refine Ef.in (md := mJ7_fill_d0a16) (L := [some (.ref a), some (.long v), none, none, none]) rfl (Nat.le_of_ble_eq_true rfl) rfl ?_
  refine E_iconst (x := nI 0) rfl (by decide) ?_
  refine E_istore_n (L2 := [some (.ref a), some (.long v), none, some (.int (nI 0)), none]) rfl rfl ?_
  refine E_aload_n rfl rfl ?_
  refine E_alL (z := nI n) rfl hc (by rw [hl]; rfl) ?_
  refine E_istore (L2 := [some (.ref a), some (.long v), none, some (.int (nI 0)), some (.int (nI n))]) rfl rfl ?_
  exact fillL_l hl hn n 0 cs (Nat.zero_add n) hc
set_option maxHeartbeats 1000000 in
theorem fillI_l {a n : Nat} {v : Int32} {l : List Int32} (hl : l.length = n) (hn : n < 2147483648) : ∀ m i cs, i + m = n → cs[a]? = some (.inl (List.replicate i v ++ l.drop i)) → Ef ab_Z0 0 mJ7_fill_53178 (5, [some (.ref a), some (.int v), some (.int (nI i)), some (.int (nI n))], [], cs) (none, cs.set a (.inl (List.replicate n v))) := by
  intro m
  induction m with
  | zero =>
    intro i cs hi hc
    obtain rfl : i = n := by omega
    have e : List.replicate i v ++ l.drop i = List.replicate i v := by rw [List.drop_of_length_le (by omega), List.append_nil]
    rw [e] at hc
    rw [ab_set_id hc]
    refine E_iload_n rfl rfl ?_
    refine E_iload_n rfl rfl ?_
    refine E_ic (t := 20) (b := true) rfl rfl ((cn_ge (nI_toInt (by omega)) (nI_toInt (by omega))).trans (decide_eq_true (by omega))) ?_
    exact E_vret rfl rfl
  | succ m ih =>
    intro i cs hi hc
    have hll : (List.replicate i v ++ l.drop i).length = n := by rw [List.length_append, List.length_replicate, List.length_drop]; omega
    have X := ih (i + 1) (cs.set a (.inl (List.replicate (i + 1) v ++ l.drop (i + 1)))) (by omega) (ab_geq hc)
    rw [List.set_set] at X
    refine E_iload_n rfl rfl ?_
    refine E_iload_n rfl rfl ?_
    refine E_ic (t := 20) (b := false) rfl rfl ((cn_ge (nI_toInt (by omega)) (nI_toInt (by omega))).trans (decide_eq_false (by omega))) ?_
    refine E_aload_n rfl rfl ?_
    refine E_iload_n rfl rfl ?_
    refine E_iload_n rfl rfl ?_
    refine E_iasI (l := (List.replicate i v ++ l.drop i)) (cs2 := (cs.set a (.inl ((List.replicate i v ++ l.drop i).set i v)))) rfl hc (by omega) (by omega) rfl ?_
    refine E_iinc (y := nI (i + 1)) (L2 := [some (.ref a), some (.int v), some (.int (nI (i + 1))), some (.int (nI n))]) rfl rfl (nI_1 _) rfl ?_
    refine E_goto (t := 5) rfl rfl ?_
    rw [ab_rep_set (by omega)]
    exact X
theorem fillI {cs : List ab_C} {a n : Nat} {v : Int32} {l : List Int32} (hc : cs[a]? = some (.inl l)) (hl : l.length = n) (hn : n < 2147483648) : Ev ab_Z0 1 215 [.ref a, .int v] cs (none, cs.set a (.inl (List.replicate n v))) := by
  refine Ef.in (md := mJ7_fill_53178) (L := [some (.ref a), some (.int v), none, none]) rfl (Nat.le_of_ble_eq_true rfl) rfl ?_
  refine E_iconst (x := nI 0) rfl (by decide) ?_
  refine E_istore_n (L2 := [some (.ref a), some (.int v), some (.int (nI 0)), none]) rfl rfl ?_
  refine E_aload_n rfl rfl ?_
  refine E_alI (z := nI n) rfl hc (by rw [hl]; rfl) ?_
  refine E_istore_n (L2 := [some (.ref a), some (.int v), some (.int (nI 0)), some (.int (nI n))]) rfl rfl ?_
  exact fillI_l hl hn n 0 cs (Nat.zero_add n) hc
/-- elements of a row at b made 0 -/
def zf (ce : List Int64) (b : Nat) : Nat → List Int64
  | 0 => ce
  | i + 1 => (zf ce b i).set (b + i) 0
theorem zf_len (ce : List Int64) (b : Nat) : ∀ i, (zf ce b i).length = ce.length
  | 0 => rfl
  | i + 1 => by
    show ((zf ce b i).set (b + i) 0).length = _
    rw [List.length_set]
    exact zf_len ce b i
theorem zf_get {ce : List Int64} {b : Nat} : ∀ i q, (zf ce b i).getD q 0 = if b ≤ q ∧ q < b + i then 0 else ce.getD q 0
  | 0, q => by rw [if_neg (by omega)]; rfl
  | i + 1, q => by
    show ((zf ce b i).set (b + i) 0).getD q 0 = _
    have ih := zf_get (ce := ce) (b := b) i q
    by_cases h : b + i = q
    · subst h
      by_cases h2 : b + i < (zf ce b i).length
      · rw [ab_gs2 h2, if_pos (by omega)]
      · rw [ab_gs, if_neg (fun z => h2 z.2), ih]
        have h3 : ce.getD (b + i) 0 = 0 := by
          rw [List.getD_eq_getElem?_getD, List.getElem?_eq_none (by rw [zf_len] at h2; omega)]
          rfl
        split <;> split <;> first | rfl | exact h3 | exact h3.symm
    · rw [ab_gs1 h, ih]
      by_cases h2 : b ≤ q ∧ q < b + i
      · rw [if_pos h2, if_pos (by omega)]
      · rw [if_neg h2, if_neg (by omega)]
section MR
variable {im : Int32} {lf : Int32} {s : ab_q} {d : ab_q} {k : ab_q} {ls : List Int32} {rf : Int32} {rz : Int32} {ra : Int32} {rn : Int32} {rq : ab_q} {lt : List Int32} {m1 : Int32} {m2 : Int32} {m3 : Int32} {m4 : Int32} {bd : List Int32} {fc : List Int32} {hd : Nat → Int32} {sz : Nat → Int32} {el : Nat → List Int64} {t : ab_q} {g : Nat → Int32} {fm : List Int32} {hm : List Nat} {so : List Nat} {si : List Nat} {sh : List Int32} {ce : List Int64} {ca : List Int64} {td : List Int32} {wa : List Int32} {kp : List Int32} {la : List Int32} {bf : List Int32} {oo : List Int32} {bo : List Int32} {pw : List Int32} {ow : List Int32} {tr : List Int32}
set_option maxHeartbeats 1000000 in
theorem mrow_l {j o n0 dd : Nat} {r : Option Value × List ab_C} (hj : j < 8) (l_ce : ce.length = 1280) (K : Ef ab_Z0 dd mX6_row (107, [some (.ref 65), some (.int (nI j)), some (.int (nI o)), some (.int (nI n0)), some (.int (nI 160))], [], (ww im lf s d k ls rf rz ra rn rq lt m1 m2 m3 m4 bd fc hd sz el s g fm hm so si sh (zf ce (160 * j) 160) ca td wa kp la bf oo bo pw ow tr)) r) : ∀ m i, i + m = 160 → Ef ab_Z0 dd mX6_row (79, [some (.ref 65), some (.int (nI j)), some (.int (nI o)), some (.int (nI n0)), some (.int (nI i))], [], (ww im lf s d k ls rf rz ra rn rq lt m1 m2 m3 m4 bd fc hd sz el s g fm hm so si sh (zf ce (160 * j) i) ca td wa kp la bf oo bo pw ow tr)) r := by
  intro m
  induction m with
  | zero =>
    intro i hi
    obtain rfl : i = 160 := by omega
    refine E_iload rfl rfl ?_
    refine E_sipush (x := nI 160) rfl (by decide) ?_
    refine E_ic (t := 107) (b := true) rfl rfl (by decide) ?_
    exact K
  | succ m ih =>
    intro i hi
    have hll := zf_len ce (160 * j) i
    have : (zf ce (160 * j) i).length = 1280 := by first | omega | (simp only [List.length_set]; omega)
    refine E_iload rfl rfl ?_
    refine E_sipush (x := nI 160) rfl (by decide) ?_
    refine E_ic (t := 107) (b := false) rfl rfl ((cn_ge (nI_toInt (by omega)) (nI_toInt (by omega))).trans (decide_eq_false (by omega))) ?_
    refine E_aload_n rfl rfl ?_
    refine E_getfield (v := .ref 80) rfl w65 rfl (by decide) rfl ?_
    refine E_sipush (x := nI 160) rfl (by decide) ?_
    refine E_iload_n rfl rfl ?_
    refine E_imul (z := nI (160 * j)) rfl (pk_mul _ _) ?_
    refine E_iload rfl rfl ?_
    refine E_iadd (z := nI ((160 * j) + i)) rfl (nI_add _ _) ?_
    refine E_lconst (x := 0) rfl (by decide) ?_
    refine E_lasL (l := (zf ce (160 * j) i)) (cs2 := (ww im lf s d k ls rf rz ra rn rq lt m1 m2 m3 m4 bd fc hd sz el s g fm hm so si sh ((zf ce (160 * j) i).set ((160 * j) + i) 0) ca td wa kp la bf oo bo pw ow tr)) rfl w80 (by omega) (by omega) rfl ?_
    refine E_iinc (y := nI (i + 1)) (L2 := [some (.ref 65), some (.int (nI j)), some (.int (nI o)), some (.int (nI n0)), some (.int (nI (i + 1)))]) rfl rfl (nI_1 _) rfl ?_
    refine E_goto (t := 79) rfl rfl ?_
    exact ih (i + 1) (by omega)
end MR
