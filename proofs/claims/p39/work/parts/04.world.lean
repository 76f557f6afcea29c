/-! the world, its cells and their places -/
theorem ab_w_get (K : ab_Q) (ad : Nat → Nat) : ∀ (cs : List ab_C) (n q : Nat), (ab_w K ad n cs)[q]? = cs[q]?.map (fun c => (ad (n + q), ab_e K ad c))
  | [], n, q => by simp [ab_w]
  | c :: r, n, 0 => by simp [ab_w]
  | c :: r, n, q + 1 => by
    show (ab_w K ad (n + 1) r)[q]? = _
    rw [ab_w_get K ad r (n + 1) q, show n + 1 + q = n + (q + 1) by omega]
    rfl
theorem ab_w_at {K : ab_Q} {ad : Nat → Nat} {cs : List ab_C} {q : Nat} {c : ab_C} (h : cs[q]? = some c) : (ab_w K ad 0 cs)[q]? = some (ad q, ab_e K ad c) := by
  rw [ab_w_get, h, Nat.zero_add]
  rfl
theorem ab_w_set (K : ab_Q) (ad : Nat → Nat) (c : ab_C) : ∀ (cs : List ab_C) (n q : Nat), (ab_w K ad n cs).set q (ad (n + q), ab_e K ad c) = ab_w K ad n (cs.set q c)
  | [], n, q => by simp [ab_w]
  | d :: r, n, 0 => by simp [ab_w]
  | d :: r, n, q + 1 => by
    show (ad n, ab_e K ad d) :: (ab_w K ad (n + 1) r).set q _ = _
    rw [show n + (q + 1) = n + 1 + q by omega, ab_w_set K ad c r (n + 1) q]
    rfl
theorem ab_w_put (K : ab_Q) (ad : Nat → Nat) (c : ab_C) (cs : List ab_C) (q : Nat) : (ab_w K ad 0 cs).set q (ad q, ab_e K ad c) = ab_w K ad 0 (cs.set q c) := by
  have h := ab_w_set K ad c cs 0 q
  rwa [Nat.zero_add] at h
theorem ab_w_app (K : ab_Q) (ad : Nat → Nat) (ds : List ab_C) : ∀ (cs : List ab_C) (n : Nat), ab_w K ad n (cs ++ ds) = ab_w K ad n cs ++ ab_w K ad (n + cs.length) ds
  | [], n => rfl
  | c :: r, n => by
    show (ad n, ab_e K ad c) :: ab_w K ad (n + 1) (r ++ ds) = _
    rw [ab_w_app K ad ds r (n + 1), show n + 1 + r.length = n + (c :: r).length by simp; omega]
    rfl
theorem ab_v_ext {ad ad' : Nat → Nat} {N : Nat} (h : ∀ k, k < N ∨ 1000000 ≤ k → ad' k = ad k) {v : Value} (hv : ab_fv N v = true) : ab_v ad' v = ab_v ad v := by
  cases v <;> first | rfl | skip
  rename_i k
  show Value.ref (ad' k) = Value.ref (ad k)
  rw [h k (of_decide_eq_true hv)]
theorem ab_e_ext (K : ab_Q) {ad ad' : Nat → Nat} {N : Nat} (h : ∀ k, k < N ∨ 1000000 ≤ k → ad' k = ad k) {c : ab_C} (hc : ab_fc N c = true) : ab_e K ad' c = ab_e K ad c := by
  obtain l | l | l | o := c
  · rfl
  · rfl
  · have hf : (fun j => (l.getD j none).map ad') = (fun j => (l.getD j none).map ad) := by
      funext j
      cases hj : l.getD j none with
      | none => rfl
      | some k =>
        have hm : some k ∈ l := by
          rw [List.getD_eq_getElem?_getD] at hj
          cases hq : l[j]? with
          | none => rw [hq] at hj; cases hj
          | some z => 
            rw [hq] at hj
            have hj : z = some k := hj
            exact hj ▸ List.mem_of_getElem? hq
        have h2 := List.all_eq_true.mp hc (some k) hm
        show some (ad' k) = some (ad k)
        rw [h k (Or.inl (of_decide_eq_true h2))]
    show Sum.inl (K.2.2, l.length, Sum.inr (Sum.inr (Sum.inr (Sum.inr (fun j => (l.getD j none).map ad'))))) = _
    rw [hf]
    rfl
  · show Sum.inr (o.1, o.2.map (ab_v ad')) = Sum.inr (o.1, o.2.map (ab_v ad))
    congr 2
    exact List.map_congr_left (fun v hv => ab_v_ext h (List.all_eq_true.mp hc v hv))
theorem ab_w_ext (K : ab_Q) {ad ad' : Nat → Nat} {N : Nat} (h : ∀ k, k < N ∨ 1000000 ≤ k → ad' k = ad k) : ∀ (cs : List ab_C) (n : Nat), n + cs.length ≤ N → cs.all (ab_fc N) = true → ab_w K ad' n cs = ab_w K ad n cs
  | [], n, _, _ => rfl
  | c :: r, n, hn, hc => by
    have hc := List.all_cons.symm.trans hc
    rw [Bool.and_eq_true] at hc
    have hl : (c :: r).length = r.length + 1 := rfl
    show (ad' n, ab_e K ad' c) :: ab_w K ad' (n + 1) r = (ad n, ab_e K ad c) :: ab_w K ad (n + 1) r
    rw [h n (Or.inl (by omega)), ab_e_ext K h hc.1, ab_w_ext K h r (n + 1) (by omega) hc.2]
theorem ab_st_ext {ad ad' : Nat → Nat} {N : Nat} (h : ∀ k, k < N ∨ 1000000 ≤ k → ad' k = ad k) {st : List Value} (hs : st.all (ab_fv N) = true) : st.map (ab_v ad') = st.map (ab_v ad) :=
  List.map_congr_left (fun v hv => ab_v_ext h (List.all_eq_true.mp hs v hv))
theorem ab_h_ext {ad ad' : Nat → Nat} {N : Nat} (h : ∀ k, k < N ∨ 1000000 ≤ k → ad' k = ad k) {ls : Array Slot} {nL : Nat} {L : ab_L} (hL : ab_h ad ls nL L) (hs : L.all (ab_fo N) = true) : ab_h ad' ls nL L :=
  ⟨hL.1, hL.2.1, hL.2.2.1, fun k v hk => by rw [ab_v_ext h (List.all_eq_true.mp hs (some v) (List.mem_of_getElem? hk))]; exact hL.2.2.2 k v hk⟩
theorem ab_sz_set {cs : List ab_C} {q : Nat} {c d : ab_C} (h : cs[q]? = some c) (hs : ab_sc d = ab_sc c) : ab_sz (cs.set q d) = ab_sz cs := by
  induction cs generalizing q with
  | nil => rfl
  | cons a r ih => 
    cases q with
    | zero => 
      have h : a = c := by simpa using h
      subst h
      show ab_sc d + _ = ab_sc a + _
      rw [hs]
    | succ q => 
      show ab_sc a + ab_sz (r.set q d) = ab_sc a + ab_sz r
      rw [ih (by simpa using h)]
theorem ab_sz_app (cs : List ab_C) (c : ab_C) : ab_sz (cs ++ [c]) = ab_sz cs + ab_sc c := by
  unfold ab_sz
  rw [List.map_append, List.sum_append]
  simp
theorem ab_upI {l : List Int32} {i : Nat} {x : Int32} (h : i < l.length) : upd (fun j => l.getD j 0) i x = fun j => (l.set i x).getD j 0 := by
  funext j
  unfold upd
  by_cases hj : j = i
  · subst hj
    rw [if_pos rfl, List.getD_eq_getElem?_getD, List.getElem?_set_self h]
    rfl
  · rw [if_neg hj]
    show l.getD j 0 = (l.set i x).getD j 0
    rw [List.getD_eq_getElem?_getD, List.getD_eq_getElem?_getD, List.getElem?_set_ne (fun q => hj q.symm)]
theorem ab_upL {l : List Int64} {i : Nat} {x : Int64} (h : i < l.length) : vp_updL (fun j => l.getD j 0) i x = fun j => (l.set i x).getD j 0 := by
  funext j
  unfold vp_updL
  by_cases hj : j = i
  · subst hj
    rw [if_pos rfl, List.getD_eq_getElem?_getD, List.getElem?_set_self h]
    rfl
  · rw [if_neg hj]
    show l.getD j 0 = (l.set i x).getD j 0
    rw [List.getD_eq_getElem?_getD, List.getD_eq_getElem?_getD, List.getElem?_set_ne (fun q => hj q.symm)]
theorem ab_upQ (ad : Nat → Nat) {l : List (Option Nat)} {i : Nat} {x : Nat} (h : i < l.length) : va_up (fun j => (l.getD j none).map ad) i (some (ad x)) = fun j => ((l.set i (some x)).getD j none).map ad := by
  funext j
  unfold va_up
  by_cases hj : j = i
  · subst hj
    rw [if_pos rfl, List.getD_eq_getElem?_getD, List.getElem?_set_self h]
    rfl
  · rw [if_neg hj]
    show (l.getD j none).map ad = ((l.set i (some x)).getD j none).map ad
    rw [List.getD_eq_getElem?_getD, List.getD_eq_getElem?_getD, List.getElem?_set_ne (fun q => hj q.symm)]
theorem ab_cpl {α : Type} {f g : List α} {sp dp n : Nat} (h1 : sp + n ≤ f.length) (h2 : dp + n ≤ g.length) : (ab_cp f g sp dp n).length = g.length := by
  unfold ab_cp
  simp
  omega
theorem ab_cpd {α : Type} {f g : List α} {d : α} {sp dp n : Nat} (h1 : sp + n ≤ f.length) (h2 : dp + n ≤ g.length) : va_cpy (fun j => f.getD j d) (fun j => g.getD j d) sp dp n = fun j => (ab_cp f g sp dp n).getD j d := by
  funext j
  unfold va_cpy ab_cp
  simp only [List.getD_eq_getElem?_getD]
  by_cases h : dp ≤ j ∧ j < dp + n
  · rw [if_pos h, List.getElem?_append_right (by simp; omega), List.getElem?_append_left (by simp; omega), List.getElem?_take_of_lt (by simp; omega), List.getElem?_drop]
    congr 2
    simp
    omega
  · rw [if_neg h]
    by_cases h3 : j < dp
    · rw [List.getElem?_append_left (by simp; omega), List.getElem?_take_of_lt h3]
    · rw [List.getElem?_append_right (by simp; omega), List.getElem?_append_right (by simp; omega), List.getElem?_drop]
      congr 2
      simp
      omega
theorem ab_dfl (ad : Nat → Nat) (ty : Nat → FieldType) (N : Nat) : (ab_df ty N).map (ab_v ad) = ab_df ty N := by
  unfold ab_df
  rw [List.map_map]
  refine List.map_congr_left (fun j _ => ?_)
  show ab_v ad (defaultValue (ty j)) = defaultValue (ty j)
  cases ty j <;> rfl
theorem ab_dfv (ty : Nat → FieldType) (N : Nat) : ∀ j, j < N → defaultValue (ty j) = vp_V (ab_df ty N) j := by
  intro j hj
  unfold vp_V ab_df
  rw [List.getD_eq_getElem?_getD, List.getElem?_map, List.getElem?_range hj]
  rfl
theorem ab_ft_n {ty : FieldType} {v : Value} (h : ab_ft ty v = true) (ad : Nat → Nat) : narrow ty (ab_v ad v) = ab_v ad v ∧ fits ty (ab_v ad v) = true := by
  unfold ab_ft at h
  split at h
  · exact ⟨rfl, rfl⟩
  · exact ⟨rfl, rfl⟩
  · rename_i x
    have h : x = 0 ∨ x = 1 := by simpa using h
    rcases h with rfl | rfl
    · exact ⟨show narrow .boolean (.int 0) = .int 0 by decide, show fits .boolean (.int 0) = true by decide⟩
    · exact ⟨show narrow .boolean (.int 1) = .int 1 by decide, show fits .boolean (.int 1) = true by decide⟩
  · exact ⟨rfl, rfl⟩
  · exact ⟨rfl, rfl⟩
  · exact ⟨rfl, rfl⟩
  · exact ⟨rfl, rfl⟩
  · cases h
/-! the words that a step rests on -/
def ab_wd (Sl : List (String × String)) (M : List ab_D) (G : Nat → Option ab_T) (own : String) (ins : Instr) (k : ab_K) : List Jvm.Cond := match ins with
  | .getfield i => (match G k.2.1 with
    | some (_, T, _, _) => [.fieldLink own i (T k.2.2).1 (T k.2.2).2.1 (T k.2.2).2.2.1]
    | none => [])
  | .putfield i => (match G k.2.1 with
    | some (_, T, _, _) => [.fieldLink own i (T k.2.2).1 (T k.2.2).2.1 (T k.2.2).2.2.1]
    | none => [])
  | .new i => (match G k.2.1 with
    | some (C, _, N, _) => [.classLink own i C, .instantiable C N, .initialized C]
    | none => [])
  | .anewarray i => (match G k.2.1 with
    | some (C, _, _, _) => [.classLink own i C]
    | none => [])
  | .newarray ty => [.arrayClass (newarray.typeOf ty)]
  | .ldc i => if k.1 = 10 then [.constant own i (Int32.ofNat k.2.1)] else []
  | .ldc_w i => if k.1 = 10 then [.constant own i (Int32.ofNat k.2.1)] else []
  | .ldc2_w i => if k.1 = 11 then [.constantLong own i (Int64.ofNat k.2.1)] else []
  | .getstatic i => if k.1 = 13 then (match Sl[k.2.1]? with
    | some q => [.fieldLink own i q.1 q.2 "[I"]
    | none => []) else []
  | .invokestatic i => if k.1 = 7 then [.methodLink own i Lib.Math.max.name, .static Lib.Math.max.name, .initialized "java/lang/Math", .code Lib.Math.max.name Lib.Math.max.code 2 (some .int)]
    else if k.1 = 8 then [.methodLink own i Lib.Math.min.name, .static Lib.Math.min.name, .initialized "java/lang/Math", .code Lib.Math.min.name Lib.Math.min.code 2 (some .int)]
    else if k.1 = 9 then [.methodLink own i arraycopyName, .native arraycopyName, .static arraycopyName, .initialized "java/lang/System"]
    else (match M[k.2.1]? with
      | some md => [.methodLink own i md.1, .static md.1, .initialized md.1.cls]
      | none => [])
  | .invokevirtual i => if k.1 = 17 then wsV own i "java/lang/String" tx_len tx_lenW else if k.1 = 18 then wsV own i "java/lang/String" tx_chr tx_chrW else (match M[k.2.1]? with
    | some md => [.methodLink own i md.1, .instanceMethod md.1, .selects md.1.cls md.1 md.1, .initialized md.1.cls]
    | none => [])
  | .invokespecial i => if k.1 = 6 then [.methodLink own i objectInit, .instanceMethod objectInit, .code objectInit ⟨#[0xb1]⟩ 1 none]
    else if k.1 = 15 then (match M[k.2.1]? with
      | some md => [.instanceMethod md.1, .initialized md.1.cls]
      | none => [])
    else (match M[k.2.1]? with
      | some md => [.methodLink own i md.1, .instanceMethod md.1, .initialized md.1.cls]
      | none => [])
  | _ => []
/-- the links of nest mates that a step rests on -/
abbrev ab_N : Type := List (String × Nat × MethodName × String)
/-- the class of ab_Z, the links of nest mates, the arrays that stay, the static fields that hold them -/
abbrev ab_X : Type := String × ab_N × List (List Int32) × List (String × String)
def ab_nd (Nl : ab_N) (Sl : List (String × String)) (M : List ab_D) (own : String) (ins : Instr) (k : ab_K) : Prop := (∀ i my, ins = .invokespecial i → k.1 = 15 → M[k.2.1]? = some my → ∃ host : String, (own, i, my.1, host) ∈ Nl) ∧ (∀ i, ins = .getstatic i → k.1 = 13 → ¬ Sl[k.2.1]? = none) ∧ ∀ i, ins = .ldc i → k.1 = 16 → ∃ tx : String, (own, i, tx, k.2.1) ∈ tx_R
