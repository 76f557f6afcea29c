/-! Square's grant; by program (wip/tools/gt.py) -/
/-- the square with these places -/
def qPl (s : ab_q) (l : List Nat) : ab_q := (qK s, qA s, qB s, l, qU s, qL s, qW s, qG s, qC s, qN s, qM s, qR s, qY s, qD s, qS s)
/-- places, with the pieces of m among the first i at p -/
def qGP (l : List Nat) (p m : Nat) : Nat → List Nat
  | 0 => l
  | i + 1 => if qBit m i = 1 then (qGP l p m i).set i p else qGP l p m i
theorem qGP_len (l : List Nat) (p m : Nat) : ∀ i, (qGP l p m i).length = l.length
  | 0 => rfl
  | i + 1 => by
    have := qGP_len l p m i
    show (if _ then _ else _ : List Nat).length = _
    split
    · rw [List.length_set]
      exact this
    · exact this
theorem qGP_1 {l : List Nat} {p m i : Nat} (e : qBit m i = 1) : qGP l p m (i + 1) = (qGP l p m i).set i p := if_pos e
theorem qGP_0 {l : List Nat} {p m i : Nat} (e : qBit m i = 0) : qGP l p m (i + 1) = qGP l p m i := if_neg (by omega)
theorem qPl_self (s : ab_q) : qPl s (qP s) = s := rfl
theorem sq_pl_v {cs : List ab_C} {b : Nat} {s : ab_q} {l l2 : List Nat} (h : qAt cs b (qPl s l)) (hl : l2.length = l.length) : qAt (cs.set (b + 4) (.inl (l2.map nI))) b (qPl s l2) ∧ ab_Up b (b + 10) cs (cs.set (b + 4) (.inl (l2.map nI))) := by
  obtain ⟨h0, h1, h2, h3, h4, h5, h6, h7, h8, h9⟩ := h
  exact ⟨⟨(ab_gne h0 (by omega)), (ab_gne h1 (by omega)), (ab_gne h2 (by omega)), (ab_gne h3 (by omega)), (ab_geq h4), (ab_gne h5 (by omega)), (ab_gne h6 (by omega)), (ab_gne h7 (by omega)), (ab_gne h8 (by omega)), (ab_gne h9 (by omega))⟩, ab_Up.put ab_Up.rfl ⟨by omega, by omega⟩ h4 (by show List.length (l.map nI) = List.length (l2.map nI); rw [List.length_map, List.length_map, hl])⟩
theorem sq_grant_l {b : Nat} {s : ab_q} {p n0 m : Nat} (I : qI s) (hm : m < 2 ^ 31) (hp : p < 2 ^ 31) : ∀ n i cs, i + n = qN s → qAt cs b (qPl s (qGP (qP s) p m i)) → ∃ cs2, Ef ab_Z0 1 mX4_grant (33, [some (.ref b), some (.int (nI p)), some (.int (nI n0)), some (.int (nI m)), some (.int (nI i))], [], cs) (none, cs2) ∧ qAt cs2 b (qPl s (qGP (qP s) p m (qN s))) ∧ ab_Up b (b + 10) cs cs2 := by
  obtain ⟨⟨i0, i1, i2, i3⟩, ⟨i4, i5, i6, i7, i8⟩, ⟨i9, i10⟩, I1, I2, I3, I4⟩ := id I
  intro n
  induction n with
  | zero =>
    intro i cs hi h
    obtain rfl : i = qN s := by omega
    refine ⟨cs, ?_, h, ab_Up.rfl⟩
    obtain ⟨h0, h1, h2, h3, h4, h5, h6, h7, h8, h9⟩ := h
    refine E_iload rfl rfl ?_
    refine E_aload_n rfl rfl ?_
    refine E_getfield (v := .int (nI (qN s))) rfl h0 rfl (by decide) rfl ?_
    refine E_ic (t := 65) (b := true) rfl rfl ((cn_geN (by omega) (by omega)).trans (decide_eq_true (by omega))) ?_
    exact E_vret rfl rfl
  | succ n ih =>
    intro i cs hi h
    have hlen := qGP_len (qP s) p m i
    rcases qBit2 m i with e | e
    · obtain ⟨cs2, E, q1, q2⟩ := ih (i + 1) cs (by omega) (by rw [qGP_0 e]; exact h)
      refine ⟨cs2, ?_, q1, q2⟩
      obtain ⟨h0, h1, h2, h3, h4, h5, h6, h7, h8, h9⟩ := h
      refine E_iload rfl rfl ?_
      refine E_aload_n rfl rfl ?_
      refine E_getfield (v := .int (nI (qN s))) rfl h0 rfl (by decide) rfl ?_
      refine E_ic (t := 65) (b := false) rfl rfl ((cn_geN (by omega) (by omega)).trans (decide_eq_false (by omega))) ?_
      refine E_iload_n rfl rfl ?_
      refine E_iload rfl rfl ?_
      refine E_callS (v := some (.int (nI 0))) (As := [.int (nI m), .int (nI i)]) (r0 := []) (cs2 := cs) rfl rfl rfl (Nat.le_of_ble_eq_true rfl) rfl (e ▸ sq_isBit hm (by omega)) (by decide) rfl ?_
      refine E_if (t := 59) (b := true) rfl rfl (by decide) ?_
      refine E_iinc (y := nI (i + 1)) (L2 := [some (.ref b), some (.int (nI p)), some (.int (nI n0)), some (.int (nI m)), some (.int (nI (i + 1)))]) rfl rfl (nI_1 _) rfl ?_
      refine E_goto (t := 33) rfl rfl ?_
      exact E
    · have hv := sq_pl_v (l2 := (qGP (qP s) p m i).set i p) h List.length_set
      obtain ⟨cs2, E, q1, q2⟩ := ih (i + 1) _ (by omega) (by rw [qGP_1 e]; exact hv.1)
      refine ⟨cs2, ?_, q1, hv.2.trans q2⟩
      obtain ⟨h0, h1, h2, h3, h4, h5, h6, h7, h8, h9⟩ := h
      have h4 : cs[b + 4]? = some (.inl ((qGP (qP s) p m i).map nI)) := h4
      refine E_iload rfl rfl ?_
      refine E_aload_n rfl rfl ?_
      refine E_getfield (v := .int (nI (qN s))) rfl h0 rfl (by decide) rfl ?_
      refine E_ic (t := 65) (b := false) rfl rfl ((cn_geN (by omega) (by omega)).trans (decide_eq_false (by omega))) ?_
      refine E_iload_n rfl rfl ?_
      refine E_iload rfl rfl ?_
      refine E_callS (v := some (.int (nI 1))) (As := [.int (nI m), .int (nI i)]) (r0 := []) (cs2 := cs) rfl rfl rfl (Nat.le_of_ble_eq_true rfl) rfl (e ▸ sq_isBit hm (by omega)) (by decide) rfl ?_
      refine E_if (t := 59) (b := false) rfl rfl (by decide) ?_
      refine E_aload_n rfl rfl ?_
      refine E_getfield (v := .ref (b + 4)) rfl h0 rfl (by decide) rfl ?_
      refine E_iload rfl rfl ?_
      refine E_iload_n rfl rfl ?_
      refine E_iasN (cs2 := (cs.set (b + 4) (.inl (((qGP (qP s) p m i).set i p).map nI)))) rfl h4 (by omega) (by omega) rfl ?_
      refine E_iinc (y := nI (i + 1)) (L2 := [some (.ref b), some (.int (nI p)), some (.int (nI n0)), some (.int (nI m)), some (.int (nI (i + 1)))]) rfl rfl (nI_1 _) rfl ?_
      refine E_goto (t := 33) rfl rfl ?_
      exact E
