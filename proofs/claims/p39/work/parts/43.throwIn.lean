/-! Square's throwIn; by program (wip/tools/ti.py) -/
/-- the square with piece x at v -/
def qPut (s : ab_q) (x v : Nat) : ab_q := (qK s, qA s, qB s, (qP s).set x v, qU s, qL s, qW s, qG s, qC s, qN s, qM s, qR s, qY s, qD s, qS s)
theorem sq_put_v {cs : List ab_C} {b : Nat} {s : ab_q} (x v : Nat) (h : qAt cs b s) : qAt (cs.set (b + 4) (.inl (((qP s).set x v).map nI))) b (qPut s x v) ∧ ab_Up b (b + 10) cs (cs.set (b + 4) (.inl (((qP s).set x v).map nI))) := by
  obtain ⟨h0, h1, h2, h3, h4, h5, h6, h7, h8, h9⟩ := h
  exact ⟨⟨(ab_gne h0 (by omega)), (ab_gne h1 (by omega)), (ab_gne h2 (by omega)), (ab_gne h3 (by omega)), (ab_geq h4), (ab_gne h5 (by omega)), (ab_gne h6 (by omega)), (ab_gne h7 (by omega)), (ab_gne h8 (by omega)), (ab_gne h9 (by omega))⟩, ab_Up.put ab_Up.rfl ⟨by omega, by omega⟩ h4 (by show List.length _ = List.length _; simp)⟩
def qThrowIn (s : ab_q) (p x : Nat) : ab_q := if x < qN s ∧ (qP s).getD x 0 = p then qPut s x 99 else s
theorem sq_throwIn {cs : List ab_C} {b : Nat} {s : ab_q} {p x : Nat} (h : qAt cs b s) (I : qI s) (hp : p < 2 ^ 31) (hx2 : x < 2 ^ 31) : ∃ cs2, Ev ab_Z0 2 74 [.ref b, .int (nI p), .int (nI x)] cs (none, cs2) ∧ qAt cs2 b (qThrowIn s p x) ∧ ab_Up b (b + 10) cs cs2 := by
  have hh := h
  have hv := sq_put_v x 99 h
  obtain ⟨h0, h1, h2, h3, h4, h5, h6, h7, h8, h9⟩ := h
  obtain ⟨⟨i0, i1, i2, i3⟩, ⟨i4, i5, i6, i7, i8⟩, ⟨i9, i10⟩, I1, I2, I3, I4⟩ := id I
  have h := hh
  by_cases hx : x < qN s
  · have J := I1 x hx
    by_cases e : (qP s).getD x 0 = p
    · rw [show qThrowIn s p x = qPut s x 99 from if_pos ⟨hx, e⟩]
      refine ⟨_, ?_, hv⟩
      refine Ef.in (md := mX4_throwIn) (L := [some (.ref b), some (.int (nI p)), some (.int (nI x))]) rfl (Nat.le_of_ble_eq_true rfl) rfl ?_
      refine E_aload_n rfl rfl ?_
      refine E_iload_n rfl rfl ?_
      refine E_callV (v := some (.int (nI 1))) (As := [.ref b, .int (nI x)]) (r0 := []) (cs2 := cs) rfl rfl rfl (Nat.le_of_ble_eq_true rfl) rfl (ab_rvOf h0 rfl) (sq_isPiece_in h I hx) (by decide) rfl ?_
      refine E_if (t := 26) (b := false) rfl rfl (by decide) ?_
      refine E_aload_n rfl rfl ?_
      refine E_getfield (v := .ref (b + 4)) rfl h0 rfl (by decide) rfl ?_
      refine E_iload_n rfl rfl ?_
      refine E_ialN (v := (qP s).getD x 0) rfl h4 (by omega) (by omega) rfl ?_
      refine E_iload_n rfl rfl ?_
      refine E_ic (t := 26) (b := false) rfl rfl ((cn_neN (by omega) (by omega)).trans (decide_eq_false (by omega))) ?_
      refine E_aload_n rfl rfl ?_
      refine E_getfield (v := .ref (b + 4)) rfl h0 rfl (by decide) rfl ?_
      refine E_iload_n rfl rfl ?_
      refine E_bipush (x := nI 99) rfl (by decide) ?_
      refine E_iasN (cs2 := (cs.set (b + 4) (.inl (((qP s).set x 99).map nI)))) rfl h4 (by omega) (by omega) rfl ?_
      exact E_vret rfl rfl
    · rw [show qThrowIn s p x = s from if_neg (fun q => e q.2)]
      refine ⟨cs, ?_, h, ab_Up.rfl⟩
      refine Ef.in (md := mX4_throwIn) (L := [some (.ref b), some (.int (nI p)), some (.int (nI x))]) rfl (Nat.le_of_ble_eq_true rfl) rfl ?_
      refine E_aload_n rfl rfl ?_
      refine E_iload_n rfl rfl ?_
      refine E_callV (v := some (.int (nI 1))) (As := [.ref b, .int (nI x)]) (r0 := []) (cs2 := cs) rfl rfl rfl (Nat.le_of_ble_eq_true rfl) rfl (ab_rvOf h0 rfl) (sq_isPiece_in h I hx) (by decide) rfl ?_
      refine E_if (t := 26) (b := false) rfl rfl (by decide) ?_
      refine E_aload_n rfl rfl ?_
      refine E_getfield (v := .ref (b + 4)) rfl h0 rfl (by decide) rfl ?_
      refine E_iload_n rfl rfl ?_
      refine E_ialN (v := (qP s).getD x 0) rfl h4 (by omega) (by omega) rfl ?_
      refine E_iload_n rfl rfl ?_
      refine E_ic (t := 26) (b := true) rfl rfl ((cn_neN (by omega) (by omega)).trans (decide_eq_true (by omega))) ?_
      exact E_vret rfl rfl
  · rw [show qThrowIn s p x = s from if_neg (fun q => hx q.1)]
    refine ⟨cs, ?_, h, ab_Up.rfl⟩
    refine Ef.in (md := mX4_throwIn) (L := [some (.ref b), some (.int (nI p)), some (.int (nI x))]) rfl (Nat.le_of_ble_eq_true rfl) rfl ?_
    refine E_aload_n rfl rfl ?_
    refine E_iload_n rfl rfl ?_
    refine E_callV (v := some (.int (nI 0))) (As := [.ref b, .int (nI x)]) (r0 := []) (cs2 := cs) rfl rfl rfl (Nat.le_of_ble_eq_true rfl) rfl (ab_rvOf h0 rfl) (sq_isPiece_out h I (by omega) hx2) (by decide) rfl ?_
    refine E_if (t := 26) (b := true) rfl rfl (by decide) ?_
    exact E_vret rfl rfl
