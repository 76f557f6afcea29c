/-! draw, of both classes; by program (wip/tools/dr.py) -/
def qSd (s : ab_q) : Int32 := qS s * nI 1103515245 + nI 12345
/-- the square with this seed -/
def qSeed (s : ab_q) (v : Int32) : ab_q := (qK s, qA s, qB s, qP s, qU s, qL s, qW s, qG s, qC s, qN s, qM s, qR s, qY s, qD s, v)
def qDr (s : ab_q) (n : Nat) : Nat := (qSd s).toBitVec.toNat / 65536 % n
theorem qSd_lt (s : ab_q) : (qSd s).toBitVec.toNat / 65536 < 65536 := by
  have := (qSd s).toBitVec.isLt
  omega
theorem qSd_sh (s : ab_q) : ((qSd s).toUInt32 >>> ((nI 16).toUInt32 &&& Int32.toUInt32 31)).toInt32 = nI ((qSd s).toBitVec.toNat / 65536) := by
  have := pk_ushrN (n := (qSd s).toBitVec.toNat) (BitVec.isLt _) (nI 16) 16 (by decide)
  rw [ab_nIt] at this
  exact this
theorem sq_draw_v {cs : List ab_C} {b : Nat} {s : ab_q} (v : Int32) (h : qAt cs b s) : qAt (cs.set b (.inr (.inr (.inr (4, [.ref (b + 1), .ref (b + 2), .ref (b + 3), .ref (b + 4), .ref (b + 5), .ref (b + 6), .ref (b + 7), .ref (b + 8), .ref (b + 9), .int (nI (qN s)), .int (nI (qM s)), .int (qR s), .int (qY s), .int (qD s), .int v]))))) b (qSeed s v) ∧ ab_Up b (b + 10) cs (cs.set b (.inr (.inr (.inr (4, [.ref (b + 1), .ref (b + 2), .ref (b + 3), .ref (b + 4), .ref (b + 5), .ref (b + 6), .ref (b + 7), .ref (b + 8), .ref (b + 9), .int (nI (qN s)), .int (nI (qM s)), .int (qR s), .int (qY s), .int (qD s), .int v]))))) := by
  obtain ⟨h0, h1, h2, h3, h4, h5, h6, h7, h8, h9⟩ := h
  exact ⟨⟨(ab_geq h0), (ab_gne h1 (by omega)), (ab_gne h2 (by omega)), (ab_gne h3 (by omega)), (ab_gne h4 (by omega)), (ab_gne h5 (by omega)), (ab_gne h6 (by omega)), (ab_gne h7 (by omega)), (ab_gne h8 (by omega)), (ab_gne h9 (by omega))⟩, ab_Up.put ab_Up.rfl ⟨by omega, by omega⟩ h0 rfl⟩
theorem sq_draw {cs : List ab_C} {b : Nat} {s : ab_q} {n : Nat} (h : qAt cs b s) (I : qI s) (hn : 1 ≤ n) (hn2 : n < 2 ^ 31) : ∃ cs2, Ev ab_Z0 1 72 [.ref b, .int (nI n)] cs (some (.int (nI (qDr s n))), cs2) ∧ qAt cs2 b (qSeed s (qSd s)) ∧ ab_Up b (b + 10) cs cs2 := by
  have hv := sq_draw_v (qSd s) h
  obtain ⟨h0, h1, h2, h3, h4, h5, h6, h7, h8, h9⟩ := h
  obtain ⟨⟨i0, i1, i2, i3⟩, ⟨i4, i5, i6, i7, i8⟩, ⟨i9, i10⟩, I1, I2, I3, I4⟩ := id I
  have hd := qSd_lt s
  refine ⟨_, ?_, hv⟩
  refine Ef.in (md := mX4_draw) (L := [some (.ref b), some (.int (nI n))]) rfl (Nat.le_of_ble_eq_true rfl) rfl ?_
  refine E_iload_n rfl rfl ?_
  refine E_iconst (x := nI 1) rfl (by decide) ?_
  refine E_ic (t := 7) (b := true) rfl rfl ((cn_geN (by omega) (by omega)).trans (decide_eq_true (by omega))) ?_
  refine E_aload_n rfl rfl ?_
  refine E_aload_n rfl rfl ?_
  refine E_getfield (v := .int (qS s)) rfl h0 rfl (by decide) rfl ?_
  refine E_ldc (x := nI 1103515245) rfl (by decide) ?_
  refine E_imul (z := (qS s) * (nI 1103515245)) rfl rfl ?_
  refine E_sipush (x := nI 12345) rfl (by decide) ?_
  refine E_iadd (z := (qSd s)) rfl rfl ?_
  refine E_putfield (cs2 := (cs.set b (.inr (.inr (.inr (4, [.ref (b + 1), .ref (b + 2), .ref (b + 3), .ref (b + 4), .ref (b + 5), .ref (b + 6), .ref (b + 7), .ref (b + 8), .ref (b + 9), .int (nI (qN s)), .int (nI (qM s)), .int (qR s), .int (qY s), .int (qD s), .int (qSd s)])))))) rfl h0 rfl (by decide) (Nat.le_of_ble_eq_true rfl) rfl rfl rfl rfl ?_
  refine E_aload_n rfl rfl ?_
  refine E_getfield (v := .int (qSd s)) rfl (ab_geq h0) rfl (by decide) rfl ?_
  refine E_bipush (x := nI 16) rfl (by decide) ?_
  refine E_iushr (z := nI ((qSd s).toBitVec.toNat / 65536)) rfl (qSd_sh s) ?_
  refine E_iload_n rfl rfl ?_
  refine E_irem (z := nI (qDr s n)) rfl (nI_ne0 (by omega) (by omega)) (pk_rem (by omega) (by omega) (by omega)) ?_
  exact E_iret rfl rfl
theorem mo_draw_v {cs : List ab_C} {g : Nat → Int32} {s : ab_q} (v : Int32) (h : mAt cs s g) : mAt (cs.set 65 (.inr (.inr (.inr (6, [.int (nI (qN s)), .int (nI (qM s)), .int (qR s), .int (qY s), .int (qD s), .int v, .int (g 6), .ref 66, .ref 67, .ref 68, .ref 69, .ref 70, .ref 71, .ref 72, .ref 73, .ref 74, .ref 75, .ref 76, .ref 77, .ref 78, .ref 79, .ref 80, .ref 81, .ref 82, .ref 83, .ref 84, .ref 85, .int (g 27), .int (g 28), .int (g 29), .int (g 30), .int (g 31), .ref 86, .ref 87, .ref 88, .ref 89, .int (g 36), .int (g 37), .ref 90, .ref 91, .ref 92, .ref 93, .int (g 42), .int (g 43), .int (g 44), .int (g 45), .ref 94, .int (g 47), .int (g 48)]))))) (qSeed s v) g ∧ ab_Up 65 95 cs (cs.set 65 (.inr (.inr (.inr (6, [.int (nI (qN s)), .int (nI (qM s)), .int (qR s), .int (qY s), .int (qD s), .int v, .int (g 6), .ref 66, .ref 67, .ref 68, .ref 69, .ref 70, .ref 71, .ref 72, .ref 73, .ref 74, .ref 75, .ref 76, .ref 77, .ref 78, .ref 79, .ref 80, .ref 81, .ref 82, .ref 83, .ref 84, .ref 85, .int (g 27), .int (g 28), .int (g 29), .int (g 30), .int (g 31), .ref 86, .ref 87, .ref 88, .ref 89, .int (g 36), .int (g 37), .ref 90, .ref 91, .ref 92, .ref 93, .int (g 42), .int (g 43), .int (g 44), .int (g 45), .ref 94, .int (g 47), .int (g 48)]))))) := by
  obtain ⟨h0, h1, h2, h3, h4, h5, h6, h7, h8, h9⟩ := h
  exact ⟨⟨(ab_geq h0), (ab_gne h1 (by omega)), (ab_gne h2 (by omega)), (ab_gne h3 (by omega)), (ab_gne h4 (by omega)), (ab_gne h5 (by omega)), (ab_gne h6 (by omega)), (ab_gne h7 (by omega)), (ab_gne h8 (by omega)), (ab_gne h9 (by omega))⟩, ab_Up.put ab_Up.rfl ⟨by omega, by omega⟩ h0 rfl⟩
theorem mo_draw {cs : List ab_C} {g : Nat → Int32} {s : ab_q} {n : Nat} (h : mAt cs s g) (I : qI s) (hn : 1 ≤ n) (hn2 : n < 2 ^ 31) : ∃ cs2, Ev ab_Z0 1 199 [.ref 65, .int (nI n)] cs (some (.int (nI (qDr s n))), cs2) ∧ mAt cs2 (qSeed s (qSd s)) g ∧ ab_Up 65 95 cs cs2 := by
  have hv := mo_draw_v (qSd s) h
  obtain ⟨h0, h1, h2, h3, h4, h5, h6, h7, h8, h9⟩ := h
  obtain ⟨⟨i0, i1, i2, i3⟩, ⟨i4, i5, i6, i7, i8⟩, ⟨i9, i10⟩, I1, I2, I3, I4⟩ := id I
  have hd := qSd_lt s
  refine ⟨_, ?_, hv⟩
  refine Ef.in (md := mX6_draw) (L := [some (.ref 65), some (.int (nI n))]) rfl (Nat.le_of_ble_eq_true rfl) rfl ?_
  refine E_aload_n rfl rfl ?_
  refine E_aload_n rfl rfl ?_
  refine E_getfield (v := .int (qS s)) rfl h0 rfl (by decide) rfl ?_
  refine E_ldc_w (x := nI 1103515245) rfl (by decide) ?_
  refine E_imul (z := (qS s) * (nI 1103515245)) rfl rfl ?_
  refine E_sipush (x := nI 12345) rfl (by decide) ?_
  refine E_iadd (z := (qSd s)) rfl rfl ?_
  refine E_putfield (cs2 := (cs.set 65 (.inr (.inr (.inr (6, [.int (nI (qN s)), .int (nI (qM s)), .int (qR s), .int (qY s), .int (qD s), .int (qSd s), .int (g 6), .ref 66, .ref 67, .ref 68, .ref 69, .ref 70, .ref 71, .ref 72, .ref 73, .ref 74, .ref 75, .ref 76, .ref 77, .ref 78, .ref 79, .ref 80, .ref 81, .ref 82, .ref 83, .ref 84, .ref 85, .int (g 27), .int (g 28), .int (g 29), .int (g 30), .int (g 31), .ref 86, .ref 87, .ref 88, .ref 89, .int (g 36), .int (g 37), .ref 90, .ref 91, .ref 92, .ref 93, .int (g 42), .int (g 43), .int (g 44), .int (g 45), .ref 94, .int (g 47), .int (g 48)])))))) rfl h0 rfl (by decide) (Nat.le_of_ble_eq_true rfl) rfl rfl rfl rfl ?_
  refine E_aload_n rfl rfl ?_
  refine E_getfield (v := .int (qSd s)) rfl (ab_geq h0) rfl (by decide) rfl ?_
  refine E_bipush (x := nI 16) rfl (by decide) ?_
  refine E_iushr (z := nI ((qSd s).toBitVec.toNat / 65536)) rfl (qSd_sh s) ?_
  refine E_iload_n rfl rfl ?_
  refine E_irem (z := nI (qDr s n)) rfl (nI_ne0 (by omega) (by omega)) (pk_rem (by omega) (by omega) (by omega)) ?_
  exact E_iret rfl rfl
