/-! the reference's greedyFor; by program (wip/tools/mg.py) -/
theorem qMany_pos {u k : Nat} (h : qBit u k = 1) : ∀ i, k < i → 1 ≤ qMany u i
  | 0, q => by omega
  | i + 1, q => by
    show 1 ≤ qMany u i + qBit u i
    by_cases e : k = i
    · subst e
      rw [h]
      exact Nat.le_add_left _ _
    · have := qMany_pos h i (by omega)
      exact Nat.le_trans this (Nat.le_add_right _ _)
theorem qMany_le {u v : Nat} (h : ∀ x, x < 9 → qBit v x ≤ qBit u x) : ∀ i, i ≤ 9 → qMany v i ≤ qMany u i
  | 0, _ => Nat.le_refl _
  | i + 1, q => Nat.add_le_add (qMany_le h i (by omega)) (h i (by omega))
theorem qMany_lt {u v k : Nat} (h : ∀ x, x < 9 → qBit v x ≤ qBit u x) (h1 : qBit v k < qBit u k) : ∀ i, i ≤ 9 → k < i → qMany v i < qMany u i
  | 0, _, q => by omega
  | i + 1, q, hk => by
    by_cases e : k = i
    · subst e
      exact Nat.add_lt_add_of_le_of_lt (qMany_le h k (by omega)) h1
    · exact Nat.add_lt_add_of_lt_of_le (qMany_lt h h1 i (by omega) (by omega)) (h i (by omega))
theorem qBit_or {m k x : Nat} : qBit (m ||| 2 ^ k) x = 1 ↔ qBit m x = 1 ∨ k = x := by
  rw [qBit_t, qBit_t, Nat.testBit_or, Nat.testBit_two_pow]
  simp
theorem ab_addor {m k : Nat} (h : qBit m k = 0) : nI m + nI (2 ^ k) = nI (m ||| 2 ^ k) := by
  rw [← ab_or]
  apply Int32.toBitVec_inj.mp
  rw [Int32.toBitVec_add, Int32.toBitVec_or]
  apply BitVec.add_eq_or_of_and_eq_zero
  apply BitVec.eq_of_getLsbD_eq
  intro i hi
  show (BitVec.ofNat 32 m &&& BitVec.ofNat 32 (2 ^ k)).getLsbD i = _
  rw [BitVec.getLsbD_and, BitVec.getLsbD_ofNat, BitVec.getLsbD_ofNat, Nat.testBit_two_pow]
  by_cases e : k = i
  · subst e
    have : ¬ m.testBit k = true := fun q => by
      have := (qBit_t m k).mpr q
      omega
    simp [this]
  · simp [e]
theorem qPs_bit {s : ab_q} {w : Nat} : ∀ i x, x < i → (qBit (qPs s w i) x = 1 ↔ (qP s).getD x 0 = w)
  | 0, x, h => by omega
  | i + 1, x, h => by
    have hl := qPs_lt s w i
    have e : qPs s w (i + 1) = (if (qP s).getD i 0 = w then qPs s w i ||| 2 ^ i else qPs s w i) := by
      show qPs s w i + (if (qP s).getD i 0 = w then 2 ^ i else 0) = _
      split
      · have := Nat.two_pow_add_eq_or_of_lt hl 1
        rw [Nat.mul_one] at this
        rw [Nat.add_comm, this, Nat.or_comm]
      · rfl
    have hz : qBit (qPs s w i) i = 0 := by
      unfold qBit
      rw [Nat.div_eq_of_lt hl]
    rw [e]
    by_cases q : x = i
    · subst q
      split
      · rename_i z
        rw [qBit_or]
        exact ⟨fun _ => z, fun _ => Or.inr rfl⟩
      · rename_i z
        rw [hz]
        exact ⟨fun y => by omega, fun y => absurd y z⟩
    · have ih := qPs_bit (s := s) (w := w) i x (by omega)
      split
      · rw [qBit_or, ih]
        exact ⟨fun y => y.elim id (fun y => absurd y.symm q), Or.inl⟩
      · exact ih
/-- what is free: in the basin, and not in m -/
def qFree (s : ab_q) (u m : Nat) : Prop := ∀ x, x < qN s → (qBit u x = 1 ↔ (qP s).getD x 0 = 99 ∧ qBit m x = 0)
theorem qFree_step {s : ab_q} {u m k : Nat} (I : qI s) (hu : u < 512) (hm : m ||| 2 ^ k < 512) (h : qFree s u m) : qFree s (qAn u (m ||| 2 ^ k)) (m ||| 2 ^ k) := by
  obtain ⟨-, -, ⟨i9, -⟩, -⟩ := I
  intro x hx
  rw [qAn_bit hu hm (by omega), h x hx]
  have a := @qBit_or m k x
  have b := qBit2 m x
  have c := qBit2 (m ||| 2 ^ k) x
  constructor
  · exact fun q => ⟨q.1.1, q.2⟩
  · intro q
    refine ⟨⟨q.1, ?_⟩, q.2⟩
    rcases b with b | b
    · exact b
    · have := a.mpr (Or.inl b)
      omega
theorem mo_pick_l {cs : List ab_C} {s : ab_q} {g : Nat → Int32} {c l u m : Nat} {r : Option Value × List ab_C} (h : mAt cs s g) (I : qI s) (hl : l < 2 ^ 31) (hm : m < 512) (hf : qFree s u m) (K : Ef ab_Z0 1 mX6_greedyFor (89, [some (.ref 65), some (.int (nI c)), some (.int (nI l)), some (.int (nI m)), some (.int (qE (qPk s l u (qN s)))), some (.int (nI (qN s)))], [], cs) r) : ∀ n i, i + n = qN s → Ef ab_Z0 1 mX6_greedyFor (14, [some (.ref 65), some (.int (nI c)), some (.int (nI l)), some (.int (nI m)), some (.int (qE (qPk s l u i))), some (.int (nI i))], [], cs) r := by
  have hh := h
  obtain ⟨h0, h1, h2, h3, h4, h5, h6, h7, h8, h9⟩ := h
  obtain ⟨⟨i0, i1, i2, i3⟩, ⟨i4, i5, i6, i7, i8⟩, ⟨i9, i10⟩, I1, I2, I3, I4⟩ := id I
  have h := hh
  intro n
  induction n with
  | zero =>
    intro i hi
    obtain rfl : i = qN s := by omega
    refine E_iload rfl rfl ?_
    refine E_aload_n rfl rfl ?_
    refine E_getfield (v := .int (nI (qN s))) rfl h0 rfl (by decide) rfl ?_
    refine E_ic (t := 89) (b := true) rfl rfl ((cn_geN (by omega) (by omega)).trans (decide_eq_true (by omega))) ?_
    exact K
  | succ n ih =>
    intro i hi
    have J1 := I1 i (by omega)
    have J := qWorth_in I (x := i) (by omega)
    have F := hf i (by omega)
    have hd := ab_divlt (m := m) (i := i) (by omega)
    by_cases a1 : (qP s).getD i 0 = 99
    · rcases qBit2 m i with e | e
      · have e3 := e
        unfold qBit at e3
        have U := F.mpr ⟨a1, e⟩
        by_cases c1 : qWorth s i ≤ l
        · rcases hq : qPk s l u i with _ | k
          · have X := ih (i + 1) (by omega)
            rw [qPk_1 U c1 (by rw [hq]; exact J.1)] at X
            refine E_iload rfl rfl ?_
            refine E_aload_n rfl rfl ?_
            refine E_getfield (v := .int (nI (qN s))) rfl h0 rfl (by decide) rfl ?_
            refine E_ic (t := 89) (b := false) rfl rfl ((cn_geN (by omega) (by omega)).trans (decide_eq_false (by omega))) ?_
            refine E_aload_n rfl rfl ?_
            refine E_getfield (v := .ref 70) rfl h0 rfl (by decide) rfl ?_
            refine E_iload rfl rfl ?_
            refine E_ialN (v := (qP s).getD i 0) rfl h4 (by omega) (by omega) rfl ?_
            refine E_bipush (x := nI 99) rfl (by decide) ?_
            refine E_ic (t := 83) (b := false) rfl rfl ((cn_neN (by omega) (by omega)).trans (decide_eq_false (by omega))) ?_
            refine E_iload_n rfl rfl ?_
            refine E_iload rfl rfl ?_
            refine E_ishr (z := nI (m / 2 ^ i)) rfl (ab_shr (by omega) (by omega)) ?_
            refine E_iconst (x := nI 1) rfl (by decide) ?_
            refine E_iand (z := nI 0) rfl ((ab_and1 (by omega)).trans (congrArg nI e3)) ?_
            refine E_iconst (x := nI 1) rfl (by decide) ?_
            refine E_ic (t := 83) (b := false) rfl rfl (by decide) ?_
            refine E_aload_n rfl rfl ?_
            refine E_iload rfl rfl ?_
            refine E_callV (v := some (.int (nI (qWorth s i)))) (As := [.ref 65, .int (nI i)]) (r0 := []) (cs2 := cs) rfl rfl rfl (Nat.le_of_ble_eq_true rfl) rfl (ab_rvOf h0 rfl) (mo_worth h I (by omega)) (by decide) rfl ?_
            refine E_iload_n rfl rfl ?_
            refine E_ic (t := 58) (b := true) rfl rfl ((cn_leN (by omega) (by omega)).trans (decide_eq_true (by omega))) ?_
            refine E_iload rfl rfl ?_
            refine E_iconst (x := (-1)) rfl (by decide) ?_
            refine E_ic (t := 79) (b := true) rfl rfl (by decide) ?_
            refine E_iload rfl rfl ?_
            refine E_istore (L2 := [some (.ref 65), some (.int (nI c)), some (.int (nI l)), some (.int (nI m)), some (.int (nI i)), some (.int (nI i))]) rfl rfl ?_
            refine E_iinc (y := nI (i + 1)) (L2 := [some (.ref 65), some (.int (nI c)), some (.int (nI l)), some (.int (nI m)), some (.int (nI i)), some (.int (nI (i + 1)))]) rfl rfl (nI_1 _) rfl ?_
            refine E_goto (t := 14) rfl rfl ?_
            exact X
          · have hk := qPk_ok i hq
            have Jk := qWorth_in I (x := k) (by omega)
            by_cases c2 : qWorth s k < qWorth s i
            · have X := ih (i + 1) (by omega)
              rw [qPk_1 U c1 (by rw [hq]; exact c2)] at X
              refine E_iload rfl rfl ?_
              refine E_aload_n rfl rfl ?_
              refine E_getfield (v := .int (nI (qN s))) rfl h0 rfl (by decide) rfl ?_
              refine E_ic (t := 89) (b := false) rfl rfl ((cn_geN (by omega) (by omega)).trans (decide_eq_false (by omega))) ?_
              refine E_aload_n rfl rfl ?_
              refine E_getfield (v := .ref 70) rfl h0 rfl (by decide) rfl ?_
              refine E_iload rfl rfl ?_
              refine E_ialN (v := (qP s).getD i 0) rfl h4 (by omega) (by omega) rfl ?_
              refine E_bipush (x := nI 99) rfl (by decide) ?_
              refine E_ic (t := 83) (b := false) rfl rfl ((cn_neN (by omega) (by omega)).trans (decide_eq_false (by omega))) ?_
              refine E_iload_n rfl rfl ?_
              refine E_iload rfl rfl ?_
              refine E_ishr (z := nI (m / 2 ^ i)) rfl (ab_shr (by omega) (by omega)) ?_
              refine E_iconst (x := nI 1) rfl (by decide) ?_
              refine E_iand (z := nI 0) rfl ((ab_and1 (by omega)).trans (congrArg nI e3)) ?_
              refine E_iconst (x := nI 1) rfl (by decide) ?_
              refine E_ic (t := 83) (b := false) rfl rfl (by decide) ?_
              refine E_aload_n rfl rfl ?_
              refine E_iload rfl rfl ?_
              refine E_callV (v := some (.int (nI (qWorth s i)))) (As := [.ref 65, .int (nI i)]) (r0 := []) (cs2 := cs) rfl rfl rfl (Nat.le_of_ble_eq_true rfl) rfl (ab_rvOf h0 rfl) (mo_worth h I (by omega)) (by decide) rfl ?_
              refine E_iload_n rfl rfl ?_
              refine E_ic (t := 58) (b := true) rfl rfl ((cn_leN (by omega) (by omega)).trans (decide_eq_true (by omega))) ?_
              refine E_iload rfl rfl ?_
              refine E_iconst (x := (-1)) rfl (by decide) ?_
              refine E_ic (t := 79) (b := false) rfl rfl (decide_eq_false (ab_nm1 (by omega))) ?_
              refine E_aload_n rfl rfl ?_
              refine E_iload rfl rfl ?_
              refine E_callV (v := some (.int (nI (qWorth s i)))) (As := [.ref 65, .int (nI i)]) (r0 := []) (cs2 := cs) rfl rfl rfl (Nat.le_of_ble_eq_true rfl) rfl (ab_rvOf h0 rfl) (mo_worth h I (by omega)) (by decide) rfl ?_
              refine E_aload_n rfl rfl ?_
              refine E_iload rfl rfl ?_
              refine E_callV (v := some (.int (nI (qWorth s k)))) (As := [.ref 65, .int (nI k)]) (r0 := [.int (nI (qWorth s i))]) (cs2 := cs) rfl rfl rfl (Nat.le_of_ble_eq_true rfl) rfl (ab_rvOf h0 rfl) (mo_worth h I (by omega)) (by decide) rfl ?_
              refine E_ic (t := 83) (b := false) rfl rfl ((cn_leN (by omega) (by omega)).trans (decide_eq_false (by omega))) ?_
              refine E_iload rfl rfl ?_
              refine E_istore (L2 := [some (.ref 65), some (.int (nI c)), some (.int (nI l)), some (.int (nI m)), some (.int (nI i)), some (.int (nI i))]) rfl rfl ?_
              refine E_iinc (y := nI (i + 1)) (L2 := [some (.ref 65), some (.int (nI c)), some (.int (nI l)), some (.int (nI m)), some (.int (nI i)), some (.int (nI (i + 1)))]) rfl rfl (nI_1 _) rfl ?_
              refine E_goto (t := 14) rfl rfl ?_
              exact X
            · have X := ih (i + 1) (by omega)
              rw [qPk_0 (fun q => c2 (by have := q.2.2; rw [hq] at this; exact this)), hq] at X
              refine E_iload rfl rfl ?_
              refine E_aload_n rfl rfl ?_
              refine E_getfield (v := .int (nI (qN s))) rfl h0 rfl (by decide) rfl ?_
              refine E_ic (t := 89) (b := false) rfl rfl ((cn_geN (by omega) (by omega)).trans (decide_eq_false (by omega))) ?_
              refine E_aload_n rfl rfl ?_
              refine E_getfield (v := .ref 70) rfl h0 rfl (by decide) rfl ?_
              refine E_iload rfl rfl ?_
              refine E_ialN (v := (qP s).getD i 0) rfl h4 (by omega) (by omega) rfl ?_
              refine E_bipush (x := nI 99) rfl (by decide) ?_
              refine E_ic (t := 83) (b := false) rfl rfl ((cn_neN (by omega) (by omega)).trans (decide_eq_false (by omega))) ?_
              refine E_iload_n rfl rfl ?_
              refine E_iload rfl rfl ?_
              refine E_ishr (z := nI (m / 2 ^ i)) rfl (ab_shr (by omega) (by omega)) ?_
              refine E_iconst (x := nI 1) rfl (by decide) ?_
              refine E_iand (z := nI 0) rfl ((ab_and1 (by omega)).trans (congrArg nI e3)) ?_
              refine E_iconst (x := nI 1) rfl (by decide) ?_
              refine E_ic (t := 83) (b := false) rfl rfl (by decide) ?_
              refine E_aload_n rfl rfl ?_
              refine E_iload rfl rfl ?_
              refine E_callV (v := some (.int (nI (qWorth s i)))) (As := [.ref 65, .int (nI i)]) (r0 := []) (cs2 := cs) rfl rfl rfl (Nat.le_of_ble_eq_true rfl) rfl (ab_rvOf h0 rfl) (mo_worth h I (by omega)) (by decide) rfl ?_
              refine E_iload_n rfl rfl ?_
              refine E_ic (t := 58) (b := true) rfl rfl ((cn_leN (by omega) (by omega)).trans (decide_eq_true (by omega))) ?_
              refine E_iload rfl rfl ?_
              refine E_iconst (x := (-1)) rfl (by decide) ?_
              refine E_ic (t := 79) (b := false) rfl rfl (decide_eq_false (ab_nm1 (by omega))) ?_
              refine E_aload_n rfl rfl ?_
              refine E_iload rfl rfl ?_
              refine E_callV (v := some (.int (nI (qWorth s i)))) (As := [.ref 65, .int (nI i)]) (r0 := []) (cs2 := cs) rfl rfl rfl (Nat.le_of_ble_eq_true rfl) rfl (ab_rvOf h0 rfl) (mo_worth h I (by omega)) (by decide) rfl ?_
              refine E_aload_n rfl rfl ?_
              refine E_iload rfl rfl ?_
              refine E_callV (v := some (.int (nI (qWorth s k)))) (As := [.ref 65, .int (nI k)]) (r0 := [.int (nI (qWorth s i))]) (cs2 := cs) rfl rfl rfl (Nat.le_of_ble_eq_true rfl) rfl (ab_rvOf h0 rfl) (mo_worth h I (by omega)) (by decide) rfl ?_
              refine E_ic (t := 83) (b := true) rfl rfl ((cn_leN (by omega) (by omega)).trans (decide_eq_true (by omega))) ?_
              refine E_iinc (y := nI (i + 1)) (L2 := [some (.ref 65), some (.int (nI c)), some (.int (nI l)), some (.int (nI m)), some (.int (nI k)), some (.int (nI (i + 1)))]) rfl rfl (nI_1 _) rfl ?_
              refine E_goto (t := 14) rfl rfl ?_
              exact X
        · have X := ih (i + 1) (by omega)
          rw [qPk_0 (fun q => c1 q.2.1)] at X
          refine E_iload rfl rfl ?_
          refine E_aload_n rfl rfl ?_
          refine E_getfield (v := .int (nI (qN s))) rfl h0 rfl (by decide) rfl ?_
          refine E_ic (t := 89) (b := false) rfl rfl ((cn_geN (by omega) (by omega)).trans (decide_eq_false (by omega))) ?_
          refine E_aload_n rfl rfl ?_
          refine E_getfield (v := .ref 70) rfl h0 rfl (by decide) rfl ?_
          refine E_iload rfl rfl ?_
          refine E_ialN (v := (qP s).getD i 0) rfl h4 (by omega) (by omega) rfl ?_
          refine E_bipush (x := nI 99) rfl (by decide) ?_
          refine E_ic (t := 83) (b := false) rfl rfl ((cn_neN (by omega) (by omega)).trans (decide_eq_false (by omega))) ?_
          refine E_iload_n rfl rfl ?_
          refine E_iload rfl rfl ?_
          refine E_ishr (z := nI (m / 2 ^ i)) rfl (ab_shr (by omega) (by omega)) ?_
          refine E_iconst (x := nI 1) rfl (by decide) ?_
          refine E_iand (z := nI 0) rfl ((ab_and1 (by omega)).trans (congrArg nI e3)) ?_
          refine E_iconst (x := nI 1) rfl (by decide) ?_
          refine E_ic (t := 83) (b := false) rfl rfl (by decide) ?_
          refine E_aload_n rfl rfl ?_
          refine E_iload rfl rfl ?_
          refine E_callV (v := some (.int (nI (qWorth s i)))) (As := [.ref 65, .int (nI i)]) (r0 := []) (cs2 := cs) rfl rfl rfl (Nat.le_of_ble_eq_true rfl) rfl (ab_rvOf h0 rfl) (mo_worth h I (by omega)) (by decide) rfl ?_
          refine E_iload_n rfl rfl ?_
          refine E_ic (t := 58) (b := false) rfl rfl ((cn_leN (by omega) (by omega)).trans (decide_eq_false (by omega))) ?_
          refine E_goto (t := 83) rfl rfl ?_
          refine E_iinc (y := nI (i + 1)) (L2 := [some (.ref 65), some (.int (nI c)), some (.int (nI l)), some (.int (nI m)), some (.int (qE (qPk s l u i))), some (.int (nI (i + 1)))]) rfl rfl (nI_1 _) rfl ?_
          refine E_goto (t := 14) rfl rfl ?_
          exact X
      · have e3 := e
        unfold qBit at e3
        have X := ih (i + 1) (by omega)
        rw [qPk_0 (fun q => by have := (F.mp q.1).2; omega)] at X
        refine E_iload rfl rfl ?_
        refine E_aload_n rfl rfl ?_
        refine E_getfield (v := .int (nI (qN s))) rfl h0 rfl (by decide) rfl ?_
        refine E_ic (t := 89) (b := false) rfl rfl ((cn_geN (by omega) (by omega)).trans (decide_eq_false (by omega))) ?_
        refine E_aload_n rfl rfl ?_
        refine E_getfield (v := .ref 70) rfl h0 rfl (by decide) rfl ?_
        refine E_iload rfl rfl ?_
        refine E_ialN (v := (qP s).getD i 0) rfl h4 (by omega) (by omega) rfl ?_
        refine E_bipush (x := nI 99) rfl (by decide) ?_
        refine E_ic (t := 83) (b := false) rfl rfl ((cn_neN (by omega) (by omega)).trans (decide_eq_false (by omega))) ?_
        refine E_iload_n rfl rfl ?_
        refine E_iload rfl rfl ?_
        refine E_ishr (z := nI (m / 2 ^ i)) rfl (ab_shr (by omega) (by omega)) ?_
        refine E_iconst (x := nI 1) rfl (by decide) ?_
        refine E_iand (z := nI 1) rfl ((ab_and1 (by omega)).trans (congrArg nI e3)) ?_
        refine E_iconst (x := nI 1) rfl (by decide) ?_
        refine E_ic (t := 83) (b := true) rfl rfl (by decide) ?_
        refine E_iinc (y := nI (i + 1)) (L2 := [some (.ref 65), some (.int (nI c)), some (.int (nI l)), some (.int (nI m)), some (.int (qE (qPk s l u i))), some (.int (nI (i + 1)))]) rfl rfl (nI_1 _) rfl ?_
        refine E_goto (t := 14) rfl rfl ?_
        exact X
    · have X := ih (i + 1) (by omega)
      rw [qPk_0 (fun q => a1 ((F.mp q.1).1))] at X
      refine E_iload rfl rfl ?_
      refine E_aload_n rfl rfl ?_
      refine E_getfield (v := .int (nI (qN s))) rfl h0 rfl (by decide) rfl ?_
      refine E_ic (t := 89) (b := false) rfl rfl ((cn_geN (by omega) (by omega)).trans (decide_eq_false (by omega))) ?_
      refine E_aload_n rfl rfl ?_
      refine E_getfield (v := .ref 70) rfl h0 rfl (by decide) rfl ?_
      refine E_iload rfl rfl ?_
      refine E_ialN (v := (qP s).getD i 0) rfl h4 (by omega) (by omega) rfl ?_
      refine E_bipush (x := nI 99) rfl (by decide) ?_
      refine E_ic (t := 83) (b := true) rfl rfl ((cn_neN (by omega) (by omega)).trans (decide_eq_true (by omega))) ?_
      refine E_iinc (y := nI (i + 1)) (L2 := [some (.ref 65), some (.int (nI c)), some (.int (nI l)), some (.int (nI m)), some (.int (qE (qPk s l u i))), some (.int (nI (i + 1)))]) rfl rfl (nI_1 _) rfl ?_
      refine E_goto (t := 14) rfl rfl ?_
      exact X
theorem mo_greedyFor_l {cs : List ab_C} {s : ab_q} {g : Nat → Int32} {c : Nat} (h : mAt cs s g) (I : qI s) : ∀ t l u m v4 v5, l < 2 ^ 31 → u < 512 → m < 512 → qFree s u m → qMany u 9 ≤ t → Ef ab_Z0 1 mX6_greedyFor (4, [some (.ref 65), some (.int (nI c)), some (.int (nI l)), some (.int (nI m)), v4, v5], [], cs) (some (.int (qE (qGd s t l u m))), cs) := by
  have hh := h
  obtain ⟨h0, h1, h2, h3, h4, h5, h6, h7, h8, h9⟩ := h
  obtain ⟨⟨i0, i1, i2, i3⟩, ⟨i4, i5, i6, i7, i8⟩, ⟨i9, i10⟩, I1, I2, I3, I4⟩ := id I
  have h := hh
  intro t
  induction t with
  | zero =>
    intro l u m v4 v5 hl hu hm hf ht
    by_cases hz : l = 0
    · subst hz
      rw [qGd_z]
      refine E_iload_n rfl rfl ?_
      refine E_if (t := 116) (b := true) rfl rfl (by decide) ?_
      refine E_iload_n rfl rfl ?_
      exact E_iret rfl rfl
    · rw [qGd_n hz]
      refine E_iload_n rfl rfl ?_
      refine E_if (t := 116) (b := false) rfl rfl ((cn_leN (b := 0) (by omega) (by omega)).trans (decide_eq_false (by omega))) ?_
      refine E_iconst (x := (-1)) rfl (by decide) ?_
      refine E_istore (L2 := [some (.ref 65), some (.int (nI c)), some (.int (nI l)), some (.int (nI m)), some (.int (-1)), v5]) rfl rfl ?_
      refine E_iconst (x := nI 0) rfl (by decide) ?_
      refine E_istore (L2 := [some (.ref 65), some (.int (nI c)), some (.int (nI l)), some (.int (nI m)), some (.int (-1)), some (.int (nI 0))]) rfl rfl ?_
      refine mo_pick_l (u := u) h I hl hm hf ?_ (qN s) 0 (by omega)
      rcases hk : qPk s l u (qN s) with _ | k
      · refine E_iload rfl rfl ?_
        refine E_iconst (x := (-1)) rfl (by decide) ?_
        refine E_ic (t := 97) (b := false) rfl rfl (by decide) ?_
        refine E_iconst (x := (-1)) rfl (by decide) ?_
        exact E_iret rfl rfl
      · have P := qPk_ok _ hk
        have hb := ((hf k P.1).mp P.2.1).2
        have := qMany_pos P.2.1 9 (by omega)
        omega
  | succ t ih =>
    intro l u m v4 v5 hl hu hm hf ht
    by_cases hz : l = 0
    · subst hz
      rw [qGd_z]
      refine E_iload_n rfl rfl ?_
      refine E_if (t := 116) (b := true) rfl rfl (by decide) ?_
      refine E_iload_n rfl rfl ?_
      exact E_iret rfl rfl
    · refine E_iload_n rfl rfl ?_
      refine E_if (t := 116) (b := false) rfl rfl ((cn_leN (b := 0) (by omega) (by omega)).trans (decide_eq_false (by omega))) ?_
      refine E_iconst (x := (-1)) rfl (by decide) ?_
      refine E_istore (L2 := [some (.ref 65), some (.int (nI c)), some (.int (nI l)), some (.int (nI m)), some (.int (-1)), v5]) rfl rfl ?_
      refine E_iconst (x := nI 0) rfl (by decide) ?_
      refine E_istore (L2 := [some (.ref 65), some (.int (nI c)), some (.int (nI l)), some (.int (nI m)), some (.int (-1)), some (.int (nI 0))]) rfl rfl ?_
      refine mo_pick_l (u := u) h I hl hm hf ?_ (qN s) 0 (by omega)
      rcases hk : qPk s l u (qN s) with _ | k
      · rw [qGd_0 hz hk]
        refine E_iload rfl rfl ?_
        refine E_iconst (x := (-1)) rfl (by decide) ?_
        refine E_ic (t := 97) (b := false) rfl rfl (by decide) ?_
        refine E_iconst (x := (-1)) rfl (by decide) ?_
        exact E_iret rfl rfl
      · rw [qGd_k hz hk]
        have P := qPk_ok _ hk
        have hb := ((hf k P.1).mp P.2.1).2
        have M := ab_or512 hm (k := k) (by omega)
        have Q := qAn_le (m := m ||| 2 ^ k) hu
        have T1 : qMany (qAn u (m ||| 2 ^ k)) 9 < qMany u 9 := qMany_lt (k := k) (fun x hx => by
            have a := @qAn_bit u (m ||| 2 ^ k) hu M x hx
            have b := qBit2 (qAn u (m ||| 2 ^ k)) x
            rcases b with b | b
            · omega
            · have := (a.mp b).1
              omega) (by
            have a := @qAn_bit u (m ||| 2 ^ k) hu M k (by omega)
            have b := qBit2 (qAn u (m ||| 2 ^ k)) k
            have c := (@qBit_or m k k).mpr (Or.inr rfl)
            rcases b with b | b
            · omega
            · have := (a.mp b).2
              omega) 9 (Nat.le_refl _) (by omega)
        refine E_iload rfl rfl ?_
        refine E_iconst (x := (-1)) rfl (by decide) ?_
        refine E_ic (t := 97) (b := true) rfl rfl (decide_eq_true (ab_nm1 (by omega))) ?_
        refine E_iload_n rfl rfl ?_
        refine E_iconst (x := nI 1) rfl (by decide) ?_
        refine E_iload rfl rfl ?_
        refine E_ishl (z := nI (2 ^ k)) rfl (ab_shl (by omega)) ?_
        refine E_iadd (z := nI (m ||| 2 ^ k)) rfl (ab_addor hb) ?_
        refine E_istore_n (L2 := [some (.ref 65), some (.int (nI c)), some (.int (nI l)), some (.int (nI (m ||| 2 ^ k))), some (.int (nI k)), some (.int (nI (qN s)))]) rfl rfl ?_
        refine E_iload_n rfl rfl ?_
        refine E_aload_n rfl rfl ?_
        refine E_iload rfl rfl ?_
        refine E_callV (v := some (.int (nI (qWorth s k)))) (As := [.ref 65, .int (nI k)]) (r0 := [.int (nI l)]) (cs2 := cs) rfl rfl rfl (Nat.le_of_ble_eq_true rfl) rfl (ab_rvOf h0 rfl) (mo_worth h I (by omega)) (by decide) rfl ?_
        refine E_isub (z := nI (l - (qWorth s k))) rfl (pk_sub (by omega)) ?_
        refine E_istore_n (L2 := [some (.ref 65), some (.int (nI c)), some (.int (nI (l - (qWorth s k)))), some (.int (nI (m ||| 2 ^ k))), some (.int (nI k)), some (.int (nI (qN s)))]) rfl rfl ?_
        refine E_goto (t := 4) rfl rfl ?_
        exact ih (l - qWorth s k) (qAn u (m ||| 2 ^ k)) (m ||| 2 ^ k) _ _ (by omega) (by omega) M (qFree_step I hu M hf) (by omega)
theorem qMany_in (u : Nat) : ∀ i, qMany u i ≤ i
  | 0 => Nat.le_refl _
  | i + 1 => Nat.add_le_add (qMany_in u i) (by have := qBit2 u i; omega)
theorem mo_greedyFor {cs : List ab_C} {s : ab_q} {g : Nat → Int32} {c : Nat} (h : mAt cs s g) (I : qI s) (hc : c < 2 ^ 31) : Ev ab_Z0 2 171 [.ref 65, .int (nI c)] cs (some (.int (qE (qGreedy s c))), cs) := by
  have hh := h
  obtain ⟨h0, h1, h2, h3, h4, h5, h6, h7, h8, h9⟩ := h
  obtain ⟨⟨i0, i1, i2, i3⟩, ⟨i4, i5, i6, i7, i8⟩, ⟨i9, i10⟩, I1, I2, I3, I4⟩ := id I
  have Q := qPs_in s 99 (i := qN s) (by omega)
  refine Ef.in (md := mX6_greedyFor) (L := [some (.ref 65), some (.int (nI c)), none, none, none, none]) rfl (Nat.le_of_ble_eq_true rfl) rfl ?_
  refine E_iload_n rfl rfl ?_
  refine E_istore_n (L2 := [some (.ref 65), some (.int (nI c)), some (.int (nI c)), none, none, none]) rfl rfl ?_
  refine E_iconst (x := nI 0) rfl (by decide) ?_
  refine E_istore_n (L2 := [some (.ref 65), some (.int (nI c)), some (.int (nI c)), some (.int (nI 0)), none, none]) rfl rfl ?_
  exact mo_greedyFor_l hh I 9 c (qPs s 99 (qN s)) 0 _ _ hc Q (by decide) (fun x hx => by rw [qPs_bit (qN s) x hx]; exact ⟨fun q => ⟨q, by unfold qBit; rw [Nat.zero_div]⟩, fun q => q.1⟩) (qMany_in _ 9)
