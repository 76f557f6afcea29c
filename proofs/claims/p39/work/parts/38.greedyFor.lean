/-! the class's greedyFor; by program (wip/tools/gr.py) -/
theorem qPk_ok {s : ab_q} {l u k : Nat} : ∀ i, qPk s l u i = k + 1 → k < i ∧ qBit u k = 1 ∧ qWorth s k ≤ l
  | 0, h => by cases h
  | i + 1, h => by
    by_cases c : qBit u i = 1 ∧ qWorth s i ≤ l ∧ qGt s (qPk s l u i) < qWorth s i
    · rw [qPk_1 c.1 c.2.1 c.2.2] at h
      obtain rfl : i = k := by omega
      exact ⟨Nat.lt_succ_self _, c.1, c.2.1⟩
    · rw [qPk_0 c] at h
      have := qPk_ok i h
      exact ⟨Nat.lt_succ_of_lt this.1, this.2⟩
theorem ab_nm1 {k : Nat} (h : k < 2 ^ 31) : ¬ nI k = -1 := fun q => by
  have := congrArg Int32.toInt q
  rw [nI_toInt h] at this
  have e : (-1 : Int32).toInt = -1 := by decide
  omega
theorem qBit_t (m i : Nat) : qBit m i = 1 ↔ m.testBit i = true := by
  unfold qBit
  rw [Nat.testBit_eq_decide_div_mod_eq, decide_eq_true_eq]
/-- u without m -/
def qAn (u m : Nat) : Nat := (nI u &&& (nI m ^^^ (-1))).toBitVec.toNat
theorem ab_nIt (x : Int32) : nI x.toBitVec.toNat = x := by
  apply Int32.toBitVec_inj.mp
  show BitVec.ofNat 32 x.toBitVec.toNat = x.toBitVec
  simp
theorem qAn_I (u m : Nat) : nI u &&& (nI m ^^^ (-1)) = nI (qAn u m) := (ab_nIt _).symm
theorem qAn_t (u m : Nat) : qAn u m = (BitVec.ofNat 32 u &&& (BitVec.ofNat 32 m ^^^ BitVec.allOnes 32)).toNat := by
  unfold qAn
  rw [Int32.toBitVec_and, Int32.toBitVec_xor]
  rfl
theorem qAn_le {u m : Nat} (hu : u < 512) : qAn u m ≤ u := by
  rw [qAn_t, BitVec.toNat_and]
  refine Nat.le_trans Nat.and_le_left ?_
  rw [BitVec.toNat_ofNat]
  exact Nat.mod_le _ _
theorem qAn_bit {u m : Nat} (hu : u < 512) (hm : m < 512) {i : Nat} (hi : i < 9) : qBit (qAn u m) i = 1 ↔ qBit u i = 1 ∧ qBit m i = 0 := by
  have h0 : qBit m i = 0 ↔ ¬ qBit m i = 1 := by
    have := qBit2 m i
    omega
  rw [h0, qBit_t, qBit_t, qBit_t, qAn_t]
  have : (BitVec.ofNat 32 u &&& (BitVec.ofNat 32 m ^^^ BitVec.allOnes 32)).toNat.testBit i = (u.testBit i && !m.testBit i) := by
    show (BitVec.ofNat 32 u &&& (BitVec.ofNat 32 m ^^^ BitVec.allOnes 32)).getLsbD i = _
    have h32 : i < 32 := by omega
    rw [BitVec.getLsbD_and, BitVec.getLsbD_xor, BitVec.getLsbD_ofNat, BitVec.getLsbD_ofNat, BitVec.getLsbD_allOnes, decide_eq_true h32, Bool.true_and, Bool.true_and, Bool.xor_true]
  rw [this]
  simp
theorem ab_or512 {m k : Nat} (hm : m < 512) (hk : k < 9) : m ||| 2 ^ k < 512 := Nat.or_lt_two_pow (n := 9) hm (Nat.pow_lt_pow_right (by decide) hk)
/-- greedy change for l out of u, over m, in t turns at most; 0: none, z + 1: the bits z -/
def qGd (s : ab_q) : Nat → Nat → Nat → Nat → Nat
  | 0, l, _, m => if l = 0 then m + 1 else 0
  | t + 1, l, u, m => if l = 0 then m + 1 else match qPk s l u (qN s) with
    | 0 => 0
    | k + 1 => qGd s t (l - qWorth s k) (qAn u (m ||| 2 ^ k)) (m ||| 2 ^ k)
theorem qGd_z (s : ab_q) (t u m : Nat) : qGd s t 0 u m = m + 1 := by cases t <;> rfl
theorem qGd_n {s : ab_q} {l u m : Nat} (hl : ¬ l = 0) : qGd s 0 l u m = 0 := if_neg hl
theorem qGd_0 {s : ab_q} {t l u m : Nat} (hl : ¬ l = 0) (h : qPk s l u (qN s) = 0) : qGd s (t + 1) l u m = 0 := by
  show (if l = 0 then _ else _) = _
  rw [if_neg hl, h]
theorem qGd_k {s : ab_q} {t l u m k : Nat} (hl : ¬ l = 0) (h : qPk s l u (qN s) = k + 1) : qGd s (t + 1) l u m = qGd s t (l - qWorth s k) (qAn u (m ||| 2 ^ k)) (m ||| 2 ^ k) := by
  show (if l = 0 then _ else _) = _
  rw [if_neg hl, h]
theorem sq_greedyFor_l {cs : List ab_C} {b : Nat} {s : ab_q} {c : Nat} (h : qAt cs b s) (I : qI s) : ∀ t i l u m v6, i + t = 9 → l < 2 ^ 31 → u < 512 → m < 512 → Ef ab_Z0 2 mX4_greedyFor (13, [some (.ref b), some (.int (nI c)), some (.int (nI l)), some (.int (nI u)), some (.int (nI m)), some (.int (nI i)), v6], [], cs) (some (.int (qE (qGd s t l u m))), cs) := by
  have hh := h
  obtain ⟨h0, h1, h2, h3, h4, h5, h6, h7, h8, h9⟩ := h
  obtain ⟨⟨i0, i1, i2, i3⟩, ⟨i4, i5, i6, i7, i8⟩, ⟨i9, i10⟩, I1, I2, I3, I4⟩ := id I
  have h := hh
  intro t
  induction t with
  | zero =>
    intro i l u m v6 hi hl hu hm
    obtain rfl : i = 9 := by omega
    by_cases hz : l = 0
    · subst hz
      rw [qGd_z]
      refine E_iload rfl rfl ?_
      refine E_bipush (x := nI 9) rfl (by decide) ?_
      refine E_ic (t := 71) (b := true) rfl rfl (by decide) ?_
      refine E_iload_n rfl rfl ?_
      refine E_if (t := 80) (b := false) rfl rfl (by decide) ?_
      refine E_iload rfl rfl ?_
      refine E_goto (t := 81) rfl rfl ?_
      exact E_iret rfl rfl
    · rw [qGd_n hz]
      refine E_iload rfl rfl ?_
      refine E_bipush (x := nI 9) rfl (by decide) ?_
      refine E_ic (t := 71) (b := true) rfl rfl (by decide) ?_
      refine E_iload_n rfl rfl ?_
      refine E_if (t := 80) (b := true) rfl rfl ((cn_neN (b := 0) (by omega) (by omega)).trans (decide_eq_true (by omega))) ?_
      refine E_iconst (x := (-1)) rfl (by decide) ?_
      exact E_iret rfl rfl
  | succ t ih =>
    intro i l u m v6 hi hl hu hm
    by_cases hz : l = 0
    · subst hz
      rw [qGd_z]
      refine E_iload rfl rfl ?_
      refine E_bipush (x := nI 9) rfl (by decide) ?_
      refine E_ic (t := 71) (b := false) rfl rfl ((cn_geN (by omega) (by omega)).trans (decide_eq_false (by omega))) ?_
      refine E_iload_n rfl rfl ?_
      refine E_if (t := 71) (b := true) rfl rfl (by decide) ?_
      refine E_iload_n rfl rfl ?_
      refine E_if (t := 80) (b := false) rfl rfl (by decide) ?_
      refine E_iload rfl rfl ?_
      refine E_goto (t := 81) rfl rfl ?_
      exact E_iret rfl rfl
    · have X := sq_greatestUpTo (l := l) (u := u) h I (by omega) (by omega)
      rcases hk : qPk s l u (qN s) with _ | k
      · rw [hk] at X
        rw [qGd_0 hz hk]
        refine E_iload rfl rfl ?_
        refine E_bipush (x := nI 9) rfl (by decide) ?_
        refine E_ic (t := 71) (b := false) rfl rfl ((cn_geN (by omega) (by omega)).trans (decide_eq_false (by omega))) ?_
        refine E_iload_n rfl rfl ?_
        refine E_if (t := 71) (b := false) rfl rfl ((cn_leN (b := 0) (by omega) (by omega)).trans (decide_eq_false (by omega))) ?_
        refine E_aload_n rfl rfl ?_
        refine E_iload_n rfl rfl ?_
        refine E_iload_n rfl rfl ?_
        refine E_callV (v := some (.int (-1))) (As := [.ref b, .int (nI l), .int (nI u)]) (r0 := []) (cs2 := cs) rfl rfl rfl (Nat.le_of_ble_eq_true rfl) rfl (ab_rvOf h0 rfl) X (by decide) rfl ?_
        refine E_istore (L2 := [some (.ref b), some (.int (nI c)), some (.int (nI l)), some (.int (nI u)), some (.int (nI m)), some (.int (nI i)), some (.int (-1))]) rfl rfl ?_
        refine E_iload rfl rfl ?_
        refine E_iconst (x := (-1)) rfl (by decide) ?_
        refine E_ic (t := 40) (b := false) rfl rfl (by decide) ?_
        refine E_iconst (x := (-1)) rfl (by decide) ?_
        exact E_iret rfl rfl
      · rw [hk] at X
        rw [qGd_k hz hk]
        have P := qPk_ok _ hk
        have M := ab_or512 hm (k := k) (by omega)
        have Q := qAn_le (m := m ||| 2 ^ k) hu
        refine E_iload rfl rfl ?_
        refine E_bipush (x := nI 9) rfl (by decide) ?_
        refine E_ic (t := 71) (b := false) rfl rfl ((cn_geN (by omega) (by omega)).trans (decide_eq_false (by omega))) ?_
        refine E_iload_n rfl rfl ?_
        refine E_if (t := 71) (b := false) rfl rfl ((cn_leN (b := 0) (by omega) (by omega)).trans (decide_eq_false (by omega))) ?_
        refine E_aload_n rfl rfl ?_
        refine E_iload_n rfl rfl ?_
        refine E_iload_n rfl rfl ?_
        refine E_callV (v := some (.int (nI k))) (As := [.ref b, .int (nI l), .int (nI u)]) (r0 := []) (cs2 := cs) rfl rfl rfl (Nat.le_of_ble_eq_true rfl) rfl (ab_rvOf h0 rfl) X (by decide) rfl ?_
        refine E_istore (L2 := [some (.ref b), some (.int (nI c)), some (.int (nI l)), some (.int (nI u)), some (.int (nI m)), some (.int (nI i)), some (.int (nI k))]) rfl rfl ?_
        refine E_iload rfl rfl ?_
        refine E_iconst (x := (-1)) rfl (by decide) ?_
        refine E_ic (t := 40) (b := true) rfl rfl (decide_eq_true (ab_nm1 (by omega))) ?_
        refine E_iload rfl rfl ?_
        refine E_iconst (x := nI 1) rfl (by decide) ?_
        refine E_iload rfl rfl ?_
        refine E_ishl (z := nI (2 ^ k)) rfl (ab_shl (by omega)) ?_
        refine E_ior (z := nI (m ||| 2 ^ k)) rfl (ab_or _ _) ?_
        refine E_istore (L2 := [some (.ref b), some (.int (nI c)), some (.int (nI l)), some (.int (nI u)), some (.int (nI (m ||| 2 ^ k))), some (.int (nI i)), some (.int (nI k))]) rfl rfl ?_
        refine E_iload_n rfl rfl ?_
        refine E_iload rfl rfl ?_
        refine E_iconst (x := (-1)) rfl (by decide) ?_
        refine E_ixor (z := (nI (m ||| 2 ^ k) ^^^ (-1))) rfl rfl ?_
        refine E_iand (z := nI (qAn u (m ||| 2 ^ k))) rfl (qAn_I _ _) ?_
        refine E_istore_n (L2 := [some (.ref b), some (.int (nI c)), some (.int (nI l)), some (.int (nI (qAn u (m ||| 2 ^ k)))), some (.int (nI (m ||| 2 ^ k))), some (.int (nI i)), some (.int (nI k))]) rfl rfl ?_
        refine E_iload_n rfl rfl ?_
        refine E_aload_n rfl rfl ?_
        refine E_iload rfl rfl ?_
        refine E_callV (v := some (.int (nI (qWorth s k)))) (As := [.ref b, .int (nI k)]) (r0 := [.int (nI l)]) (cs2 := cs) rfl rfl rfl (Nat.le_of_ble_eq_true rfl) rfl (ab_rvOf h0 rfl) (sq_worthOf h I (by omega)) (by decide) rfl ?_
        refine E_isub (z := nI (l - (qWorth s k))) rfl (pk_sub (by omega)) ?_
        refine E_istore_n (L2 := [some (.ref b), some (.int (nI c)), some (.int (nI (l - (qWorth s k)))), some (.int (nI (qAn u (m ||| 2 ^ k)))), some (.int (nI (m ||| 2 ^ k))), some (.int (nI i)), some (.int (nI k))]) rfl rfl ?_
        refine E_iinc (y := nI (i + 1)) (L2 := [some (.ref b), some (.int (nI c)), some (.int (nI (l - (qWorth s k)))), some (.int (nI (qAn u (m ||| 2 ^ k)))), some (.int (nI (m ||| 2 ^ k))), some (.int (nI (i + 1))), some (.int (nI k))]) rfl rfl (nI_1 _) rfl ?_
        refine E_goto (t := 13) rfl rfl ?_
        exact ih (i + 1) (l - qWorth s k) (qAn u (m ||| 2 ^ k)) (m ||| 2 ^ k) _ (by omega) (by omega) (by omega) M
/-- greedy change for c out of the basin; 0: none, z + 1: the bits z -/
def qGreedy (s : ab_q) (c : Nat) : Nat := qGd s 9 c (qPs s 99 (qN s)) 0
theorem sq_greedyFor {cs : List ab_C} {b : Nat} {s : ab_q} {c : Nat} (h : qAt cs b s) (I : qI s) (hc : c < 2 ^ 31) : Ev ab_Z0 3 69 [.ref b, .int (nI c)] cs (some (.int (qE (qGreedy s c))), cs) := by
  have hh := h
  obtain ⟨h0, h1, h2, h3, h4, h5, h6, h7, h8, h9⟩ := h
  obtain ⟨⟨i0, i1, i2, i3⟩, ⟨i4, i5, i6, i7, i8⟩, ⟨i9, i10⟩, I1, I2, I3, I4⟩ := id I
  have Q := qPs_in s 99 (i := qN s) (by omega)
  refine Ef.in (md := mX4_greedyFor) (L := [some (.ref b), some (.int (nI c)), none, none, none, none, none]) rfl (Nat.le_of_ble_eq_true rfl) rfl ?_
  refine E_iload_n rfl rfl ?_
  refine E_istore_n (L2 := [some (.ref b), some (.int (nI c)), some (.int (nI c)), none, none, none, none]) rfl rfl ?_
  refine E_aload_n rfl rfl ?_
  refine E_callV (v := some (.int (nI (qPs s 99 (qN s))))) (As := [.ref b]) (r0 := []) (cs2 := cs) rfl rfl rfl (Nat.le_of_ble_eq_true rfl) rfl (ab_rvOf h0 rfl) (sq_basin hh I) (by decide) rfl ?_
  refine E_istore_n (L2 := [some (.ref b), some (.int (nI c)), some (.int (nI c)), some (.int (nI (qPs s 99 (qN s)))), none, none, none]) rfl rfl ?_
  refine E_iconst (x := nI 0) rfl (by decide) ?_
  refine E_istore (L2 := [some (.ref b), some (.int (nI c)), some (.int (nI c)), some (.int (nI (qPs s 99 (qN s)))), some (.int (nI 0)), none, none]) rfl rfl ?_
  refine E_iconst (x := nI 0) rfl (by decide) ?_
  refine E_istore (L2 := [some (.ref b), some (.int (nI c)), some (.int (nI c)), some (.int (nI (qPs s 99 (qN s)))), some (.int (nI 0)), some (.int (nI 0)), none]) rfl rfl ?_
  exact sq_greedyFor_l hh I 9 0 c (qPs s 99 (qN s)) 0 _ (by omega) hc Q (by decide)
