/-! the dearest, the crowd; by program (wip/tools/mkdear.py) -/
theorem ls_2 {x : Int32} {a k1 o1 k2 o2 d0 : Int} (hx : x.toInt = a) (h1 : k1 ≠ a) (h2 : k2 ≠ a) : Op.lookupswitch.offset [(k1, o1), (k2, o2)] d0 x.toInt = d0 := by
  rw [hx]
  show (if k1 = a then o1 else if k2 = a then o2 else d0) = d0
  rw [if_neg h1, if_neg h2]
theorem nat_opt (n : Nat) : n = 0 ∨ ∃ j, n = j + 1 := by
  rcases n with _ | j
  · exact Or.inl rfl
  · exact Or.inr ⟨j, rfl⟩
theorem ab_clr : ∀ B, B < 512 → ∀ x, x < 9 → qBit B x = 1 → nI B &&& (nI (2 ^ x) ^^^ (-1)) = nI (B - 2 ^ x) := by decide +kernel
theorem qBit_le {B x : Nat} (h : qBit B x = 1) : 2 ^ x ≤ B := by
  by_cases c : B < 2 ^ x
  · rw [qBit_0 c] at h
    omega
  · omega
theorem cnt_99 (f : Nat → Nat) : ∀ i, cntF f (i + 1) ≤ i
  | 0 => by
    show 0 + (if 1 ≤ 0 ∧ _ then 1 else 0) ≤ 0
    rw [if_neg (by omega)]
    omega
  | i + 1 => by
    have := cnt_99 f i
    show cntF f (i + 1) + (if _ then 1 else 0) ≤ _
    split <;> omega
def deN (s : ab_q) (m x : Nat) : Nat := cntF (wgh s (m - 2 ^ x) (qN s)) 100
theorem deN_99 (s : ab_q) (m x : Nat) : deN s m x ≤ 99 := cnt_99 _ 99
/-- the first without which amounts are fewest: 0 none, x + 1 -/
def deC (s : ab_q) (m : Nat) : Nat → Nat
  | 0 => 0
  | x + 1 => if qBit m x = 1 ∧ (deC s m x = 0 ∨ deN s m x < deN s m (deC s m x - 1)) then x + 1 else deC s m x
def deM (s : ab_q) (m n0 x : Nat) : Nat := if deC s m x = 0 then n0 else deN s m (deC s m x - 1)
theorem de_t {s : ab_q} {m x : Nat} (h : qBit m x = 1) (k : deC s m x = 0 ∨ deN s m x < deN s m (deC s m x - 1)) (n0 : Nat) : deC s m (x + 1) = x + 1 ∧ deM s m n0 (x + 1) = deN s m x := by
  have a : deC s m (x + 1) = x + 1 := if_pos ⟨h, k⟩
  refine ⟨a, ?_⟩
  unfold deM
  rw [a, if_neg (by omega), Nat.add_sub_cancel]
theorem de_f {s : ab_q} {m x : Nat} (h : ¬ (qBit m x = 1 ∧ (deC s m x = 0 ∨ deN s m x < deN s m (deC s m x - 1)))) (n0 : Nat) : deC s m (x + 1) = deC s m x ∧ deM s m n0 (x + 1) = deM s m n0 x := by
  have a : deC s m (x + 1) = deC s m x := if_neg h
  refine ⟨a, ?_⟩
  unfold deM
  rw [a]
def deL (s : ab_q) (m : Nat) (l : List Int32) : Nat → List Int32
  | 0 => l
  | x + 1 => if qBit m x = 1 then lsF (wgh s (m - 2 ^ x) (qN s)) else deL s m l x
def deB (s : ab_q) (m : Nat) (l : List Int32) : Nat → List Int32
  | 0 => l
  | x + 1 => if qBit m x = 1 then lsF (bst s (m - 2 ^ x) (qN s) (2 ^ qN s)) else deB s m l x
theorem deL_len {s : ab_q} {m : Nat} {l : List Int32} (h : l.length = 100) : ∀ x, (deL s m l x).length = 100
  | 0 => h
  | x + 1 => by
    show (if _ then _ else _ : List Int32).length = 100
    split
    · exact lsF_len _
    · exact deL_len h x
theorem deB_len {s : ab_q} {m : Nat} {l : List Int32} (h : l.length = 100) : ∀ x, (deB s m l x).length = 100
  | 0 => h
  | x + 1 => by
    show (if _ then _ else _ : List Int32).length = 100
    split
    · exact lsF_len _
    · exact deB_len h x
/-- the wish most want: 0 none, v + 1 -/
def crC (s : ab_q) : Nat → Nat
  | 0 => 0
  | v + 1 => if (if crC s v = 0 then 0 else qWn s (crC s v - 1) (qM s)) < qWn s v (qM s) then v + 1 else crC s v
def crM (s : ab_q) (v : Nat) : Nat := if crC s v = 0 then 0 else qWn s (crC s v - 1) (qM s)
theorem cr_t {s : ab_q} {v : Nat} (h : crM s v < qWn s v (qM s)) : crC s (v + 1) = v + 1 ∧ crM s (v + 1) = qWn s v (qM s) := by
  have a : crC s (v + 1) = v + 1 := if_pos h
  refine ⟨a, ?_⟩
  unfold crM
  rw [a, if_neg (by omega), Nat.add_sub_cancel]
theorem cr_f {s : ab_q} {v : Nat} (h : ¬ crM s v < qWn s v (qM s)) : crC s (v + 1) = crC s v ∧ crM s (v + 1) = crM s v := by
  have a : crC s (v + 1) = crC s v := if_neg h
  refine ⟨a, ?_⟩
  unfold crM
  rw [a]
def crR (s : ab_q) : Nat → Nat
  | 0 => 0
  | v + 1 => if qWn s (crR s v) (qM s) < qWn s v (qM s) then v else crR s v
theorem cr_both (s : ab_q) : ∀ v, (crC s v = 0 ∧ crR s v = 0 ∧ ∀ x, x < v → qWn s x (qM s) = 0) ∨ (crC s v = crR s v + 1 ∧ crR s v < v)
  | 0 => Or.inl ⟨rfl, rfl, fun x h => by omega⟩
  | v + 1 => by
    by_cases h : crM s v < qWn s v (qM s)
    · rcases cr_both s v with ⟨a, b, c⟩ | ⟨a, b⟩
      · refine Or.inr ?_
        rw [(cr_t h).1]
        have e : crR s (v + 1) = v := by
          show (if qWn s (crR s v) (qM s) < qWn s v (qM s) then v else crR s v) = v
          by_cases z : v = 0
          · rw [z]
            split <;> rfl
          · rw [if_pos]
            rw [b, c 0 (by omega)]
            omega
        rw [e]
        exact ⟨rfl, Nat.lt_succ_self v⟩
      · refine Or.inr ?_
        have e : crR s (v + 1) = v := by
          show (if qWn s (crR s v) (qM s) < qWn s v (qM s) then v else crR s v) = v
          have : crM s v = qWn s (crR s v) (qM s) := by
            unfold crM
            rw [a, if_neg (by omega), Nat.add_sub_cancel]
          rw [if_pos (this ▸ h)]
        rw [(cr_t h).1, e]
        exact ⟨rfl, Nat.lt_succ_self v⟩
    · rcases cr_both s v with ⟨a, b, c⟩ | ⟨a, b⟩
      · refine Or.inl ?_
        have m0 : crM s v = 0 := by
          unfold crM
          rw [if_pos a]
        have w0 : qWn s v (qM s) = 0 := by omega
        refine ⟨(cr_f h).1.trans a, ?_, fun x hx => ?_⟩
        · show (if qWn s (crR s v) (qM s) < qWn s v (qM s) then v else crR s v) = 0
          rw [w0, if_neg (by omega), b]
        · by_cases z : x = v
          · rw [z, w0]
          · exact c x (by omega)
      · refine Or.inr ?_
        have : crM s v = qWn s (crR s v) (qM s) := by
          unfold crM
          rw [a, if_neg (by omega), Nat.add_sub_cancel]
        have e : crR s (v + 1) = crR s v := by
          show (if qWn s (crR s v) (qM s) < qWn s v (qM s) then v else crR s v) = crR s v
          rw [if_neg (this ▸ h)]
        rw [(cr_f h).1, e]
        exact ⟨a, by omega⟩
theorem cr_eq {s : ab_q} (I : qI s) (h : 0 < qM s) : qE (crC s 8) = nI (crR s 8) := by
  rcases cr_both s 8 with ⟨a, b, c⟩ | ⟨a, b⟩
  · have h7 := (I.2.2.2.2.1 0 h).2.2
    have := c _ (Nat.lt_succ_of_le h7)
    have := qWn_pos (s := s) (p := 0) rfl (qM s) h
    omega
  · rw [a]
    rfl
theorem cr_0 {s : ab_q} (h : qM s = 0) : qE (crC s 8) = -1 := by
  have w : ∀ v, qWn s v (qM s) = 0 := fun v => by
    have := qWn_le s v (qM s)
    omega
  have e : ∀ v, crC s v = 0 := by
    intro v
    induction v with
    | zero => rfl
    | succ v ih =>
      refine (cr_f ?_).1.trans ih
      rw [w]
      omega
  rw [e]
  rfl
section DE
variable {im : Int32} {lf : Int32} {s : ab_q} {d : ab_q} {k : ab_q} {ls : List Int32} {rf : Int32} {rz : Int32} {ra : Int32} {rn : Int32} {rq : ab_q} {lt : List Int32} {m1 : Int32} {m2 : Int32} {m3 : Int32} {m4 : Int32} {bd : List Int32} {fc : List Int32} {hd : Nat → Int32} {sz : Nat → Int32} {el : Nat → List Int64} {t : ab_q} {g : Nat → Int32} {fm : List Int32} {hm : List Nat} {so : List Nat} {si : List Nat} {sh : List Int32} {ce : List Int64} {ca : List Int64} {td : List Int32} {wa : List Int32} {kp : List Int32} {la : List Int32} {bf : List Int32} {oo : List Int32} {bo : List Int32} {pw : List Int32} {ow : List Int32} {tr : List Int32}
theorem deC_lt (s : ab_q) (m : Nat) : ∀ x, deC s m x ≤ x
  | 0 => Nat.le_refl _
  | x + 1 => by
    have := deC_lt s m x
    show (if qBit m x = 1 ∧ (deC s m x = 0 ∨ deN s m x < deN s m (deC s m x - 1)) then x + 1 else deC s m x) ≤ x + 1
    split <;> omega
set_option maxHeartbeats 1000000 in
theorem de_c {m : Nat} (I : qI s) (hM : m < 512) (l_ls : ls.length = 100) : ∀ n0 v (x5 : Option Value), v + n0 = qN s → Ef ab_Z0 3 mX5_dearest (16, [some (.ref 0), some (.int (qE (deC s m v))), some (.int (nI (deM s m 100 v))), some (.int (nI m)), some (.int (nI v)), x5], [], (ww im lf s d k (deL s m ls v) rf rz ra rn rq lt m1 m2 m3 m4 bd fc hd sz el t g fm hm so si sh ce ca td wa kp la bf oo bo pw ow tr)) (some (.int (qE (deC s m (qN s)))), (ww im lf s d k (deL s m ls (qN s)) rf rz ra rn rq lt m1 m2 m3 m4 bd fc hd sz el t g fm hm so si sh ce ca td wa kp la bf oo bo pw ow tr)) := by
  have h9 := I.2.2.1.1
  intro n0
  induction n0 with
  | zero =>
    intro v x5 hi
    have hi : v = qN s := by omega
    rw [hi]
    refine E_iload at_X5_dearest_16 rfl ?_
    refine E_aload_n at_X5_dearest_18 rfl ?_
    refine E_getfield (v := .ref 1) at_X5_dearest_19 w0 rfl (by decide) rfl ?_
    refine E_getfield (v := .int (nI (qN s))) at_X5_dearest_22 w1 rfl (by decide) rfl ?_
    refine E_ic (t := 79) (b := true) at_X5_dearest_25 rfl ((cn_ge (nI_toInt (by omega)) (nI_toInt (by omega))).trans (decide_eq_true (by omega))) ?_
    refine E_iload_n rfl rfl ?_
    exact E_iret rfl rfl
  | succ n0 ih =>
    intro v x5 hi
    rcases nat_opt (deC s m v) with hc0 | ⟨j, hc0⟩
    · rcases qBit2 m v with hb | hb
      · have hm0 : deM s m 100 v = 100 := if_pos hc0
        have e := de_f (s := s) (m := m) (x := v) (fun z => by have := z.1; omega) 100
        have e3 : deL s m ls (v + 1) = deL s m ls v := if_neg (by omega)
        refine E_iload at_X5_dearest_16 rfl ?_
        refine E_aload_n at_X5_dearest_18 rfl ?_
        refine E_getfield (v := .ref 1) at_X5_dearest_19 w0 rfl (by decide) rfl ?_
        refine E_getfield (v := .int (nI (qN s))) at_X5_dearest_22 w1 rfl (by decide) rfl ?_
        refine E_ic (t := 79) (b := false) at_X5_dearest_25 rfl ((cn_ge (nI_toInt (by omega)) (nI_toInt (by omega))).trans (decide_eq_false (by omega))) ?_
        refine E_iload_n at_X5_dearest_28 rfl ?_
        refine E_iload at_X5_dearest_29 rfl ?_
        refine E_callS (v := some (.int (nI (qBit m v)))) (As := [.int (nI m), .int (nI v)]) (r0 := []) (cs2 := (ww im lf s d k (deL s m ls v) rf rz ra rn rq lt m1 m2 m3 m4 bd fc hd sz el t g fm hm so si sh ce ca td wa kp la bf oo bo pw ow tr)) at_X5_dearest_31 rfl rfl (Nat.le_of_ble_eq_true rfl) rfl (sq_isBit (by omega) (by omega)) (by decide) rfl ?_
        refine E_if (t := 40) (b := false) at_X5_dearest_34 rfl ((cn_ne (nI_toInt (by omega)) (by decide : (0 : Int32).toInt = 0)).trans (decide_eq_false (by omega))) ?_
        refine E_goto (t := 73) rfl rfl ?_
        refine E_iinc (y := nI (v + 1)) (L2 := [some (.ref 0), some (.int (qE (deC s m v))), some (.int (nI (deM s m 100 v))), some (.int (nI m)), some (.int (nI (v + 1))), x5]) at_X5_dearest_73 rfl (nI_1 _) rfl ?_
        refine E_goto (t := 16) at_X5_dearest_76 rfl ?_
        have X := ih (v + 1) x5 (by omega)
        rw [e.1, e.2, e3] at X
        exact X
      · have hm0 : deM s m 100 v = 100 := if_pos hc0
        have hle := qBit_le hb
        have hp2 := Nat.two_pow_pos v
        have hn := deN_99 s m v
        have e := de_t (s := s) hb (Or.inl hc0) 100
        have e3 : deL s m ls (v + 1) = lsF (wgh s (m - 2 ^ v) (qN s)) := if_pos hb
        refine E_iload at_X5_dearest_16 rfl ?_
        refine E_aload_n at_X5_dearest_18 rfl ?_
        refine E_getfield (v := .ref 1) at_X5_dearest_19 w0 rfl (by decide) rfl ?_
        refine E_getfield (v := .int (nI (qN s))) at_X5_dearest_22 w1 rfl (by decide) rfl ?_
        refine E_ic (t := 79) (b := false) at_X5_dearest_25 rfl ((cn_ge (nI_toInt (by omega)) (nI_toInt (by omega))).trans (decide_eq_false (by omega))) ?_
        refine E_iload_n at_X5_dearest_28 rfl ?_
        refine E_iload at_X5_dearest_29 rfl ?_
        refine E_callS (v := some (.int (nI (qBit m v)))) (As := [.int (nI m), .int (nI v)]) (r0 := []) (cs2 := (ww im lf s d k (deL s m ls v) rf rz ra rn rq lt m1 m2 m3 m4 bd fc hd sz el t g fm hm so si sh ce ca td wa kp la bf oo bo pw ow tr)) at_X5_dearest_31 rfl rfl (Nat.le_of_ble_eq_true rfl) rfl (sq_isBit (by omega) (by omega)) (by decide) rfl ?_
        refine E_if (t := 40) (b := true) at_X5_dearest_34 rfl ((cn_ne (nI_toInt (by omega)) (by decide : (0 : Int32).toInt = 0)).trans (decide_eq_true (by omega))) ?_
        refine E_aload_n rfl rfl ?_
        refine E_getfield (v := .ref 32) rfl w0 rfl (by decide) rfl ?_
        refine E_aload_n rfl rfl ?_
        refine E_getfield (v := .ref 1) rfl w0 rfl (by decide) rfl ?_
        refine E_iload_n rfl rfl ?_
        refine E_iconst (x := nI 1) rfl (by decide) ?_
        refine E_iload rfl rfl ?_
        refine E_ishl (z := nI (2 ^ v)) rfl (ab_shl (by omega)) ?_
        refine E_iconst (x := (-1)) rfl (by decide) ?_
        refine E_ixor (z := (nI (2 ^ v)) ^^^ (-1)) rfl rfl ?_
        refine E_iand (z := nI (m - 2 ^ v)) rfl (ab_clr m hM v (by omega) hb) ?_
        refine E_callV (v := some (.int (nI (deN s m v)))) (As := [.ref 32, .ref 1, .int (nI (m - 2 ^ v))]) (r0 := []) (cs2 := (ww im lf s d k (lsF (wgh s (m - 2 ^ v) (qN s))) rf rz ra rn rq lt m1 m2 m3 m4 bd fc hd sz el t g fm hm so si sh ce ca td wa kp la bf oo bo pw ow tr)) rfl rfl rfl (Nat.le_of_ble_eq_true rfl) rfl (ab_rvOf w32 rfl) (w_amounts1 (m := m - 2 ^ v) I (by omega) (deL_len l_ls v)) (by decide) w_lens ?_
        refine E_istore (L2 := [some (.ref 0), some (.int (qE (deC s m v))), some (.int (nI (deM s m 100 v))), some (.int (nI m)), some (.int (nI v)), some (.int (nI (deN s m v)))]) rfl rfl ?_
        refine E_iload rfl rfl ?_
        refine E_iload_n rfl rfl ?_
        refine E_ic (t := 73) (b := false) rfl rfl ((cn_ge (nI_toInt (by omega)) (nI_toInt (by omega))).trans (decide_eq_false (by omega))) ?_
        refine E_iload rfl rfl ?_
        refine E_istore_n (L2 := [some (.ref 0), some (.int (qE (deC s m v))), some (.int (nI (deN s m v))), some (.int (nI m)), some (.int (nI v)), some (.int (nI (deN s m v)))]) rfl rfl ?_
        refine E_iload rfl rfl ?_
        refine E_istore_n (L2 := [some (.ref 0), some (.int (nI v)), some (.int (nI (deN s m v))), some (.int (nI m)), some (.int (nI v)), some (.int (nI (deN s m v)))]) rfl rfl ?_
        refine E_iinc (y := nI (v + 1)) (L2 := [some (.ref 0), some (.int (nI v)), some (.int (nI (deN s m v))), some (.int (nI m)), some (.int (nI (v + 1))), some (.int (nI (deN s m v)))]) at_X5_dearest_73 rfl (nI_1 _) rfl ?_
        refine E_goto (t := 16) at_X5_dearest_76 rfl ?_
        have X := ih (v + 1) (some (.int (nI (deN s m v)))) (by omega)
        rw [e.1, e.2, e3] at X
        exact X
    · rcases qBit2 m v with hb | hb
      · have hj : j < v := by have := deC_lt s m v; omega
        have hj9 := deN_99 s m j
        have hm0 : deM s m 100 v = deN s m j := by unfold deM; rw [hc0, if_neg (by omega), Nat.add_sub_cancel]
        have e := de_f (s := s) (m := m) (x := v) (fun z => by have := z.1; omega) 100
        have e3 : deL s m ls (v + 1) = deL s m ls v := if_neg (by omega)
        refine E_iload at_X5_dearest_16 rfl ?_
        refine E_aload_n at_X5_dearest_18 rfl ?_
        refine E_getfield (v := .ref 1) at_X5_dearest_19 w0 rfl (by decide) rfl ?_
        refine E_getfield (v := .int (nI (qN s))) at_X5_dearest_22 w1 rfl (by decide) rfl ?_
        refine E_ic (t := 79) (b := false) at_X5_dearest_25 rfl ((cn_ge (nI_toInt (by omega)) (nI_toInt (by omega))).trans (decide_eq_false (by omega))) ?_
        refine E_iload_n at_X5_dearest_28 rfl ?_
        refine E_iload at_X5_dearest_29 rfl ?_
        refine E_callS (v := some (.int (nI (qBit m v)))) (As := [.int (nI m), .int (nI v)]) (r0 := []) (cs2 := (ww im lf s d k (deL s m ls v) rf rz ra rn rq lt m1 m2 m3 m4 bd fc hd sz el t g fm hm so si sh ce ca td wa kp la bf oo bo pw ow tr)) at_X5_dearest_31 rfl rfl (Nat.le_of_ble_eq_true rfl) rfl (sq_isBit (by omega) (by omega)) (by decide) rfl ?_
        refine E_if (t := 40) (b := false) at_X5_dearest_34 rfl ((cn_ne (nI_toInt (by omega)) (by decide : (0 : Int32).toInt = 0)).trans (decide_eq_false (by omega))) ?_
        refine E_goto (t := 73) rfl rfl ?_
        refine E_iinc (y := nI (v + 1)) (L2 := [some (.ref 0), some (.int (qE (deC s m v))), some (.int (nI (deM s m 100 v))), some (.int (nI m)), some (.int (nI (v + 1))), x5]) at_X5_dearest_73 rfl (nI_1 _) rfl ?_
        refine E_goto (t := 16) at_X5_dearest_76 rfl ?_
        have X := ih (v + 1) x5 (by omega)
        rw [e.1, e.2, e3] at X
        exact X
      · by_cases f2 : (deN s m v) < (deM s m 100 v)
        · have hj : j < v := by have := deC_lt s m v; omega
          have hj9 := deN_99 s m j
          have hm0 : deM s m 100 v = deN s m j := by unfold deM; rw [hc0, if_neg (by omega), Nat.add_sub_cancel]
          have hle := qBit_le hb
          have hp2 := Nat.two_pow_pos v
          have hn := deN_99 s m v
          have e := de_t (s := s) hb (Or.inr (by rw [hc0]; exact (by omega : deN s m v < deN s m j))) 100
          have e3 : deL s m ls (v + 1) = lsF (wgh s (m - 2 ^ v) (qN s)) := if_pos hb
          refine E_iload at_X5_dearest_16 rfl ?_
          refine E_aload_n at_X5_dearest_18 rfl ?_
          refine E_getfield (v := .ref 1) at_X5_dearest_19 w0 rfl (by decide) rfl ?_
          refine E_getfield (v := .int (nI (qN s))) at_X5_dearest_22 w1 rfl (by decide) rfl ?_
          refine E_ic (t := 79) (b := false) at_X5_dearest_25 rfl ((cn_ge (nI_toInt (by omega)) (nI_toInt (by omega))).trans (decide_eq_false (by omega))) ?_
          refine E_iload_n at_X5_dearest_28 rfl ?_
          refine E_iload at_X5_dearest_29 rfl ?_
          refine E_callS (v := some (.int (nI (qBit m v)))) (As := [.int (nI m), .int (nI v)]) (r0 := []) (cs2 := (ww im lf s d k (deL s m ls v) rf rz ra rn rq lt m1 m2 m3 m4 bd fc hd sz el t g fm hm so si sh ce ca td wa kp la bf oo bo pw ow tr)) at_X5_dearest_31 rfl rfl (Nat.le_of_ble_eq_true rfl) rfl (sq_isBit (by omega) (by omega)) (by decide) rfl ?_
          refine E_if (t := 40) (b := true) at_X5_dearest_34 rfl ((cn_ne (nI_toInt (by omega)) (by decide : (0 : Int32).toInt = 0)).trans (decide_eq_true (by omega))) ?_
          refine E_aload_n rfl rfl ?_
          refine E_getfield (v := .ref 32) rfl w0 rfl (by decide) rfl ?_
          refine E_aload_n rfl rfl ?_
          refine E_getfield (v := .ref 1) rfl w0 rfl (by decide) rfl ?_
          refine E_iload_n rfl rfl ?_
          refine E_iconst (x := nI 1) rfl (by decide) ?_
          refine E_iload rfl rfl ?_
          refine E_ishl (z := nI (2 ^ v)) rfl (ab_shl (by omega)) ?_
          refine E_iconst (x := (-1)) rfl (by decide) ?_
          refine E_ixor (z := (nI (2 ^ v)) ^^^ (-1)) rfl rfl ?_
          refine E_iand (z := nI (m - 2 ^ v)) rfl (ab_clr m hM v (by omega) hb) ?_
          refine E_callV (v := some (.int (nI (deN s m v)))) (As := [.ref 32, .ref 1, .int (nI (m - 2 ^ v))]) (r0 := []) (cs2 := (ww im lf s d k (lsF (wgh s (m - 2 ^ v) (qN s))) rf rz ra rn rq lt m1 m2 m3 m4 bd fc hd sz el t g fm hm so si sh ce ca td wa kp la bf oo bo pw ow tr)) rfl rfl rfl (Nat.le_of_ble_eq_true rfl) rfl (ab_rvOf w32 rfl) (w_amounts1 (m := m - 2 ^ v) I (by omega) (deL_len l_ls v)) (by decide) w_lens ?_
          refine E_istore (L2 := [some (.ref 0), some (.int (qE (deC s m v))), some (.int (nI (deM s m 100 v))), some (.int (nI m)), some (.int (nI v)), some (.int (nI (deN s m v)))]) rfl rfl ?_
          refine E_iload rfl rfl ?_
          refine E_iload_n rfl rfl ?_
          refine E_ic (t := 73) (b := false) rfl rfl ((cn_ge (nI_toInt (by omega)) (nI_toInt (by omega))).trans (decide_eq_false (by omega))) ?_
          refine E_iload rfl rfl ?_
          refine E_istore_n (L2 := [some (.ref 0), some (.int (qE (deC s m v))), some (.int (nI (deN s m v))), some (.int (nI m)), some (.int (nI v)), some (.int (nI (deN s m v)))]) rfl rfl ?_
          refine E_iload rfl rfl ?_
          refine E_istore_n (L2 := [some (.ref 0), some (.int (nI v)), some (.int (nI (deN s m v))), some (.int (nI m)), some (.int (nI v)), some (.int (nI (deN s m v)))]) rfl rfl ?_
          refine E_iinc (y := nI (v + 1)) (L2 := [some (.ref 0), some (.int (nI v)), some (.int (nI (deN s m v))), some (.int (nI m)), some (.int (nI (v + 1))), some (.int (nI (deN s m v)))]) at_X5_dearest_73 rfl (nI_1 _) rfl ?_
          refine E_goto (t := 16) at_X5_dearest_76 rfl ?_
          have X := ih (v + 1) (some (.int (nI (deN s m v)))) (by omega)
          rw [e.1, e.2, e3] at X
          exact X
        · have hj : j < v := by have := deC_lt s m v; omega
          have hj9 := deN_99 s m j
          have hm0 : deM s m 100 v = deN s m j := by unfold deM; rw [hc0, if_neg (by omega), Nat.add_sub_cancel]
          have hle := qBit_le hb
          have hp2 := Nat.two_pow_pos v
          have hn := deN_99 s m v
          have e := de_f (s := s) (m := m) (x := v) (fun z => by
          rcases z.2 with z | z
          · omega
          · rw [hc0] at z
            exact absurd z (by exact (by omega : ¬ deN s m v < deN s m j))) 100
          have e3 : deL s m ls (v + 1) = lsF (wgh s (m - 2 ^ v) (qN s)) := if_pos hb
          refine E_iload at_X5_dearest_16 rfl ?_
          refine E_aload_n at_X5_dearest_18 rfl ?_
          refine E_getfield (v := .ref 1) at_X5_dearest_19 w0 rfl (by decide) rfl ?_
          refine E_getfield (v := .int (nI (qN s))) at_X5_dearest_22 w1 rfl (by decide) rfl ?_
          refine E_ic (t := 79) (b := false) at_X5_dearest_25 rfl ((cn_ge (nI_toInt (by omega)) (nI_toInt (by omega))).trans (decide_eq_false (by omega))) ?_
          refine E_iload_n at_X5_dearest_28 rfl ?_
          refine E_iload at_X5_dearest_29 rfl ?_
          refine E_callS (v := some (.int (nI (qBit m v)))) (As := [.int (nI m), .int (nI v)]) (r0 := []) (cs2 := (ww im lf s d k (deL s m ls v) rf rz ra rn rq lt m1 m2 m3 m4 bd fc hd sz el t g fm hm so si sh ce ca td wa kp la bf oo bo pw ow tr)) at_X5_dearest_31 rfl rfl (Nat.le_of_ble_eq_true rfl) rfl (sq_isBit (by omega) (by omega)) (by decide) rfl ?_
          refine E_if (t := 40) (b := true) at_X5_dearest_34 rfl ((cn_ne (nI_toInt (by omega)) (by decide : (0 : Int32).toInt = 0)).trans (decide_eq_true (by omega))) ?_
          refine E_aload_n rfl rfl ?_
          refine E_getfield (v := .ref 32) rfl w0 rfl (by decide) rfl ?_
          refine E_aload_n rfl rfl ?_
          refine E_getfield (v := .ref 1) rfl w0 rfl (by decide) rfl ?_
          refine E_iload_n rfl rfl ?_
          refine E_iconst (x := nI 1) rfl (by decide) ?_
          refine E_iload rfl rfl ?_
          refine E_ishl (z := nI (2 ^ v)) rfl (ab_shl (by omega)) ?_
          refine E_iconst (x := (-1)) rfl (by decide) ?_
          refine E_ixor (z := (nI (2 ^ v)) ^^^ (-1)) rfl rfl ?_
          refine E_iand (z := nI (m - 2 ^ v)) rfl (ab_clr m hM v (by omega) hb) ?_
          refine E_callV (v := some (.int (nI (deN s m v)))) (As := [.ref 32, .ref 1, .int (nI (m - 2 ^ v))]) (r0 := []) (cs2 := (ww im lf s d k (lsF (wgh s (m - 2 ^ v) (qN s))) rf rz ra rn rq lt m1 m2 m3 m4 bd fc hd sz el t g fm hm so si sh ce ca td wa kp la bf oo bo pw ow tr)) rfl rfl rfl (Nat.le_of_ble_eq_true rfl) rfl (ab_rvOf w32 rfl) (w_amounts1 (m := m - 2 ^ v) I (by omega) (deL_len l_ls v)) (by decide) w_lens ?_
          refine E_istore (L2 := [some (.ref 0), some (.int (qE (deC s m v))), some (.int (nI (deM s m 100 v))), some (.int (nI m)), some (.int (nI v)), some (.int (nI (deN s m v)))]) rfl rfl ?_
          refine E_iload rfl rfl ?_
          refine E_iload_n rfl rfl ?_
          refine E_ic (t := 73) (b := true) rfl rfl ((cn_ge (nI_toInt (by omega)) (nI_toInt (by omega))).trans (decide_eq_true (by omega))) ?_
          refine E_iinc (y := nI (v + 1)) (L2 := [some (.ref 0), some (.int (qE (deC s m v))), some (.int (nI (deM s m 100 v))), some (.int (nI m)), some (.int (nI (v + 1))), some (.int (nI (deN s m v)))]) at_X5_dearest_73 rfl (nI_1 _) rfl ?_
          refine E_goto (t := 16) at_X5_dearest_76 rfl ?_
          have X := ih (v + 1) (some (.int (nI (deN s m v)))) (by omega)
          rw [e.1, e.2, e3] at X
          exact X
set_option maxHeartbeats 1000000 in
theorem de_m {m : Nat} (I : qI t) (hM : m < 512) (l_bf : bf.length = 100) : ∀ n0 v (x5 : Option Value), v + n0 = qN t → Ef ab_Z0 3 mX6_dearest (14, [some (.ref 65), some (.int (nI m)), some (.int (qE (deC t m v))), some (.int (nI (deM t m 0 v))), some (.int (nI v)), x5], [], (ww im lf s d k ls rf rz ra rn rq lt m1 m2 m3 m4 bd fc hd sz el t g fm hm so si sh ce ca td wa kp la (deB t m bf v) oo bo pw ow tr)) (some (.int (qE (deC t m (qN t)))), (ww im lf s d k ls rf rz ra rn rq lt m1 m2 m3 m4 bd fc hd sz el t g fm hm so si sh ce ca td wa kp la (deB t m bf (qN t)) oo bo pw ow tr)) := by
  have h9 := I.2.2.1.1
  intro n0
  induction n0 with
  | zero =>
    intro v x5 hi
    have hi : v = qN t := by omega
    rw [hi]
    refine E_iload at_X6_dearest_14 rfl ?_
    refine E_aload_n at_X6_dearest_16 rfl ?_
    refine E_getfield (v := .int (nI (qN t))) at_X6_dearest_17 w65 rfl (by decide) rfl ?_
    refine E_ic (t := 78) (b := true) at_X6_dearest_20 rfl ((cn_ge (nI_toInt (by omega)) (nI_toInt (by omega))).trans (decide_eq_true (by omega))) ?_
    refine E_iload_n rfl rfl ?_
    exact E_iret rfl rfl
  | succ n0 ih =>
    intro v x5 hi
    rcases nat_opt (deC t m v) with hc0 | ⟨j, hc0⟩
    · rcases qBit2 m v with hb | hb
      · have hm0 : deM t m 0 v = 0 := if_pos hc0
        have dm := Nat.div_le_self m (2 ^ v)
        have e := de_f (s := t) (m := m) (x := v) (fun z => by have := z.1; omega) 0
        have e3 : deB t m bf (v + 1) = deB t m bf v := if_neg (by omega)
        refine E_iload at_X6_dearest_14 rfl ?_
        refine E_aload_n at_X6_dearest_16 rfl ?_
        refine E_getfield (v := .int (nI (qN t))) at_X6_dearest_17 w65 rfl (by decide) rfl ?_
        refine E_ic (t := 78) (b := false) at_X6_dearest_20 rfl ((cn_ge (nI_toInt (by omega)) (nI_toInt (by omega))).trans (decide_eq_false (by omega))) ?_
        refine E_iload_n at_X6_dearest_23 rfl ?_
        refine E_iload at_X6_dearest_24 rfl ?_
        refine E_ishr (z := nI (m / 2 ^ v)) at_X6_dearest_26 (ab_shr (by omega) (by omega)) ?_
        refine E_iconst (x := nI 1) at_X6_dearest_27 (by decide) ?_
        refine E_iand (z := nI (qBit m v)) at_X6_dearest_28 (ab_and1 (by omega)) ?_
        refine E_if (t := 35) (b := false) at_X6_dearest_29 rfl ((cn_ne (nI_toInt (by omega)) (by decide : (0 : Int32).toInt = 0)).trans (decide_eq_false (by omega))) ?_
        refine E_goto (t := 72) rfl rfl ?_
        refine E_iinc (y := nI (v + 1)) (L2 := [some (.ref 65), some (.int (nI m)), some (.int (qE (deC t m v))), some (.int (nI (deM t m 0 v))), some (.int (nI (v + 1))), x5]) at_X6_dearest_72 rfl (nI_1 _) rfl ?_
        refine E_goto (t := 14) at_X6_dearest_75 rfl ?_
        have X := ih (v + 1) x5 (by omega)
        rw [e.1, e.2, e3] at X
        exact X
      · have hm0 : deM t m 0 v = 0 := if_pos hc0
        have hle := qBit_le hb
        have hp2 := Nat.two_pow_pos v
        have dm := Nat.div_le_self m (2 ^ v)
        have hn := deN_99 t m v
        have w9 : 2 ^ qN t ≤ 2 ^ 9 := Nat.pow_le_pow_right (by decide) (by omega)
        have e := de_t (s := t) hb (Or.inl hc0) 0
        have e3 : deB t m bf (v + 1) = lsF (bst t (m - 2 ^ v) (qN t) (2 ^ qN t)) := if_pos hb
        refine E_iload at_X6_dearest_14 rfl ?_
        refine E_aload_n at_X6_dearest_16 rfl ?_
        refine E_getfield (v := .int (nI (qN t))) at_X6_dearest_17 w65 rfl (by decide) rfl ?_
        refine E_ic (t := 78) (b := false) at_X6_dearest_20 rfl ((cn_ge (nI_toInt (by omega)) (nI_toInt (by omega))).trans (decide_eq_false (by omega))) ?_
        refine E_iload_n at_X6_dearest_23 rfl ?_
        refine E_iload at_X6_dearest_24 rfl ?_
        refine E_ishr (z := nI (m / 2 ^ v)) at_X6_dearest_26 (ab_shr (by omega) (by omega)) ?_
        refine E_iconst (x := nI 1) at_X6_dearest_27 (by decide) ?_
        refine E_iand (z := nI (qBit m v)) at_X6_dearest_28 (ab_and1 (by omega)) ?_
        refine E_if (t := 35) (b := true) at_X6_dearest_29 rfl ((cn_ne (nI_toInt (by omega)) (by decide : (0 : Int32).toInt = 0)).trans (decide_eq_true (by omega))) ?_
        refine E_aload_n rfl rfl ?_
        refine E_iload_n rfl rfl ?_
        refine E_iconst (x := nI 1) rfl (by decide) ?_
        refine E_iload rfl rfl ?_
        refine E_ishl (z := nI (2 ^ v)) rfl (ab_shl (by omega)) ?_
        refine E_isub (z := nI (m - (2 ^ v))) rfl (pk_sub (by omega)) ?_
        refine E_callV (v := none) (As := [.ref 65, .int (nI (m - (2 ^ v)))]) (r0 := []) (cs2 := (ww im lf s d k ls rf rz ra rn rq lt m1 m2 m3 m4 bd fc hd sz el t g fm hm so si sh ce ca td wa kp la (lsF (bst t (m - 2 ^ v) (qN t) (2 ^ qN t))) oo bo pw ow tr)) rfl rfl rfl (Nat.le_of_ble_eq_true rfl) rfl (ab_rvOf w65 rfl) (w_best (m := m - 2 ^ v) I (by omega) (deB_len l_bf v)) (by decide) w_lens ?_
        refine E_aload_n rfl rfl ?_
        refine E_iconst (x := nI 0) rfl (by decide) ?_
        refine E_callV (v := some (.int (nI (deN t m v)))) (As := [.ref 65, .int (nI 0)]) (r0 := []) (cs2 := (ww im lf s d k ls rf rz ra rn rq lt m1 m2 m3 m4 bd fc hd sz el t g fm hm so si sh ce ca td wa kp la (lsF (bst t (m - 2 ^ v) (qN t) (2 ^ qN t))) oo bo pw ow tr)) rfl rfl rfl (Nat.le_of_ble_eq_true rfl) rfl (ab_rvOf w65 rfl) (Ev.vi (congrArg nI (cnt_wb _).symm) (w_many0 (bst_bd (by omega)))) (by decide) rfl ?_
        refine E_istore (L2 := [some (.ref 65), some (.int (nI m)), some (.int (qE (deC t m v))), some (.int (nI (deM t m 0 v))), some (.int (nI v)), some (.int (nI (deN t m v)))]) rfl rfl ?_
        refine E_iload_n rfl rfl ?_
        refine E_iconst (x := (-1)) rfl (by decide) ?_
        refine E_ic (t := 66) (b := true) rfl rfl (by rw [hc0]; decide) ?_
        refine E_iload rfl rfl ?_
        refine E_istore_n (L2 := [some (.ref 65), some (.int (nI m)), some (.int (nI v)), some (.int (nI (deM t m 0 v))), some (.int (nI v)), some (.int (nI (deN t m v)))]) rfl rfl ?_
        refine E_iload rfl rfl ?_
        refine E_istore_n (L2 := [some (.ref 65), some (.int (nI m)), some (.int (nI v)), some (.int (nI (deN t m v))), some (.int (nI v)), some (.int (nI (deN t m v)))]) rfl rfl ?_
        refine E_iinc (y := nI (v + 1)) (L2 := [some (.ref 65), some (.int (nI m)), some (.int (nI v)), some (.int (nI (deN t m v))), some (.int (nI (v + 1))), some (.int (nI (deN t m v)))]) at_X6_dearest_72 rfl (nI_1 _) rfl ?_
        refine E_goto (t := 14) at_X6_dearest_75 rfl ?_
        have X := ih (v + 1) (some (.int (nI (deN t m v)))) (by omega)
        rw [e.1, e.2, e3] at X
        exact X
    · rcases qBit2 m v with hb | hb
      · have hj : j < v := by have := deC_lt t m v; omega
        have hj9 := deN_99 t m j
        have hm0 : deM t m 0 v = deN t m j := by unfold deM; rw [hc0, if_neg (by omega), Nat.add_sub_cancel]
        have dm := Nat.div_le_self m (2 ^ v)
        have e := de_f (s := t) (m := m) (x := v) (fun z => by have := z.1; omega) 0
        have e3 : deB t m bf (v + 1) = deB t m bf v := if_neg (by omega)
        refine E_iload at_X6_dearest_14 rfl ?_
        refine E_aload_n at_X6_dearest_16 rfl ?_
        refine E_getfield (v := .int (nI (qN t))) at_X6_dearest_17 w65 rfl (by decide) rfl ?_
        refine E_ic (t := 78) (b := false) at_X6_dearest_20 rfl ((cn_ge (nI_toInt (by omega)) (nI_toInt (by omega))).trans (decide_eq_false (by omega))) ?_
        refine E_iload_n at_X6_dearest_23 rfl ?_
        refine E_iload at_X6_dearest_24 rfl ?_
        refine E_ishr (z := nI (m / 2 ^ v)) at_X6_dearest_26 (ab_shr (by omega) (by omega)) ?_
        refine E_iconst (x := nI 1) at_X6_dearest_27 (by decide) ?_
        refine E_iand (z := nI (qBit m v)) at_X6_dearest_28 (ab_and1 (by omega)) ?_
        refine E_if (t := 35) (b := false) at_X6_dearest_29 rfl ((cn_ne (nI_toInt (by omega)) (by decide : (0 : Int32).toInt = 0)).trans (decide_eq_false (by omega))) ?_
        refine E_goto (t := 72) rfl rfl ?_
        refine E_iinc (y := nI (v + 1)) (L2 := [some (.ref 65), some (.int (nI m)), some (.int (qE (deC t m v))), some (.int (nI (deM t m 0 v))), some (.int (nI (v + 1))), x5]) at_X6_dearest_72 rfl (nI_1 _) rfl ?_
        refine E_goto (t := 14) at_X6_dearest_75 rfl ?_
        have X := ih (v + 1) x5 (by omega)
        rw [e.1, e.2, e3] at X
        exact X
      · by_cases f2 : (deN t m v) < (deM t m 0 v)
        · have hj : j < v := by have := deC_lt t m v; omega
          have hj9 := deN_99 t m j
          have hm0 : deM t m 0 v = deN t m j := by unfold deM; rw [hc0, if_neg (by omega), Nat.add_sub_cancel]
          have hle := qBit_le hb
          have hp2 := Nat.two_pow_pos v
          have dm := Nat.div_le_self m (2 ^ v)
          have hn := deN_99 t m v
          have w9 : 2 ^ qN t ≤ 2 ^ 9 := Nat.pow_le_pow_right (by decide) (by omega)
          have e := de_t (s := t) hb (Or.inr (by rw [hc0]; exact (by omega : deN t m v < deN t m j))) 0
          have e3 : deB t m bf (v + 1) = lsF (bst t (m - 2 ^ v) (qN t) (2 ^ qN t)) := if_pos hb
          refine E_iload at_X6_dearest_14 rfl ?_
          refine E_aload_n at_X6_dearest_16 rfl ?_
          refine E_getfield (v := .int (nI (qN t))) at_X6_dearest_17 w65 rfl (by decide) rfl ?_
          refine E_ic (t := 78) (b := false) at_X6_dearest_20 rfl ((cn_ge (nI_toInt (by omega)) (nI_toInt (by omega))).trans (decide_eq_false (by omega))) ?_
          refine E_iload_n at_X6_dearest_23 rfl ?_
          refine E_iload at_X6_dearest_24 rfl ?_
          refine E_ishr (z := nI (m / 2 ^ v)) at_X6_dearest_26 (ab_shr (by omega) (by omega)) ?_
          refine E_iconst (x := nI 1) at_X6_dearest_27 (by decide) ?_
          refine E_iand (z := nI (qBit m v)) at_X6_dearest_28 (ab_and1 (by omega)) ?_
          refine E_if (t := 35) (b := true) at_X6_dearest_29 rfl ((cn_ne (nI_toInt (by omega)) (by decide : (0 : Int32).toInt = 0)).trans (decide_eq_true (by omega))) ?_
          refine E_aload_n rfl rfl ?_
          refine E_iload_n rfl rfl ?_
          refine E_iconst (x := nI 1) rfl (by decide) ?_
          refine E_iload rfl rfl ?_
          refine E_ishl (z := nI (2 ^ v)) rfl (ab_shl (by omega)) ?_
          refine E_isub (z := nI (m - (2 ^ v))) rfl (pk_sub (by omega)) ?_
          refine E_callV (v := none) (As := [.ref 65, .int (nI (m - (2 ^ v)))]) (r0 := []) (cs2 := (ww im lf s d k ls rf rz ra rn rq lt m1 m2 m3 m4 bd fc hd sz el t g fm hm so si sh ce ca td wa kp la (lsF (bst t (m - 2 ^ v) (qN t) (2 ^ qN t))) oo bo pw ow tr)) rfl rfl rfl (Nat.le_of_ble_eq_true rfl) rfl (ab_rvOf w65 rfl) (w_best (m := m - 2 ^ v) I (by omega) (deB_len l_bf v)) (by decide) w_lens ?_
          refine E_aload_n rfl rfl ?_
          refine E_iconst (x := nI 0) rfl (by decide) ?_
          refine E_callV (v := some (.int (nI (deN t m v)))) (As := [.ref 65, .int (nI 0)]) (r0 := []) (cs2 := (ww im lf s d k ls rf rz ra rn rq lt m1 m2 m3 m4 bd fc hd sz el t g fm hm so si sh ce ca td wa kp la (lsF (bst t (m - 2 ^ v) (qN t) (2 ^ qN t))) oo bo pw ow tr)) rfl rfl rfl (Nat.le_of_ble_eq_true rfl) rfl (ab_rvOf w65 rfl) (Ev.vi (congrArg nI (cnt_wb _).symm) (w_many0 (bst_bd (by omega)))) (by decide) rfl ?_
          refine E_istore (L2 := [some (.ref 65), some (.int (nI m)), some (.int (qE (deC t m v))), some (.int (nI (deM t m 0 v))), some (.int (nI v)), some (.int (nI (deN t m v)))]) rfl rfl ?_
          refine E_iload_n rfl rfl ?_
          refine E_iconst (x := (-1)) rfl (by decide) ?_
          refine E_ic (t := 66) (b := false) rfl rfl (by rw [hc0]; show ab_cn ClassFile.Cond.eq (nI j) (-1) = false; exact (cn_eq (nI_toInt (by omega)) (by decide : (-1 : Int32).toInt = -1)).trans (decide_eq_false (by omega))) ?_
          refine E_iload rfl rfl ?_
          refine E_iload_n rfl rfl ?_
          refine E_ic (t := 66) (b := true) rfl rfl ((cn_lt (nI_toInt (by omega)) (nI_toInt (by omega))).trans (decide_eq_true (by omega))) ?_
          refine E_iload rfl rfl ?_
          refine E_istore_n (L2 := [some (.ref 65), some (.int (nI m)), some (.int (nI v)), some (.int (nI (deM t m 0 v))), some (.int (nI v)), some (.int (nI (deN t m v)))]) rfl rfl ?_
          refine E_iload rfl rfl ?_
          refine E_istore_n (L2 := [some (.ref 65), some (.int (nI m)), some (.int (nI v)), some (.int (nI (deN t m v))), some (.int (nI v)), some (.int (nI (deN t m v)))]) rfl rfl ?_
          refine E_iinc (y := nI (v + 1)) (L2 := [some (.ref 65), some (.int (nI m)), some (.int (nI v)), some (.int (nI (deN t m v))), some (.int (nI (v + 1))), some (.int (nI (deN t m v)))]) at_X6_dearest_72 rfl (nI_1 _) rfl ?_
          refine E_goto (t := 14) at_X6_dearest_75 rfl ?_
          have X := ih (v + 1) (some (.int (nI (deN t m v)))) (by omega)
          rw [e.1, e.2, e3] at X
          exact X
        · have hj : j < v := by have := deC_lt t m v; omega
          have hj9 := deN_99 t m j
          have hm0 : deM t m 0 v = deN t m j := by unfold deM; rw [hc0, if_neg (by omega), Nat.add_sub_cancel]
          have hle := qBit_le hb
          have hp2 := Nat.two_pow_pos v
          have dm := Nat.div_le_self m (2 ^ v)
          have hn := deN_99 t m v
          have w9 : 2 ^ qN t ≤ 2 ^ 9 := Nat.pow_le_pow_right (by decide) (by omega)
          have e := de_f (s := t) (m := m) (x := v) (fun z => by
          rcases z.2 with z | z
          · omega
          · rw [hc0] at z
            exact absurd z (by exact (by omega : ¬ deN t m v < deN t m j))) 0
          have e3 : deB t m bf (v + 1) = lsF (bst t (m - 2 ^ v) (qN t) (2 ^ qN t)) := if_pos hb
          refine E_iload at_X6_dearest_14 rfl ?_
          refine E_aload_n at_X6_dearest_16 rfl ?_
          refine E_getfield (v := .int (nI (qN t))) at_X6_dearest_17 w65 rfl (by decide) rfl ?_
          refine E_ic (t := 78) (b := false) at_X6_dearest_20 rfl ((cn_ge (nI_toInt (by omega)) (nI_toInt (by omega))).trans (decide_eq_false (by omega))) ?_
          refine E_iload_n at_X6_dearest_23 rfl ?_
          refine E_iload at_X6_dearest_24 rfl ?_
          refine E_ishr (z := nI (m / 2 ^ v)) at_X6_dearest_26 (ab_shr (by omega) (by omega)) ?_
          refine E_iconst (x := nI 1) at_X6_dearest_27 (by decide) ?_
          refine E_iand (z := nI (qBit m v)) at_X6_dearest_28 (ab_and1 (by omega)) ?_
          refine E_if (t := 35) (b := true) at_X6_dearest_29 rfl ((cn_ne (nI_toInt (by omega)) (by decide : (0 : Int32).toInt = 0)).trans (decide_eq_true (by omega))) ?_
          refine E_aload_n rfl rfl ?_
          refine E_iload_n rfl rfl ?_
          refine E_iconst (x := nI 1) rfl (by decide) ?_
          refine E_iload rfl rfl ?_
          refine E_ishl (z := nI (2 ^ v)) rfl (ab_shl (by omega)) ?_
          refine E_isub (z := nI (m - (2 ^ v))) rfl (pk_sub (by omega)) ?_
          refine E_callV (v := none) (As := [.ref 65, .int (nI (m - (2 ^ v)))]) (r0 := []) (cs2 := (ww im lf s d k ls rf rz ra rn rq lt m1 m2 m3 m4 bd fc hd sz el t g fm hm so si sh ce ca td wa kp la (lsF (bst t (m - 2 ^ v) (qN t) (2 ^ qN t))) oo bo pw ow tr)) rfl rfl rfl (Nat.le_of_ble_eq_true rfl) rfl (ab_rvOf w65 rfl) (w_best (m := m - 2 ^ v) I (by omega) (deB_len l_bf v)) (by decide) w_lens ?_
          refine E_aload_n rfl rfl ?_
          refine E_iconst (x := nI 0) rfl (by decide) ?_
          refine E_callV (v := some (.int (nI (deN t m v)))) (As := [.ref 65, .int (nI 0)]) (r0 := []) (cs2 := (ww im lf s d k ls rf rz ra rn rq lt m1 m2 m3 m4 bd fc hd sz el t g fm hm so si sh ce ca td wa kp la (lsF (bst t (m - 2 ^ v) (qN t) (2 ^ qN t))) oo bo pw ow tr)) rfl rfl rfl (Nat.le_of_ble_eq_true rfl) rfl (ab_rvOf w65 rfl) (Ev.vi (congrArg nI (cnt_wb _).symm) (w_many0 (bst_bd (by omega)))) (by decide) rfl ?_
          refine E_istore (L2 := [some (.ref 65), some (.int (nI m)), some (.int (qE (deC t m v))), some (.int (nI (deM t m 0 v))), some (.int (nI v)), some (.int (nI (deN t m v)))]) rfl rfl ?_
          refine E_iload_n rfl rfl ?_
          refine E_iconst (x := (-1)) rfl (by decide) ?_
          refine E_ic (t := 66) (b := false) rfl rfl (by rw [hc0]; show ab_cn ClassFile.Cond.eq (nI j) (-1) = false; exact (cn_eq (nI_toInt (by omega)) (by decide : (-1 : Int32).toInt = -1)).trans (decide_eq_false (by omega))) ?_
          refine E_iload rfl rfl ?_
          refine E_iload_n rfl rfl ?_
          refine E_ic (t := 66) (b := false) rfl rfl ((cn_lt (nI_toInt (by omega)) (nI_toInt (by omega))).trans (decide_eq_false (by omega))) ?_
          refine E_goto (t := 72) rfl rfl ?_
          refine E_iinc (y := nI (v + 1)) (L2 := [some (.ref 65), some (.int (nI m)), some (.int (qE (deC t m v))), some (.int (nI (deM t m 0 v))), some (.int (nI (v + 1))), some (.int (nI (deN t m v)))]) at_X6_dearest_72 rfl (nI_1 _) rfl ?_
          refine E_goto (t := 14) at_X6_dearest_75 rfl ?_
          have X := ih (v + 1) (some (.int (nI (deN t m v)))) (by omega)
          rw [e.1, e.2, e3] at X
          exact X
theorem crM_6 (s : ab_q) (v : Nat) : crM s v ≤ qM s := by
  unfold crM
  split
  · exact Nat.zero_le _
  · exact qWn_le s _ _
theorem crR_7 (s : ab_q) : ∀ v, v ≤ 8 → crR s v ≤ 7
  | 0, _ => Nat.zero_le _
  | v + 1, h => by
    have := crR_7 s v (by omega)
    show (if qWn s (crR s v) (qM s) < qWn s v (qM s) then v else crR s v) ≤ 7
    split <;> omega
set_option maxHeartbeats 1000000 in
theorem cr_c (I : qI s) : ∀ n0 v (x4 : Option Value), v + n0 = 8 → Ef ab_Z0 1 mX5_crowd (6, [some (.ref 0), some (.int (qE (crC s v))), some (.int (nI (crM s v))), some (.int (nI v)), x4], [], (ww im lf s d k ls rf rz ra rn rq lt m1 m2 m3 m4 bd fc hd sz el t g fm hm so si sh ce ca td wa kp la bf oo bo pw ow tr)) (some (.int (qE (crC s 8))), (ww im lf s d k ls rf rz ra rn rq lt m1 m2 m3 m4 bd fc hd sz el t g fm hm so si sh ce ca td wa kp la bf oo bo pw ow tr)) := by
  have h9 := I.2.2.1.2
  intro n0
  induction n0 with
  | zero =>
    intro v x4 hi
    have hi : v = 8 := by omega
    rw [hi]
    refine E_iload_n rfl rfl ?_
    refine E_bipush (x := nI 8) rfl (by decide) ?_
    refine E_ic (t := 39) (b := true) rfl rfl (by decide) ?_
    refine E_iload_n rfl rfl ?_
    exact E_iret rfl rfl
  | succ n0 ih =>
    intro v x4 hi
    by_cases f0 : (crM s v) < (qWn s v (qM s))
    · have hcm := crM_6 s v
      have := qWn_le s v (qM s)
      have e := cr_t (s := s) (v := v) (by omega)
      refine E_iload_n rfl rfl ?_
      refine E_bipush (x := nI 8) rfl (by decide) ?_
      refine E_ic (t := 39) (b := false) rfl rfl ((cn_ge (nI_toInt (by omega)) (nI_toInt (by omega))).trans (decide_eq_false (by omega))) ?_
      refine E_aload_n rfl rfl ?_
      refine E_getfield (v := .ref 1) rfl w0 rfl (by decide) rfl ?_
      refine E_iload_n rfl rfl ?_
      refine E_callV (v := some (.int (nI (qWn s v (qM s))))) (As := [.ref 1, .int (nI v)]) (r0 := []) (cs2 := (ww im lf s d k ls rf rz ra rn rq lt m1 m2 m3 m4 bd fc hd sz el t g fm hm so si sh ce ca td wa kp la bf oo bo pw ow tr)) rfl rfl rfl (Nat.le_of_ble_eq_true rfl) rfl (ab_rvOf w1 rfl) (sq_wanting w_q1 I (by omega)) (by decide) rfl ?_
      refine E_istore (L2 := [some (.ref 0), some (.int (qE (crC s v))), some (.int (nI (crM s v))), some (.int (nI v)), some (.int (nI (qWn s v (qM s))))]) rfl rfl ?_
      refine E_iload rfl rfl ?_
      refine E_iload_n rfl rfl ?_
      refine E_ic (t := 33) (b := false) rfl rfl ((cn_le (nI_toInt (by omega)) (nI_toInt (by omega))).trans (decide_eq_false (by omega))) ?_
      refine E_iload rfl rfl ?_
      refine E_istore_n (L2 := [some (.ref 0), some (.int (qE (crC s v))), some (.int (nI (qWn s v (qM s)))), some (.int (nI v)), some (.int (nI (qWn s v (qM s))))]) rfl rfl ?_
      refine E_iload_n rfl rfl ?_
      refine E_istore_n (L2 := [some (.ref 0), some (.int (nI v)), some (.int (nI (qWn s v (qM s)))), some (.int (nI v)), some (.int (nI (qWn s v (qM s))))]) rfl rfl ?_
      refine E_iinc (y := nI (v + 1)) (L2 := [some (.ref 0), some (.int (nI v)), some (.int (nI (qWn s v (qM s)))), some (.int (nI (v + 1))), some (.int (nI (qWn s v (qM s))))]) rfl rfl (nI_1 _) rfl ?_
      refine E_goto (t := 6) rfl rfl ?_
      have X := ih (v + 1) (some (.int (nI (qWn s v (qM s))))) (by omega)
      rw [e.1, e.2] at X
      exact X
    · have hcm := crM_6 s v
      have := qWn_le s v (qM s)
      have e := cr_f (s := s) (v := v) (by omega)
      refine E_iload_n rfl rfl ?_
      refine E_bipush (x := nI 8) rfl (by decide) ?_
      refine E_ic (t := 39) (b := false) rfl rfl ((cn_ge (nI_toInt (by omega)) (nI_toInt (by omega))).trans (decide_eq_false (by omega))) ?_
      refine E_aload_n rfl rfl ?_
      refine E_getfield (v := .ref 1) rfl w0 rfl (by decide) rfl ?_
      refine E_iload_n rfl rfl ?_
      refine E_callV (v := some (.int (nI (qWn s v (qM s))))) (As := [.ref 1, .int (nI v)]) (r0 := []) (cs2 := (ww im lf s d k ls rf rz ra rn rq lt m1 m2 m3 m4 bd fc hd sz el t g fm hm so si sh ce ca td wa kp la bf oo bo pw ow tr)) rfl rfl rfl (Nat.le_of_ble_eq_true rfl) rfl (ab_rvOf w1 rfl) (sq_wanting w_q1 I (by omega)) (by decide) rfl ?_
      refine E_istore (L2 := [some (.ref 0), some (.int (qE (crC s v))), some (.int (nI (crM s v))), some (.int (nI v)), some (.int (nI (qWn s v (qM s))))]) rfl rfl ?_
      refine E_iload rfl rfl ?_
      refine E_iload_n rfl rfl ?_
      refine E_ic (t := 33) (b := true) rfl rfl ((cn_le (nI_toInt (by omega)) (nI_toInt (by omega))).trans (decide_eq_true (by omega))) ?_
      refine E_iinc (y := nI (v + 1)) (L2 := [some (.ref 0), some (.int (qE (crC s v))), some (.int (nI (crM s v))), some (.int (nI (v + 1))), some (.int (nI (qWn s v (qM s))))]) rfl rfl (nI_1 _) rfl ?_
      refine E_goto (t := 6) rfl rfl ?_
      have X := ih (v + 1) (some (.int (nI (qWn s v (qM s))))) (by omega)
      rw [e.1, e.2] at X
      exact X
set_option maxHeartbeats 1000000 in
theorem cr_m (I : qI t) : ∀ n0 v , v + n0 = 8 → 1 ≤ v → Ef ab_Z0 4 mX6_dear (40, [some (.ref 65), some (.int (nI 1)), some (.int (nI (crR t v))), some (.int (nI v))], [], (ww im lf s d k ls rf rz ra rn rq lt m1 m2 m3 m4 bd fc hd sz el t g fm hm so si sh ce ca td wa kp la bf oo bo pw ow tr)) (some (.int (nI (crR t 8))), (ww im lf s d k ls rf rz ra rn rq lt m1 m2 m3 m4 bd fc hd sz el t g fm hm so si sh ce ca td wa kp la bf oo bo pw ow tr)) := by
  have h9 := I.2.2.1.2
  intro n0
  induction n0 with
  | zero =>
    intro v  hi hv
    have hi : v = 8 := by omega
    rw [hi]
    refine E_iload_n at_X6_dear_40 rfl ?_
    refine E_bipush (x := nI 7) at_X6_dear_41 (by decide) ?_
    refine E_ic (t := 75) (b := true) at_X6_dear_43 rfl (by decide) ?_
    refine E_iload_n rfl rfl ?_
    exact E_iret rfl rfl
  | succ n0 ih =>
    intro v  hi hv
    by_cases f0 : (qWn t (crR t v) (qM t)) < (qWn t v (qM t))
    · have hcm := crR_7 t v (by omega)
      have := qWn_le t v (qM t)
      have := qWn_le t (crR t v) (qM t)
      have e : crR t (v + 1) = v := if_pos (by omega)
      refine E_iload_n at_X6_dear_40 rfl ?_
      refine E_bipush (x := nI 7) at_X6_dear_41 (by decide) ?_
      refine E_ic (t := 75) (b := false) at_X6_dear_43 rfl ((cn_gt (nI_toInt (by omega)) (nI_toInt (by omega))).trans (decide_eq_false (by omega))) ?_
      refine E_aload_n rfl rfl ?_
      refine E_iload_n rfl rfl ?_
      refine E_callV (v := some (.int (nI (qWn t v (qM t))))) (As := [.ref 65, .int (nI v)]) (r0 := []) (cs2 := (ww im lf s d k ls rf rz ra rn rq lt m1 m2 m3 m4 bd fc hd sz el t g fm hm so si sh ce ca td wa kp la bf oo bo pw ow tr)) rfl rfl rfl (Nat.le_of_ble_eq_true rfl) rfl (ab_rvOf w65 rfl) (mo_wanting w_m I (by omega)) (by decide) rfl ?_
      refine E_aload_n rfl rfl ?_
      refine E_iload_n rfl rfl ?_
      refine E_if (t := 60) (b := true) rfl rfl ((cn_ge (nI_toInt (by omega)) (by decide : (0 : Int32).toInt = 0)).trans (decide_eq_true (by omega))) ?_
      refine E_iload_n rfl rfl ?_
      refine E_callV (v := some (.int (nI (qWn t (crR t v) (qM t))))) (As := [.ref 65, .int (nI (crR t v))]) (r0 := [.int (nI (qWn t v (qM t)))]) (cs2 := (ww im lf s d k ls rf rz ra rn rq lt m1 m2 m3 m4 bd fc hd sz el t g fm hm so si sh ce ca td wa kp la bf oo bo pw ow tr)) rfl rfl rfl (Nat.le_of_ble_eq_true rfl) rfl (ab_rvOf w65 rfl) (mo_wanting w_m I (by omega)) (by decide) rfl ?_
      refine E_ic (t := 69) (b := false) rfl rfl ((cn_le (nI_toInt (by omega)) (nI_toInt (by omega))).trans (decide_eq_false (by omega))) ?_
      refine E_iload_n rfl rfl ?_
      refine E_istore_n (L2 := [some (.ref 65), some (.int (nI 1)), some (.int (nI v)), some (.int (nI v))]) rfl rfl ?_
      refine E_iinc (y := nI (v + 1)) (L2 := [some (.ref 65), some (.int (nI 1)), some (.int (nI v)), some (.int (nI (v + 1)))]) rfl rfl (nI_1 _) rfl ?_
      refine E_goto (t := 40) rfl rfl ?_
      have X := ih (v + 1) (by omega) (by omega)
      rw [e] at X
      exact X
    · have hcm := crR_7 t v (by omega)
      have := qWn_le t v (qM t)
      have := qWn_le t (crR t v) (qM t)
      have e : crR t (v + 1) = crR t v := if_neg (by omega)
      refine E_iload_n at_X6_dear_40 rfl ?_
      refine E_bipush (x := nI 7) at_X6_dear_41 (by decide) ?_
      refine E_ic (t := 75) (b := false) at_X6_dear_43 rfl ((cn_gt (nI_toInt (by omega)) (nI_toInt (by omega))).trans (decide_eq_false (by omega))) ?_
      refine E_aload_n rfl rfl ?_
      refine E_iload_n rfl rfl ?_
      refine E_callV (v := some (.int (nI (qWn t v (qM t))))) (As := [.ref 65, .int (nI v)]) (r0 := []) (cs2 := (ww im lf s d k ls rf rz ra rn rq lt m1 m2 m3 m4 bd fc hd sz el t g fm hm so si sh ce ca td wa kp la bf oo bo pw ow tr)) rfl rfl rfl (Nat.le_of_ble_eq_true rfl) rfl (ab_rvOf w65 rfl) (mo_wanting w_m I (by omega)) (by decide) rfl ?_
      refine E_aload_n rfl rfl ?_
      refine E_iload_n rfl rfl ?_
      refine E_if (t := 60) (b := true) rfl rfl ((cn_ge (nI_toInt (by omega)) (by decide : (0 : Int32).toInt = 0)).trans (decide_eq_true (by omega))) ?_
      refine E_iload_n rfl rfl ?_
      refine E_callV (v := some (.int (nI (qWn t (crR t v) (qM t))))) (As := [.ref 65, .int (nI (crR t v))]) (r0 := [.int (nI (qWn t v (qM t)))]) (cs2 := (ww im lf s d k ls rf rz ra rn rq lt m1 m2 m3 m4 bd fc hd sz el t g fm hm so si sh ce ca td wa kp la bf oo bo pw ow tr)) rfl rfl rfl (Nat.le_of_ble_eq_true rfl) rfl (ab_rvOf w65 rfl) (mo_wanting w_m I (by omega)) (by decide) rfl ?_
      refine E_ic (t := 69) (b := true) rfl rfl ((cn_le (nI_toInt (by omega)) (nI_toInt (by omega))).trans (decide_eq_true (by omega))) ?_
      refine E_iinc (y := nI (v + 1)) (L2 := [some (.ref 65), some (.int (nI 1)), some (.int (nI (crR t v))), some (.int (nI (v + 1)))]) rfl rfl (nI_1 _) rfl ?_
      refine E_goto (t := 40) rfl rfl ?_
      have X := ih (v + 1) (by omega) (by omega)
      rw [e] at X
      exact X
theorem crR_1 (s : ab_q) : crR s 1 = 0 := by
  show (if qWn s 0 (qM s) < qWn s 0 (qM s) then 0 else 0) = 0
  split <;> rfl
theorem cr_m1 (I : qI t) : Ef ab_Z0 4 mX6_dear (40, [some (.ref 65), some (.int (nI 1)), some (.int (nI 0)), some (.int (nI 1))], [], (ww im lf s d k ls rf rz ra rn rq lt m1 m2 m3 m4 bd fc hd sz el t g fm hm so si sh ce ca td wa kp la bf oo bo pw ow tr)) (some (.int (nI (crR t 8))), (ww im lf s d k ls rf rz ra rn rq lt m1 m2 m3 m4 bd fc hd sz el t g fm hm so si sh ce ca td wa kp la bf oo bo pw ow tr)) := by
  have X : Ef ab_Z0 4 mX6_dear (40, [some (.ref 65), some (.int (nI 1)), some (.int (nI (crR t 1))), some (.int (nI 1))], [], (ww im lf s d k ls rf rz ra rn rq lt m1 m2 m3 m4 bd fc hd sz el t g fm hm so si sh ce ca td wa kp la bf oo bo pw ow tr)) (some (.int (nI (crR t 8))), (ww im lf s d k ls rf rz ra rn rq lt m1 m2 m3 m4 bd fc hd sz el t g fm hm so si sh ce ca td wa kp la bf oo bo pw ow tr)) := cr_m I 7 1 rfl (Nat.le_refl _)
  rw [crR_1] at X
  exact X
set_option maxHeartbeats 1000000 in
theorem cr_m0 (I : qI t) : ∀ n0 v , v + n0 = 8 → 1 ≤ v → Ef ab_Z0 4 mX6_dear (40, [some (.ref 65), some (.int (nI 1)), some (.int (-1)), some (.int (nI v))], [], (ww im lf s d k ls rf rz ra rn rq lt m1 m2 m3 m4 bd fc hd sz el t g fm hm so si sh ce ca td wa kp la bf oo bo pw ow tr)) (some (.int (-1)), (ww im lf s d k ls rf rz ra rn rq lt m1 m2 m3 m4 bd fc hd sz el t g fm hm so si sh ce ca td wa kp la bf oo bo pw ow tr)) := by
  have h9 := I.2.2.1.2
  intro n0
  induction n0 with
  | zero =>
    intro v  hi hv
    have hi : v = 8 := by omega
    rw [hi]
    refine E_iload_n at_X6_dear_40 rfl ?_
    refine E_bipush (x := nI 7) at_X6_dear_41 (by decide) ?_
    refine E_ic (t := 75) (b := true) at_X6_dear_43 rfl (by decide) ?_
    refine E_iload_n rfl rfl ?_
    exact E_iret rfl rfl
  | succ n0 ih =>
    intro v  hi hv
    have := qWn_le t v (qM t)
    refine E_iload_n at_X6_dear_40 rfl ?_
    refine E_bipush (x := nI 7) at_X6_dear_41 (by decide) ?_
    refine E_ic (t := 75) (b := false) at_X6_dear_43 rfl ((cn_gt (nI_toInt (by omega)) (nI_toInt (by omega))).trans (decide_eq_false (by omega))) ?_
    refine E_aload_n rfl rfl ?_
    refine E_iload_n rfl rfl ?_
    refine E_callV (v := some (.int (nI (qWn t v (qM t))))) (As := [.ref 65, .int (nI v)]) (r0 := []) (cs2 := (ww im lf s d k ls rf rz ra rn rq lt m1 m2 m3 m4 bd fc hd sz el t g fm hm so si sh ce ca td wa kp la bf oo bo pw ow tr)) rfl rfl rfl (Nat.le_of_ble_eq_true rfl) rfl (ab_rvOf w65 rfl) (mo_wanting w_m I (by omega)) (by decide) rfl ?_
    refine E_aload_n rfl rfl ?_
    refine E_iload_n rfl rfl ?_
    refine E_if (t := 60) (b := false) rfl rfl (by decide) ?_
    refine E_iload_n rfl rfl ?_
    refine E_goto (t := 61) rfl rfl ?_
    refine E_callV (v := some (.int (nI (qWn t v (qM t))))) (As := [.ref 65, .int (nI v)]) (r0 := [.int (nI (qWn t v (qM t)))]) (cs2 := (ww im lf s d k ls rf rz ra rn rq lt m1 m2 m3 m4 bd fc hd sz el t g fm hm so si sh ce ca td wa kp la bf oo bo pw ow tr)) rfl rfl rfl (Nat.le_of_ble_eq_true rfl) rfl (ab_rvOf w65 rfl) (mo_wanting w_m I (by omega)) (by decide) rfl ?_
    refine E_ic (t := 69) (b := true) rfl rfl ((cn_le (nI_toInt (by omega)) (nI_toInt (by omega))).trans (decide_eq_true (by omega))) ?_
    refine E_iinc (y := nI (v + 1)) (L2 := [some (.ref 65), some (.int (nI 1)), some (.int (-1)), some (.int (nI (v + 1)))]) rfl rfl (nI_1 _) rfl ?_
    refine E_goto (t := 40) rfl rfl ?_
    exact ih (v + 1) (by omega) (by omega)
end DE
