/-! how many amounts; by program (wip/tools/mk86.py) -/
def cntF (f : Nat → Nat) : Nat → Nat
  | 0 => 0
  | i + 1 => cntF f i + (if 1 ≤ i ∧ f i ≠ 0 then 1 else 0)
theorem cnt_o {f : Nat → Nat} {i : Nat} (h : f i = 0) : cntF f (i + 1) = cntF f i := by
  show cntF f i + (if _ then 1 else 0) = _
  rw [if_neg (fun q => q.2 h), Nat.add_zero]
theorem cnt_i {f : Nat → Nat} {i j : Nat} (h1 : 1 ≤ i) (h : f i = j + 1) : cntF f (i + 1) = cntF f i + 1 := by
  show cntF f i + (if _ then 1 else 0) = _
  rw [if_pos ⟨h1, by omega⟩]
theorem cnt_co {f h : Nat → Nat} (e : ∀ c, f c = 0 ↔ h c = 0) : ∀ i, cntF f i = cntF h i
  | 0 => rfl
  | i + 1 => by
    show cntF f i + (if 1 ≤ i ∧ f i ≠ 0 then 1 else 0) = cntF h i + (if 1 ≤ i ∧ h i ≠ 0 then 1 else 0)
    rw [cnt_co e i]
    by_cases q : f i = 0
    · rw [if_neg (fun z => z.2 q), if_neg (fun z => z.2 ((e i).mp q))]
    · by_cases k : 1 ≤ i
      · rw [if_pos ⟨k, q⟩, if_pos ⟨k, fun z => q ((e i).mpr z)⟩]
      · rw [if_neg (fun z => k z.1), if_neg (fun z => k z.1)]
theorem cnt_wb {s : ab_q} {m : Nat} (i : Nat) : cntF (wgh s m (qN s)) i = cntF (bst s m (qN s) (2 ^ qN s)) i := cnt_co (fun c => by
  rcases wgh_bst s m (qN s) c with ⟨a, b⟩ | ⟨B, -, -, -, a, b⟩
  · rw [a, b]
  · rw [a, b]
    exact ⟨fun q => by omega, fun q => by omega⟩) i
theorem cnt_in (f : Nat → Nat) : ∀ i, cntF f i ≤ i
  | 0 => Nat.le_refl _
  | i + 1 => by
    have := cnt_in f i
    show cntF f i + (if _ then 1 else 0) ≤ _
    split <;> omega
section CN
variable {im : Int32} {lf : Int32} {s : ab_q} {d : ab_q} {k : ab_q} {ls : List Int32} {rf : Int32} {rz : Int32} {ra : Int32} {rn : Int32} {rq : ab_q} {lt : List Int32} {m1 : Int32} {m2 : Int32} {m3 : Int32} {m4 : Int32} {bd : List Int32} {fc : List Int32} {hd : Nat → Int32} {sz : Nat → Int32} {el : Nat → List Int64} {t : ab_q} {g : Nat → Int32} {fm : List Int32} {hm : List Nat} {so : List Nat} {si : List Nat} {sh : List Int32} {ce : List Int64} {ca : List Int64} {td : List Int32} {wa : List Int32} {kp : List Int32} {la : List Int32} {bf : List Int32} {oo : List Int32} {bo : List Int32} {pw : List Int32} {ow : List Int32} {tr : List Int32}
set_option maxHeartbeats 1000000 in
theorem cnt_ls {q m : Nat} {f : Nat → Nat} (hb : ∀ c, f c ≤ 16777216) : ∀ n0 v, v + n0 = 100 → 1 ≤ v → Ef ab_Z0 2 mX0_amountsOf (11, [some (.ref 32), some (.ref q), some (.int (nI m)), some (.int (nI (cntF f v))), some (.int (nI v))], [], (ww im lf s d k (lsF f) rf rz ra rn rq lt m1 m2 m3 m4 bd fc hd sz el t g fm hm so si sh ce ca td wa kp la bf oo bo pw ow tr)) (some (.int (nI (cntF f 100))), (ww im lf s d k (lsF f) rf rz ra rn rq lt m1 m2 m3 m4 bd fc hd sz el t g fm hm so si sh ce ca td wa kp la bf oo bo pw ow tr)) := by
  intro n0
  induction n0 with
  | zero =>
    intro v hi hv
    have hi : v = 100 := hi
    rw [hi]
    refine E_iload rfl rfl ?_
    refine E_bipush (x := nI 100) rfl (by decide) ?_
    refine E_ic (t := 43) (b := true) rfl rfl (by decide) ?_
    refine E_iload_n rfl rfl ?_
    exact E_iret rfl rfl
  | succ n0 ih =>
    intro v hi hv
    rcases hg0 : f v with _ | j
    · have ci := cnt_in (f) v
      have := lsF_len f
      refine E_iload rfl rfl ?_
      refine E_bipush (x := nI 100) rfl (by decide) ?_
      refine E_ic (t := 43) (b := false) rfl rfl ((cn_ge (nI_toInt (by omega)) (nI_toInt (by omega))).trans (decide_eq_false (by omega))) ?_
      refine E_iload_n rfl rfl ?_
      refine E_aload_n rfl rfl ?_
      refine E_getfield (v := .ref 33) rfl w32 rfl (by decide) rfl ?_
      refine E_iload rfl rfl ?_
      refine E_ialI (l := (lsF f)) (v := (-1)) rfl w33 (by omega) (by omega) (by rw [lsF_get (by omega), hg0]; rfl) ?_
      refine E_iconst (x := (-1)) rfl (by decide) ?_
      refine E_ic (t := 34) (b := false) rfl rfl (by decide) ?_
      refine E_iconst (x := nI 0) rfl (by decide) ?_
      refine E_goto (t := 35) rfl rfl ?_
      refine E_iadd (z := nI ((cntF f v) + 0)) rfl (nI_add _ _) ?_
      refine E_istore_n (L2 := [some (.ref 32), some (.ref q), some (.int (nI m)), some (.int (nI ((cntF f v) + 0))), some (.int (nI v))]) rfl rfl ?_
      refine E_iinc (y := nI (v + 1)) (L2 := [some (.ref 32), some (.ref q), some (.int (nI m)), some (.int (nI ((cntF f v) + 0))), some (.int (nI (v + 1)))]) rfl rfl (nI_1 _) rfl ?_
      refine E_goto (t := 11) rfl rfl ?_
      have X := ih (v + 1) (by omega) (by omega)
      rw [cnt_o hg0] at X
      exact X
    · have ci := cnt_in (f) v
      have := lsF_len f
      have b0 : j + 1 ≤ 16777216 := hg0 ▸ hb v
      refine E_iload rfl rfl ?_
      refine E_bipush (x := nI 100) rfl (by decide) ?_
      refine E_ic (t := 43) (b := false) rfl rfl ((cn_ge (nI_toInt (by omega)) (nI_toInt (by omega))).trans (decide_eq_false (by omega))) ?_
      refine E_iload_n rfl rfl ?_
      refine E_aload_n rfl rfl ?_
      refine E_getfield (v := .ref 33) rfl w32 rfl (by decide) rfl ?_
      refine E_iload rfl rfl ?_
      refine E_ialI (l := (lsF f)) (v := nI j) rfl w33 (by omega) (by omega) (by rw [lsF_get (by omega), hg0]; rfl) ?_
      refine E_iconst (x := (-1)) rfl (by decide) ?_
      refine E_ic (t := 34) (b := true) rfl rfl ((cn_ne (nI_toInt (by omega)) (by decide : (-1 : Int32).toInt = -1)).trans (decide_eq_true (by omega))) ?_
      refine E_iconst (x := nI 1) rfl (by decide) ?_
      refine E_iadd (z := nI ((cntF f v) + 1)) rfl (nI_add _ _) ?_
      refine E_istore_n (L2 := [some (.ref 32), some (.ref q), some (.int (nI m)), some (.int (nI ((cntF f v) + 1))), some (.int (nI v))]) rfl rfl ?_
      refine E_iinc (y := nI (v + 1)) (L2 := [some (.ref 32), some (.ref q), some (.int (nI m)), some (.int (nI ((cntF f v) + 1))), some (.int (nI (v + 1)))]) rfl rfl (nI_1 _) rfl ?_
      refine E_goto (t := 11) rfl rfl ?_
      have X := ih (v + 1) (by omega) (by omega)
      rw [cnt_i hv hg0] at X
      exact X
set_option maxHeartbeats 1000000 in
theorem cnt_bf {f : Nat → Nat} (hb : ∀ c, f c ≤ 16777216) : ∀ n0 v, v + n0 = 100 → 1 ≤ v → Ef ab_Z0 2 mX6_manyAmounts (4, [some (.ref 65), some (.int (nI 0)), some (.int (nI (cntF f v))), some (.int (nI v))], [], (ww im lf s d k ls rf rz ra rn rq lt m1 m2 m3 m4 bd fc hd sz el t g fm hm so si sh ce ca td wa kp la (lsF f) oo bo pw ow tr)) (some (.int (nI (cntF f 100))), (ww im lf s d k ls rf rz ra rn rq lt m1 m2 m3 m4 bd fc hd sz el t g fm hm so si sh ce ca td wa kp la (lsF f) oo bo pw ow tr)) := by
  intro n0
  induction n0 with
  | zero =>
    intro v hi hv
    have hi : v = 100 := hi
    rw [hi]
    refine E_iload_n at_X6_manyAmounts_4 rfl ?_
    refine E_bipush (x := nI 100) at_X6_manyAmounts_5 (by decide) ?_
    refine E_ic (t := 41) (b := true) at_X6_manyAmounts_7 rfl (by decide) ?_
    refine E_iload_n rfl rfl ?_
    exact E_iret rfl rfl
  | succ n0 ih =>
    intro v hi hv
    rcases hg0 : f v with _ | j
    · have ci := cnt_in (f) v
      have := lsF_len f
      refine E_iload_n at_X6_manyAmounts_4 rfl ?_
      refine E_bipush (x := nI 100) at_X6_manyAmounts_5 (by decide) ?_
      refine E_ic (t := 41) (b := false) at_X6_manyAmounts_7 rfl ((cn_ge (nI_toInt (by omega)) (nI_toInt (by omega))).trans (decide_eq_false (by omega))) ?_
      refine E_iload_n at_X6_manyAmounts_10 rfl ?_
      refine E_if (t := 22) (b := true) at_X6_manyAmounts_11 rfl (by decide) ?_
      refine E_aload_n rfl rfl ?_
      refine E_getfield (v := .ref 89) rfl w65 rfl (by decide) rfl ?_
      refine E_iload_n rfl rfl ?_
      refine E_ialI (l := (lsF f)) (v := (-1)) rfl w89 (by omega) (by omega) (by rw [lsF_get (by omega), hg0]; rfl) ?_
      refine E_iconst (x := (-1)) at_X6_manyAmounts_28 (by decide) ?_
      refine E_ic (t := 35) (b := true) at_X6_manyAmounts_29 rfl (by decide) ?_
      refine E_iinc (y := nI (v + 1)) (L2 := [some (.ref 65), some (.int (nI 0)), some (.int (nI (cntF f v))), some (.int (nI (v + 1)))]) at_X6_manyAmounts_35 rfl (nI_1 _) rfl ?_
      refine E_goto (t := 4) at_X6_manyAmounts_38 rfl ?_
      have X := ih (v + 1) (by omega) (by omega)
      rw [cnt_o hg0] at X
      exact X
    · have ci := cnt_in (f) v
      have := lsF_len f
      have b0 : j + 1 ≤ 16777216 := hg0 ▸ hb v
      refine E_iload_n at_X6_manyAmounts_4 rfl ?_
      refine E_bipush (x := nI 100) at_X6_manyAmounts_5 (by decide) ?_
      refine E_ic (t := 41) (b := false) at_X6_manyAmounts_7 rfl ((cn_ge (nI_toInt (by omega)) (nI_toInt (by omega))).trans (decide_eq_false (by omega))) ?_
      refine E_iload_n at_X6_manyAmounts_10 rfl ?_
      refine E_if (t := 22) (b := true) at_X6_manyAmounts_11 rfl (by decide) ?_
      refine E_aload_n rfl rfl ?_
      refine E_getfield (v := .ref 89) rfl w65 rfl (by decide) rfl ?_
      refine E_iload_n rfl rfl ?_
      refine E_ialI (l := (lsF f)) (v := nI j) rfl w89 (by omega) (by omega) (by rw [lsF_get (by omega), hg0]; rfl) ?_
      refine E_iconst (x := (-1)) at_X6_manyAmounts_28 (by decide) ?_
      refine E_ic (t := 35) (b := false) at_X6_manyAmounts_29 rfl ((cn_eq (nI_toInt (by omega)) (by decide : (-1 : Int32).toInt = -1)).trans (decide_eq_false (by omega))) ?_
      refine E_iinc (y := nI (cntF f v + 1)) (L2 := [some (.ref 65), some (.int (nI 0)), some (.int (nI (cntF f v + 1))), some (.int (nI v))]) rfl rfl (nI_1 _) rfl ?_
      refine E_iinc (y := nI (v + 1)) (L2 := [some (.ref 65), some (.int (nI 0)), some (.int (nI (cntF f v + 1))), some (.int (nI (v + 1)))]) at_X6_manyAmounts_35 rfl (nI_1 _) rfl ?_
      refine E_goto (t := 4) at_X6_manyAmounts_38 rfl ?_
      have X := ih (v + 1) (by omega) (by omega)
      rw [cnt_i hv hg0] at X
      exact X
set_option maxHeartbeats 1000000 in
theorem cnt_mg (I : qI t) : ∀ n0 v, v + n0 = 100 → 1 ≤ v → Ef ab_Z0 2 mX6_manyAmounts (4, [some (.ref 65), some (.int (nI 1)), some (.int (nI (cntF (qGreedy t) v))), some (.int (nI v))], [], (ww im lf s d k ls rf rz ra rn rq lt m1 m2 m3 m4 bd fc hd sz el t g fm hm so si sh ce ca td wa kp la bf oo bo pw ow tr)) (some (.int (nI (cntF (qGreedy t) 100))), (ww im lf s d k ls rf rz ra rn rq lt m1 m2 m3 m4 bd fc hd sz el t g fm hm so si sh ce ca td wa kp la bf oo bo pw ow tr)) := by
  intro n0
  induction n0 with
  | zero =>
    intro v hi hv
    have hi : v = 100 := hi
    rw [hi]
    refine E_iload_n at_X6_manyAmounts_4 rfl ?_
    refine E_bipush (x := nI 100) at_X6_manyAmounts_5 (by decide) ?_
    refine E_ic (t := 41) (b := true) at_X6_manyAmounts_7 rfl (by decide) ?_
    refine E_iload_n rfl rfl ?_
    exact E_iret rfl rfl
  | succ n0 ih =>
    intro v hi hv
    rcases hg0 : qGreedy t v with _ | gj0
    · have ci := cnt_in ((qGreedy t)) v
      refine E_iload_n at_X6_manyAmounts_4 rfl ?_
      refine E_bipush (x := nI 100) at_X6_manyAmounts_5 (by decide) ?_
      refine E_ic (t := 41) (b := false) at_X6_manyAmounts_7 rfl ((cn_ge (nI_toInt (by omega)) (nI_toInt (by omega))).trans (decide_eq_false (by omega))) ?_
      refine E_iload_n at_X6_manyAmounts_10 rfl ?_
      refine E_if (t := 22) (b := false) at_X6_manyAmounts_11 rfl (by decide) ?_
      refine E_aload_n rfl rfl ?_
      refine E_iload_n rfl rfl ?_
      refine E_callV (v := some (.int (-1))) (As := [.ref 65, .int (nI v)]) (r0 := []) (cs2 := (ww im lf s d k ls rf rz ra rn rq lt m1 m2 m3 m4 bd fc hd sz el t g fm hm so si sh ce ca td wa kp la bf oo bo pw ow tr)) rfl rfl rfl (Nat.le_of_ble_eq_true rfl) rfl (ab_rvOf w65 rfl) (Ev.g0 hg0 (mo_greedyFor w_m I (by omega))) (by decide) rfl ?_
      refine E_goto (t := 28) rfl rfl ?_
      refine E_iconst (x := (-1)) at_X6_manyAmounts_28 (by decide) ?_
      refine E_ic (t := 35) (b := true) at_X6_manyAmounts_29 rfl (by decide) ?_
      refine E_iinc (y := nI (v + 1)) (L2 := [some (.ref 65), some (.int (nI 1)), some (.int (nI (cntF (qGreedy t) v))), some (.int (nI (v + 1)))]) at_X6_manyAmounts_35 rfl (nI_1 _) rfl ?_
      refine E_goto (t := 4) at_X6_manyAmounts_38 rfl ?_
      have X := ih (v + 1) (by omega) (by omega)
      rw [cnt_o hg0] at X
      exact X
    · have ci := cnt_in ((qGreedy t)) v
      have hh0 : gj0 + 1 ≤ 512 := hg0 ▸ qGr_512 I v
      refine E_iload_n at_X6_manyAmounts_4 rfl ?_
      refine E_bipush (x := nI 100) at_X6_manyAmounts_5 (by decide) ?_
      refine E_ic (t := 41) (b := false) at_X6_manyAmounts_7 rfl ((cn_ge (nI_toInt (by omega)) (nI_toInt (by omega))).trans (decide_eq_false (by omega))) ?_
      refine E_iload_n at_X6_manyAmounts_10 rfl ?_
      refine E_if (t := 22) (b := false) at_X6_manyAmounts_11 rfl (by decide) ?_
      refine E_aload_n rfl rfl ?_
      refine E_iload_n rfl rfl ?_
      refine E_callV (v := some (.int (nI gj0))) (As := [.ref 65, .int (nI v)]) (r0 := []) (cs2 := (ww im lf s d k ls rf rz ra rn rq lt m1 m2 m3 m4 bd fc hd sz el t g fm hm so si sh ce ca td wa kp la bf oo bo pw ow tr)) rfl rfl rfl (Nat.le_of_ble_eq_true rfl) rfl (ab_rvOf w65 rfl) (Ev.g1 hg0 (mo_greedyFor w_m I (by omega))) (by decide) rfl ?_
      refine E_goto (t := 28) rfl rfl ?_
      refine E_iconst (x := (-1)) at_X6_manyAmounts_28 (by decide) ?_
      refine E_ic (t := 35) (b := false) at_X6_manyAmounts_29 rfl ((cn_eq (nI_toInt (by omega)) (by decide : (-1 : Int32).toInt = -1)).trans (decide_eq_false (by omega))) ?_
      refine E_iinc (y := nI (cntF (qGreedy t) v + 1)) (L2 := [some (.ref 65), some (.int (nI 1)), some (.int (nI (cntF (qGreedy t) v + 1))), some (.int (nI v))]) rfl rfl (nI_1 _) rfl ?_
      refine E_iinc (y := nI (v + 1)) (L2 := [some (.ref 65), some (.int (nI 1)), some (.int (nI (cntF (qGreedy t) v + 1))), some (.int (nI (v + 1)))]) at_X6_manyAmounts_35 rfl (nI_1 _) rfl ?_
      refine E_goto (t := 4) at_X6_manyAmounts_38 rfl ?_
      have X := ih (v + 1) (by omega) (by omega)
      rw [cnt_i hv hg0] at X
      exact X
set_option maxHeartbeats 1000000 in
theorem cnt_cg (I : qI s) : ∀ n0 v, v + n0 = 100 → 1 ≤ v → Ef ab_Z0 3 mX5_amounts (38, [some (.ref 0), some (.int (nI 1)), some (.int (nI (cntF (qGreedy s) v))), some (.int (nI v))], [], (ww im lf s d k ls rf rz ra rn rq lt m1 m2 m3 m4 bd fc hd sz el t g fm hm so si sh ce ca td wa kp la bf oo bo pw ow tr)) (some (.int (nI (cntF (qGreedy s) 100))), (ww im lf s d k ls rf rz ra rn rq lt m1 m2 m3 m4 bd fc hd sz el t g fm hm so si sh ce ca td wa kp la bf oo bo pw ow tr)) := by
  intro n0
  induction n0 with
  | zero =>
    intro v hi hv
    have hi : v = 100 := hi
    rw [hi]
    refine E_iload_n rfl rfl ?_
    refine E_bipush (x := nI 100) rfl (by decide) ?_
    refine E_ic (t := 65) (b := true) rfl rfl (by decide) ?_
    refine E_iload_n rfl rfl ?_
    exact E_iret rfl rfl
  | succ n0 ih =>
    intro v hi hv
    rcases hg0 : qGreedy s v with _ | gj0
    · have ci := cnt_in ((qGreedy s)) v
      refine E_iload_n rfl rfl ?_
      refine E_bipush (x := nI 100) rfl (by decide) ?_
      refine E_ic (t := 65) (b := false) rfl rfl ((cn_ge (nI_toInt (by omega)) (nI_toInt (by omega))).trans (decide_eq_false (by omega))) ?_
      refine E_aload_n rfl rfl ?_
      refine E_getfield (v := .ref 1) rfl w0 rfl (by decide) rfl ?_
      refine E_iload_n rfl rfl ?_
      refine E_callV (v := some (.int (-1))) (As := [.ref 1, .int (nI v)]) (r0 := []) (cs2 := (ww im lf s d k ls rf rz ra rn rq lt m1 m2 m3 m4 bd fc hd sz el t g fm hm so si sh ce ca td wa kp la bf oo bo pw ow tr)) rfl rfl rfl (Nat.le_of_ble_eq_true rfl) rfl (ab_rvOf w1 rfl) (Ev.g0 hg0 (sq_greedyFor w_q1 I (by omega))) (by decide) rfl ?_
      refine E_iconst (x := (-1)) rfl (by decide) ?_
      refine E_ic (t := 59) (b := true) rfl rfl (by decide) ?_
      refine E_iinc (y := nI (v + 1)) (L2 := [some (.ref 0), some (.int (nI 1)), some (.int (nI (cntF (qGreedy s) v))), some (.int (nI (v + 1)))]) rfl rfl (nI_1 _) rfl ?_
      refine E_goto (t := 38) rfl rfl ?_
      have X := ih (v + 1) (by omega) (by omega)
      rw [cnt_o hg0] at X
      exact X
    · have ci := cnt_in ((qGreedy s)) v
      have hh0 : gj0 + 1 ≤ 512 := hg0 ▸ qGr_512 I v
      refine E_iload_n rfl rfl ?_
      refine E_bipush (x := nI 100) rfl (by decide) ?_
      refine E_ic (t := 65) (b := false) rfl rfl ((cn_ge (nI_toInt (by omega)) (nI_toInt (by omega))).trans (decide_eq_false (by omega))) ?_
      refine E_aload_n rfl rfl ?_
      refine E_getfield (v := .ref 1) rfl w0 rfl (by decide) rfl ?_
      refine E_iload_n rfl rfl ?_
      refine E_callV (v := some (.int (nI gj0))) (As := [.ref 1, .int (nI v)]) (r0 := []) (cs2 := (ww im lf s d k ls rf rz ra rn rq lt m1 m2 m3 m4 bd fc hd sz el t g fm hm so si sh ce ca td wa kp la bf oo bo pw ow tr)) rfl rfl rfl (Nat.le_of_ble_eq_true rfl) rfl (ab_rvOf w1 rfl) (Ev.g1 hg0 (sq_greedyFor w_q1 I (by omega))) (by decide) rfl ?_
      refine E_iconst (x := (-1)) rfl (by decide) ?_
      refine E_ic (t := 59) (b := false) rfl rfl ((cn_eq (nI_toInt (by omega)) (by decide : (-1 : Int32).toInt = -1)).trans (decide_eq_false (by omega))) ?_
      refine E_iinc (y := nI (cntF (qGreedy s) v + 1)) (L2 := [some (.ref 0), some (.int (nI 1)), some (.int (nI (cntF (qGreedy s) v + 1))), some (.int (nI v))]) rfl rfl (nI_1 _) rfl ?_
      refine E_iinc (y := nI (v + 1)) (L2 := [some (.ref 0), some (.int (nI 1)), some (.int (nI (cntF (qGreedy s) v + 1))), some (.int (nI (v + 1)))]) rfl rfl (nI_1 _) rfl ?_
      refine E_goto (t := 38) rfl rfl ?_
      have X := ih (v + 1) (by omega) (by omega)
      rw [cnt_i hv hg0] at X
      exact X
end CN
