/-! rows of 100 amounts; the class's putIn and weigh; by program (wip/tools/mk66.py) -/
/-- a row of 100 options -/
def lsF (f : Nat → Nat) : List Int32 := (List.range 100).map (fun c => qE (f c))
theorem lsF_len (f : Nat → Nat) : (lsF f).length = 100 := by
  unfold lsF
  rw [List.length_map, List.length_range]
theorem lsF_get {f : Nat → Nat} {c : Nat} (h : c < 100) : (lsF f).getD c 0 = qE (f c) := by
  unfold lsF
  rw [List.getD_eq_getElem?_getD, List.getElem?_map, List.getElem?_range h]
  rfl
theorem qE_s (c : Nat) : qE (c + 1) = nI c := rfl
theorem lsF_ext {f h : Nat → Nat} (e : ∀ c, c < 100 → f c = h c) : lsF f = lsF h := by
  unfold lsF
  apply List.map_congr_left
  intro c hc
  rw [e c (List.mem_range.mp hc)]
theorem lsF_set {f h : Nat → Nat} {v : Nat} (hv : v < 100) (e : ∀ c, c < 100 → ¬ c = v → f c = h c) : (lsF f).set v (qE (h v)) = lsF h := by
  apply ab_ext 0
  · rw [List.length_set, lsF_len, lsF_len]
  · intro q hq
    rw [List.length_set, lsF_len] at hq
    rw [ab_gsI (by rw [lsF_len]; omega), lsF_get hq, lsF_get hq]
    by_cases c : q = v
    · rw [if_pos c, c]
    · rw [if_neg c, e q hq c]
/-- putIn, done above v -/
def pS (f : Nat → Nat) (w k v : Nat) : Nat → Nat := fun c => if v < c then putF f w k c else f c
theorem pS_lo {f : Nat → Nat} {w k v c : Nat} (h : c ≤ v) : pS f w k v c = f c := if_neg (by omega)
theorem pS_99 {f : Nat → Nat} {w k : Nat} : lsF (pS f w k 99) = lsF f := lsF_ext (fun c hc => if_neg (by omega))
theorem pS_w {f : Nat → Nat} {w k v : Nat} (h : v < w) : lsF (pS f w k v) = lsF (putF f w k) := lsF_ext (fun c _ => by
  unfold pS
  split
  · rfl
  · exact (if_neg (by omega)).symm)
theorem pS_1 {f : Nat → Nat} {w k v x : Nat} (hv : 1 ≤ v) (h9 : v < 100) (h : putF f w k v = x + 1) : (lsF (pS f w k v)).set v (nI x) = lsF (pS f w k (v - 1)) := by
  have e : pS f w k (v - 1) v = x + 1 := (if_pos (by omega)).trans h
  have := lsF_set (f := pS f w k v) (h := pS f w k (v - 1)) h9 (fun c _ hc => by
    unfold pS
    by_cases q : v < c
    · rw [if_pos q, if_pos (by omega)]
    · rw [if_neg q, if_neg (by omega)])
  rw [e] at this
  exact this
theorem pS_2 {f : Nat → Nat} {w k v : Nat} (hv : 1 ≤ v) (h : putF f w k v = f v) : lsF (pS f w k v) = lsF (pS f w k (v - 1)) := lsF_ext (fun c _ => by
  unfold pS
  by_cases q : v < c
  · rw [if_pos q, if_pos (by omega)]
  · rw [if_neg q]
    by_cases q2 : c = v
    · subst q2
      rw [if_pos (by omega), h]
    · rw [if_neg (by omega)])
theorem wgh_bd {s : ab_q} {m : Nat} (I : qI s) {i c : Nat} (hi : i ≤ qN s) : wgh s m i c ≤ 16777216 := by
  rcases hw : wgh s m i c with _ | k
  · omega
  · obtain ⟨S, a, b, e, d⟩ := wgh_in i c k hw
    have h9 := I.2.2.1.1
    have x := qMany_9 S i
    have y := qHs_le I S i hi
    have z : 2 ^ i ≤ 2 ^ 9 := Nat.pow_le_pow_right (by decide) (by omega)
    unfold kAt at d
    omega
section PI
variable {im : Int32} {lf : Int32} {s : ab_q} {d : ab_q} {k : ab_q} {ls : List Int32} {rf : Int32} {rz : Int32} {ra : Int32} {rn : Int32} {rq : ab_q} {lt : List Int32} {m1 : Int32} {m2 : Int32} {m3 : Int32} {m4 : Int32} {bd : List Int32} {fc : List Int32} {hd : Nat → Int32} {sz : Nat → Int32} {el : Nat → List Int64} {t : ab_q} {g : Nat → Int32} {fm : List Int32} {hm : List Nat} {so : List Nat} {si : List Nat} {sh : List Int32} {ce : List Int64} {ca : List Int64} {td : List Int32} {wa : List Int32} {kp : List Int32} {la : List Int32} {bf : List Int32} {oo : List Int32} {bo : List Int32} {pw : List Int32} {ow : List Int32} {tr : List Int32}
set_option maxHeartbeats 1000000 in
theorem putIn_l {f : Nat → Nat} {w key : Nat} (hw : 1 ≤ w) (hk : key < 268435456) (hb : ∀ c, f c ≤ 268435455) : ∀ m v x4, v + 1 = w + m → v < 100 → Ef ab_Z0 0 mX0_putIn (3, [some (.ref 32), some (.int (nI w)), some (.int (nI key)), some (.int (nI v)), x4], [], (ww im lf s d k (lsF (pS f w key v)) rf rz ra rn rq lt m1 m2 m3 m4 bd fc hd sz el t g fm hm so si sh ce ca td wa kp la bf oo bo pw ow tr)) (none, (ww im lf s d k (lsF (putF f w key)) rf rz ra rn rq lt m1 m2 m3 m4 bd fc hd sz el t g fm hm so si sh ce ca td wa kp la bf oo bo pw ow tr)) := by
  intro m
  induction m with
  | zero =>
    intro v x4 hi hv
    rw [← pS_w (v := v) (by omega)]
    refine E_iload_n at_X0_putIn_3 rfl ?_
    refine E_iload_n at_X0_putIn_4 rfl ?_
    refine E_ic (t := 63) (b := true) at_X0_putIn_5 rfl ((cn_lt (nI_toInt (by omega)) (nI_toInt (by omega))).trans (decide_eq_true (by omega))) ?_
    exact E_vret rfl rfl
  | succ m ih =>
    intro v x4 hi hv
    rcases h_0 : f (v - w) with _ | j0
    · have hL := lsF_len (pS f w key v)
      refine E_iload_n at_X0_putIn_3 rfl ?_
      refine E_iload_n at_X0_putIn_4 rfl ?_
      refine E_ic (t := 63) (b := false) at_X0_putIn_5 rfl ((cn_lt (nI_toInt (by omega)) (nI_toInt (by omega))).trans (decide_eq_false (by omega))) ?_
      refine E_aload_n at_X0_putIn_8 rfl ?_
      refine E_getfield (v := .ref 33) at_X0_putIn_9 w32 rfl (by decide) rfl ?_
      refine E_iload_n at_X0_putIn_12 rfl ?_
      refine E_iload_n at_X0_putIn_13 rfl ?_
      refine E_isub (z := nI (v - w)) at_X0_putIn_14 (pk_sub (by omega)) ?_
      refine E_ialI (l := (lsF (pS f w key v))) (v := (-1)) at_X0_putIn_15 w33 (by omega) (by omega) (by rw [lsF_get (by omega), pS_lo (by omega), h_0]; rfl) ?_
      refine E_istore (L2 := [some (.ref 32), some (.int (nI w)), some (.int (nI key)), some (.int (nI v)), some (.int (-1))]) at_X0_putIn_16 rfl ?_
      refine E_iload at_X0_putIn_18 rfl ?_
      refine E_iconst (x := (-1)) at_X0_putIn_20 (by decide) ?_
      refine E_ic (t := 57) (b := true) at_X0_putIn_21 rfl (by decide) ?_
      refine E_iinc (y := nI (v - 1)) (L2 := [some (.ref 32), some (.int (nI w)), some (.int (nI key)), some (.int (nI (v - 1))), some (.int (-1))]) at_X0_putIn_57 rfl (ab_dec (by omega)) rfl ?_
      refine E_goto (t := 3) at_X0_putIn_60 rfl ?_
      have P : putF f w key v = f v := by unfold putF; rw [if_neg (by omega)]
      have X := ih (v - 1) (some (.int (-1))) (by omega) (by omega)
      rw [← pS_2 (by omega) P] at X
      exact X
    · rcases h_1 : f v with _ | j1
      · have hL := lsF_len (pS f w key v)
        have b0 := hb (v - w)
        refine E_iload_n at_X0_putIn_3 rfl ?_
        refine E_iload_n at_X0_putIn_4 rfl ?_
        refine E_ic (t := 63) (b := false) at_X0_putIn_5 rfl ((cn_lt (nI_toInt (by omega)) (nI_toInt (by omega))).trans (decide_eq_false (by omega))) ?_
        refine E_aload_n at_X0_putIn_8 rfl ?_
        refine E_getfield (v := .ref 33) at_X0_putIn_9 w32 rfl (by decide) rfl ?_
        refine E_iload_n at_X0_putIn_12 rfl ?_
        refine E_iload_n at_X0_putIn_13 rfl ?_
        refine E_isub (z := nI (v - w)) at_X0_putIn_14 (pk_sub (by omega)) ?_
        refine E_ialI (l := (lsF (pS f w key v))) (v := nI j0) at_X0_putIn_15 w33 (by omega) (by omega) (by rw [lsF_get (by omega), pS_lo (by omega), h_0]; rfl) ?_
        refine E_istore (L2 := [some (.ref 32), some (.int (nI w)), some (.int (nI key)), some (.int (nI v)), some (.int (nI j0))]) at_X0_putIn_16 rfl ?_
        refine E_iload at_X0_putIn_18 rfl ?_
        refine E_iconst (x := (-1)) at_X0_putIn_20 (by decide) ?_
        refine E_ic (t := 57) (b := false) at_X0_putIn_21 rfl ((cn_eq (nI_toInt (by omega)) (by decide : (-1 : Int32).toInt = -1)).trans (decide_eq_false (by omega))) ?_
        refine E_aload_n rfl rfl ?_
        refine E_getfield (v := .ref 33) rfl w32 rfl (by decide) rfl ?_
        refine E_iload_n rfl rfl ?_
        refine E_ialI (l := (lsF (pS f w key v))) (v := (-1)) rfl w33 (by omega) (by omega) (by rw [lsF_get (by omega), pS_lo (by omega), h_1]; rfl) ?_
        refine E_iconst (x := (-1)) rfl (by decide) ?_
        refine E_ic (t := 47) (b := true) rfl rfl (by decide) ?_
        refine E_aload_n rfl rfl ?_
        refine E_getfield (v := .ref 33) rfl w32 rfl (by decide) rfl ?_
        refine E_iload_n rfl rfl ?_
        refine E_iload rfl rfl ?_
        refine E_iload_n rfl rfl ?_
        refine E_iadd (z := nI (j0 + key)) rfl (nI_add _ _) ?_
        refine E_iasI (l := (lsF (pS f w key v))) (cs2 := (ww im lf s d k ((lsF (pS f w key v)).set v (nI (j0 + key))) rf rz ra rn rq lt m1 m2 m3 m4 bd fc hd sz el t g fm hm so si sh ce ca td wa kp la bf oo bo pw ow tr)) rfl w33 (by omega) (by omega) rfl ?_
        refine E_iinc (y := nI (v - 1)) (L2 := [some (.ref 32), some (.int (nI w)), some (.int (nI key)), some (.int (nI (v - 1))), some (.int (nI j0))]) at_X0_putIn_57 rfl (ab_dec (by omega)) rfl ?_
        refine E_goto (t := 3) at_X0_putIn_60 rfl ?_
        have P : putF f w key v = (j0 + key) + 1 := by unfold putF; rw [if_pos (by omega)]; omega
        have X := ih (v - 1) (some (.int (nI j0))) (by omega) (by omega)
        rw [← pS_1 (by omega) (by omega) P] at X
        exact X
      · by_cases f2 : j0 + key < j1
        · have hL := lsF_len (pS f w key v)
          have b0 := hb (v - w)
          have b1 := hb v
          refine E_iload_n at_X0_putIn_3 rfl ?_
          refine E_iload_n at_X0_putIn_4 rfl ?_
          refine E_ic (t := 63) (b := false) at_X0_putIn_5 rfl ((cn_lt (nI_toInt (by omega)) (nI_toInt (by omega))).trans (decide_eq_false (by omega))) ?_
          refine E_aload_n at_X0_putIn_8 rfl ?_
          refine E_getfield (v := .ref 33) at_X0_putIn_9 w32 rfl (by decide) rfl ?_
          refine E_iload_n at_X0_putIn_12 rfl ?_
          refine E_iload_n at_X0_putIn_13 rfl ?_
          refine E_isub (z := nI (v - w)) at_X0_putIn_14 (pk_sub (by omega)) ?_
          refine E_ialI (l := (lsF (pS f w key v))) (v := nI j0) at_X0_putIn_15 w33 (by omega) (by omega) (by rw [lsF_get (by omega), pS_lo (by omega), h_0]; rfl) ?_
          refine E_istore (L2 := [some (.ref 32), some (.int (nI w)), some (.int (nI key)), some (.int (nI v)), some (.int (nI j0))]) at_X0_putIn_16 rfl ?_
          refine E_iload at_X0_putIn_18 rfl ?_
          refine E_iconst (x := (-1)) at_X0_putIn_20 (by decide) ?_
          refine E_ic (t := 57) (b := false) at_X0_putIn_21 rfl ((cn_eq (nI_toInt (by omega)) (by decide : (-1 : Int32).toInt = -1)).trans (decide_eq_false (by omega))) ?_
          refine E_aload_n rfl rfl ?_
          refine E_getfield (v := .ref 33) rfl w32 rfl (by decide) rfl ?_
          refine E_iload_n rfl rfl ?_
          refine E_ialI (l := (lsF (pS f w key v))) (v := nI j1) rfl w33 (by omega) (by omega) (by rw [lsF_get (by omega), pS_lo (by omega), h_1]; rfl) ?_
          refine E_iconst (x := (-1)) rfl (by decide) ?_
          refine E_ic (t := 47) (b := false) rfl rfl ((cn_eq (nI_toInt (by omega)) (by decide : (-1 : Int32).toInt = -1)).trans (decide_eq_false (by omega))) ?_
          refine E_iload rfl rfl ?_
          refine E_iload_n rfl rfl ?_
          refine E_iadd (z := nI (j0 + key)) rfl (nI_add _ _) ?_
          refine E_aload_n rfl rfl ?_
          refine E_getfield (v := .ref 33) rfl w32 rfl (by decide) rfl ?_
          refine E_iload_n rfl rfl ?_
          refine E_ialI (l := (lsF (pS f w key v))) (v := nI j1) rfl w33 (by omega) (by omega) (by rw [lsF_get (by omega), pS_lo (by omega), h_1]; rfl) ?_
          refine E_ic (t := 57) (b := false) rfl rfl ((cn_ge (nI_toInt (by omega)) (nI_toInt (by omega))).trans (decide_eq_false (by omega))) ?_
          refine E_aload_n rfl rfl ?_
          refine E_getfield (v := .ref 33) rfl w32 rfl (by decide) rfl ?_
          refine E_iload_n rfl rfl ?_
          refine E_iload rfl rfl ?_
          refine E_iload_n rfl rfl ?_
          refine E_iadd (z := nI (j0 + key)) rfl (nI_add _ _) ?_
          refine E_iasI (l := (lsF (pS f w key v))) (cs2 := (ww im lf s d k ((lsF (pS f w key v)).set v (nI (j0 + key))) rf rz ra rn rq lt m1 m2 m3 m4 bd fc hd sz el t g fm hm so si sh ce ca td wa kp la bf oo bo pw ow tr)) rfl w33 (by omega) (by omega) rfl ?_
          refine E_iinc (y := nI (v - 1)) (L2 := [some (.ref 32), some (.int (nI w)), some (.int (nI key)), some (.int (nI (v - 1))), some (.int (nI j0))]) at_X0_putIn_57 rfl (ab_dec (by omega)) rfl ?_
          refine E_goto (t := 3) at_X0_putIn_60 rfl ?_
          have P : putF f w key v = (j0 + key) + 1 := by unfold putF; rw [if_pos (by omega)]; omega
          have X := ih (v - 1) (some (.int (nI j0))) (by omega) (by omega)
          rw [← pS_1 (by omega) (by omega) P] at X
          exact X
        · have hL := lsF_len (pS f w key v)
          have b0 := hb (v - w)
          have b1 := hb v
          refine E_iload_n at_X0_putIn_3 rfl ?_
          refine E_iload_n at_X0_putIn_4 rfl ?_
          refine E_ic (t := 63) (b := false) at_X0_putIn_5 rfl ((cn_lt (nI_toInt (by omega)) (nI_toInt (by omega))).trans (decide_eq_false (by omega))) ?_
          refine E_aload_n at_X0_putIn_8 rfl ?_
          refine E_getfield (v := .ref 33) at_X0_putIn_9 w32 rfl (by decide) rfl ?_
          refine E_iload_n at_X0_putIn_12 rfl ?_
          refine E_iload_n at_X0_putIn_13 rfl ?_
          refine E_isub (z := nI (v - w)) at_X0_putIn_14 (pk_sub (by omega)) ?_
          refine E_ialI (l := (lsF (pS f w key v))) (v := nI j0) at_X0_putIn_15 w33 (by omega) (by omega) (by rw [lsF_get (by omega), pS_lo (by omega), h_0]; rfl) ?_
          refine E_istore (L2 := [some (.ref 32), some (.int (nI w)), some (.int (nI key)), some (.int (nI v)), some (.int (nI j0))]) at_X0_putIn_16 rfl ?_
          refine E_iload at_X0_putIn_18 rfl ?_
          refine E_iconst (x := (-1)) at_X0_putIn_20 (by decide) ?_
          refine E_ic (t := 57) (b := false) at_X0_putIn_21 rfl ((cn_eq (nI_toInt (by omega)) (by decide : (-1 : Int32).toInt = -1)).trans (decide_eq_false (by omega))) ?_
          refine E_aload_n rfl rfl ?_
          refine E_getfield (v := .ref 33) rfl w32 rfl (by decide) rfl ?_
          refine E_iload_n rfl rfl ?_
          refine E_ialI (l := (lsF (pS f w key v))) (v := nI j1) rfl w33 (by omega) (by omega) (by rw [lsF_get (by omega), pS_lo (by omega), h_1]; rfl) ?_
          refine E_iconst (x := (-1)) rfl (by decide) ?_
          refine E_ic (t := 47) (b := false) rfl rfl ((cn_eq (nI_toInt (by omega)) (by decide : (-1 : Int32).toInt = -1)).trans (decide_eq_false (by omega))) ?_
          refine E_iload rfl rfl ?_
          refine E_iload_n rfl rfl ?_
          refine E_iadd (z := nI (j0 + key)) rfl (nI_add _ _) ?_
          refine E_aload_n rfl rfl ?_
          refine E_getfield (v := .ref 33) rfl w32 rfl (by decide) rfl ?_
          refine E_iload_n rfl rfl ?_
          refine E_ialI (l := (lsF (pS f w key v))) (v := nI j1) rfl w33 (by omega) (by omega) (by rw [lsF_get (by omega), pS_lo (by omega), h_1]; rfl) ?_
          refine E_ic (t := 57) (b := true) rfl rfl ((cn_ge (nI_toInt (by omega)) (nI_toInt (by omega))).trans (decide_eq_true (by omega))) ?_
          refine E_iinc (y := nI (v - 1)) (L2 := [some (.ref 32), some (.int (nI w)), some (.int (nI key)), some (.int (nI (v - 1))), some (.int (nI j0))]) at_X0_putIn_57 rfl (ab_dec (by omega)) rfl ?_
          refine E_goto (t := 3) at_X0_putIn_60 rfl ?_
          have P : putF f w key v = f v := by unfold putF; rw [if_neg (by omega)]
          have X := ih (v - 1) (some (.int (nI j0))) (by omega) (by omega)
          rw [← pS_2 (by omega) P] at X
          exact X
theorem w_putIn {f : Nat → Nat} {w key : Nat} (hw : 1 ≤ w) (h6 : w ≤ 59) (hk : key < 268435456) (hb : ∀ c, f c ≤ 268435455) : Ev ab_Z0 1 3 [.ref 32, .int (nI w), .int (nI key)] (ww im lf s d k (lsF f) rf rz ra rn rq lt m1 m2 m3 m4 bd fc hd sz el t g fm hm so si sh ce ca td wa kp la bf oo bo pw ow tr) (none, (ww im lf s d k (lsF (putF f w key)) rf rz ra rn rq lt m1 m2 m3 m4 bd fc hd sz el t g fm hm so si sh ce ca td wa kp la bf oo bo pw ow tr)) := by
  refine Ef.in (md := mX0_putIn) (L := [some (.ref 32), some (.int (nI w)), some (.int (nI key)), none, none]) rfl (Nat.le_of_ble_eq_true rfl) rfl ?_
  refine E_bipush (x := nI 99) rfl (by decide) ?_
  refine E_istore_n (L2 := [some (.ref 32), some (.int (nI w)), some (.int (nI key)), some (.int (nI 99)), none]) rfl rfl ?_
  rw [← pS_99 (f := f) (w := w) (k := key)]
  exact putIn_l hw hk hb (100 - w) 99 none (by omega) (by omega)
end PI
