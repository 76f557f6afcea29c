/-! pieces go to a person; by program (wip/tools/mk88.py) -/
theorem qs_PP {s : ab_q} {l1 l2 : List Nat} : qs_P (qs_P s l1) l2 = qs_P s l2 := rfl
theorem qGP_pl {l : List Nat} {p m k n : Nat} (hp : p < k) (h : ∀ x, x < n → l.getD x 0 = 99 ∨ l.getD x 0 < k) : ∀ i x, x < n → (qGP l p m i).getD x 0 = 99 ∨ (qGP l p m i).getD x 0 < k
  | 0, x, hx => h x hx
  | i + 1, x, hx => by
    rcases qBit2 m i with b | b
    · rw [qGP_0 b]
      exact qGP_pl hp h i x hx
    · rw [qGP_1 b]
      exact ab_gsP (P := fun z => z = 99 ∨ z < k) (Or.inr hp) (qGP_pl hp h i x hx)
theorem qs_Pself {s : ab_q} : qs_P s (qP s) = s := rfl
section GP
variable {im : Int32} {lf : Int32} {s : ab_q} {d : ab_q} {k : ab_q} {ls : List Int32} {rf : Int32} {rz : Int32} {ra : Int32} {rn : Int32} {rq : ab_q} {lt : List Int32} {m1 : Int32} {m2 : Int32} {m3 : Int32} {m4 : Int32} {bd : List Int32} {fc : List Int32} {hd : Nat → Int32} {sz : Nat → Int32} {el : Nat → List Int64} {t : ab_q} {g : Nat → Int32} {fm : List Int32} {hm : List Nat} {so : List Nat} {si : List Nat} {sh : List Int32} {ce : List Int64} {ca : List Int64} {td : List Int32} {wa : List Int32} {kp : List Int32} {la : List Int32} {bf : List Int32} {oo : List Int32} {bo : List Int32} {pw : List Int32} {ow : List Int32} {tr : List Int32}
set_option maxHeartbeats 1000000 in
theorem grant_l1 {l : List Nat} {p n m : Nat} (h9 : qN s ≤ 9) (hl : l.length = 9) (hM : m < 2147483648) (hP : p < 2147483648) : ∀ n0 v, v + n0 = qN s → Ef ab_Z0 1 mX4_grant (33, [some (.ref 1), some (.int (nI p)), some (.int (nI n)), some (.int (nI m)), some (.int (nI v))], [], (ww im lf (qs_P s (qGP l p m v)) d k ls rf rz ra rn rq lt m1 m2 m3 m4 bd fc hd sz el t g fm hm so si sh ce ca td wa kp la bf oo bo pw ow tr)) (none, (ww im lf (qs_P s (qGP l p m (qN s))) d k ls rf rz ra rn rq lt m1 m2 m3 m4 bd fc hd sz el t g fm hm so si sh ce ca td wa kp la bf oo bo pw ow tr)) := by
  intro n0
  induction n0 with
  | zero =>
    intro v hi
    have hi : v = qN s := hi
    rw [hi]
    refine E_iload at_X4_grant_33 rfl ?_
    refine E_aload_n at_X4_grant_35 rfl ?_
    refine E_getfield (v := .int (nI (qN s))) at_X4_grant_36 w1 rfl (by decide) (congrArg (fun z => some (Value.int (nI z))) qg_NP) ?_
    refine E_ic (t := 65) (b := true) at_X4_grant_39 rfl ((cn_ge (nI_toInt (by omega)) (nI_toInt (by omega))).trans (decide_eq_true (by omega))) ?_
    exact E_vret rfl rfl
  | succ n0 ih =>
    intro v hi
    rcases qBit2 m v with hb | hb
    · have lg := (qGP_len l p m v).trans hl
      refine E_iload at_X4_grant_33 rfl ?_
      refine E_aload_n at_X4_grant_35 rfl ?_
      refine E_getfield (v := .int (nI (qN s))) at_X4_grant_36 w1 rfl (by decide) (congrArg (fun z => some (Value.int (nI z))) qg_NP) ?_
      refine E_ic (t := 65) (b := false) at_X4_grant_39 rfl ((cn_ge (nI_toInt (by omega)) (nI_toInt (by omega))).trans (decide_eq_false (by omega))) ?_
      refine E_iload_n at_X4_grant_42 rfl ?_
      refine E_iload at_X4_grant_43 rfl ?_
      refine E_callS (v := some (.int (nI (qBit m v)))) (As := [.int (nI m), .int (nI v)]) (r0 := []) (cs2 := (ww im lf (qs_P s (qGP l p m v)) d k ls rf rz ra rn rq lt m1 m2 m3 m4 bd fc hd sz el t g fm hm so si sh ce ca td wa kp la bf oo bo pw ow tr)) at_X4_grant_45 rfl rfl (Nat.le_of_ble_eq_true rfl) rfl (sq_isBit (by omega) (by omega)) (by decide) rfl ?_
      refine E_if (t := 59) (b := true) at_X4_grant_48 rfl ((cn_eq (nI_toInt (by omega)) (by decide : (0 : Int32).toInt = 0)).trans (decide_eq_true (by omega))) ?_
      refine E_iinc (y := nI (v + 1)) (L2 := [some (.ref 1), some (.int (nI p)), some (.int (nI n)), some (.int (nI m)), some (.int (nI (v + 1)))]) at_X4_grant_59 rfl (nI_1 _) rfl ?_
      refine E_goto (t := 33) at_X4_grant_62 rfl ?_
      have X := ih (v + 1) (by omega)
      rw [qGP_0 hb] at X
      exact X
    · have lg := (qGP_len l p m v).trans hl
      have : (qGP l p m v).length = 9 := by first | omega | (simp only [List.length_set]; omega)
      refine E_iload at_X4_grant_33 rfl ?_
      refine E_aload_n at_X4_grant_35 rfl ?_
      refine E_getfield (v := .int (nI (qN s))) at_X4_grant_36 w1 rfl (by decide) (congrArg (fun z => some (Value.int (nI z))) qg_NP) ?_
      refine E_ic (t := 65) (b := false) at_X4_grant_39 rfl ((cn_ge (nI_toInt (by omega)) (nI_toInt (by omega))).trans (decide_eq_false (by omega))) ?_
      refine E_iload_n at_X4_grant_42 rfl ?_
      refine E_iload at_X4_grant_43 rfl ?_
      refine E_callS (v := some (.int (nI (qBit m v)))) (As := [.int (nI m), .int (nI v)]) (r0 := []) (cs2 := (ww im lf (qs_P s (qGP l p m v)) d k ls rf rz ra rn rq lt m1 m2 m3 m4 bd fc hd sz el t g fm hm so si sh ce ca td wa kp la bf oo bo pw ow tr)) at_X4_grant_45 rfl rfl (Nat.le_of_ble_eq_true rfl) rfl (sq_isBit (by omega) (by omega)) (by decide) rfl ?_
      refine E_if (t := 59) (b := false) at_X4_grant_48 rfl ((cn_eq (nI_toInt (by omega)) (by decide : (0 : Int32).toInt = 0)).trans (decide_eq_false (by omega))) ?_
      refine E_aload_n rfl rfl ?_
      refine E_getfield (v := .ref 5) rfl w1 rfl (by decide) rfl ?_
      refine E_iload rfl rfl ?_
      refine E_iload_n rfl rfl ?_
      refine E_iasN (l := (qGP l p m v)) (cs2 := (ww im lf (qs_P (qs_P s (qGP l p m v)) ((qGP l p m v).set v p)) d k ls rf rz ra rn rq lt m1 m2 m3 m4 bd fc hd sz el t g fm hm so si sh ce ca td wa kp la bf oo bo pw ow tr)) rfl (w5v qg_PP) (by omega) (by omega) w_pt1_P ?_
      refine E_iinc (y := nI (v + 1)) (L2 := [some (.ref 1), some (.int (nI p)), some (.int (nI n)), some (.int (nI m)), some (.int (nI (v + 1)))]) at_X4_grant_59 rfl (nI_1 _) rfl ?_
      refine E_goto (t := 33) at_X4_grant_62 rfl ?_
      have X := ih (v + 1) (by omega)
      rw [qGP_1 hb] at X
      rw [qs_PP]
      exact X
set_option maxHeartbeats 1000000 in
theorem grant_l11 {l : List Nat} {p n m : Nat} (h9 : qN d ≤ 9) (hl : l.length = 9) (hM : m < 2147483648) (hP : p < 2147483648) : ∀ n0 v, v + n0 = qN d → Ef ab_Z0 1 mX4_grant (33, [some (.ref 11), some (.int (nI p)), some (.int (nI n)), some (.int (nI m)), some (.int (nI v))], [], (ww im lf s (qs_P d (qGP l p m v)) k ls rf rz ra rn rq lt m1 m2 m3 m4 bd fc hd sz el t g fm hm so si sh ce ca td wa kp la bf oo bo pw ow tr)) (none, (ww im lf s (qs_P d (qGP l p m (qN d))) k ls rf rz ra rn rq lt m1 m2 m3 m4 bd fc hd sz el t g fm hm so si sh ce ca td wa kp la bf oo bo pw ow tr)) := by
  intro n0
  induction n0 with
  | zero =>
    intro v hi
    have hi : v = qN d := hi
    rw [hi]
    refine E_iload at_X4_grant_33 rfl ?_
    refine E_aload_n at_X4_grant_35 rfl ?_
    refine E_getfield (v := .int (nI (qN d))) at_X4_grant_36 w11 rfl (by decide) (congrArg (fun z => some (Value.int (nI z))) qg_NP) ?_
    refine E_ic (t := 65) (b := true) at_X4_grant_39 rfl ((cn_ge (nI_toInt (by omega)) (nI_toInt (by omega))).trans (decide_eq_true (by omega))) ?_
    exact E_vret rfl rfl
  | succ n0 ih =>
    intro v hi
    rcases qBit2 m v with hb | hb
    · have lg := (qGP_len l p m v).trans hl
      refine E_iload at_X4_grant_33 rfl ?_
      refine E_aload_n at_X4_grant_35 rfl ?_
      refine E_getfield (v := .int (nI (qN d))) at_X4_grant_36 w11 rfl (by decide) (congrArg (fun z => some (Value.int (nI z))) qg_NP) ?_
      refine E_ic (t := 65) (b := false) at_X4_grant_39 rfl ((cn_ge (nI_toInt (by omega)) (nI_toInt (by omega))).trans (decide_eq_false (by omega))) ?_
      refine E_iload_n at_X4_grant_42 rfl ?_
      refine E_iload at_X4_grant_43 rfl ?_
      refine E_callS (v := some (.int (nI (qBit m v)))) (As := [.int (nI m), .int (nI v)]) (r0 := []) (cs2 := (ww im lf s (qs_P d (qGP l p m v)) k ls rf rz ra rn rq lt m1 m2 m3 m4 bd fc hd sz el t g fm hm so si sh ce ca td wa kp la bf oo bo pw ow tr)) at_X4_grant_45 rfl rfl (Nat.le_of_ble_eq_true rfl) rfl (sq_isBit (by omega) (by omega)) (by decide) rfl ?_
      refine E_if (t := 59) (b := true) at_X4_grant_48 rfl ((cn_eq (nI_toInt (by omega)) (by decide : (0 : Int32).toInt = 0)).trans (decide_eq_true (by omega))) ?_
      refine E_iinc (y := nI (v + 1)) (L2 := [some (.ref 11), some (.int (nI p)), some (.int (nI n)), some (.int (nI m)), some (.int (nI (v + 1)))]) at_X4_grant_59 rfl (nI_1 _) rfl ?_
      refine E_goto (t := 33) at_X4_grant_62 rfl ?_
      have X := ih (v + 1) (by omega)
      rw [qGP_0 hb] at X
      exact X
    · have lg := (qGP_len l p m v).trans hl
      have : (qGP l p m v).length = 9 := by first | omega | (simp only [List.length_set]; omega)
      refine E_iload at_X4_grant_33 rfl ?_
      refine E_aload_n at_X4_grant_35 rfl ?_
      refine E_getfield (v := .int (nI (qN d))) at_X4_grant_36 w11 rfl (by decide) (congrArg (fun z => some (Value.int (nI z))) qg_NP) ?_
      refine E_ic (t := 65) (b := false) at_X4_grant_39 rfl ((cn_ge (nI_toInt (by omega)) (nI_toInt (by omega))).trans (decide_eq_false (by omega))) ?_
      refine E_iload_n at_X4_grant_42 rfl ?_
      refine E_iload at_X4_grant_43 rfl ?_
      refine E_callS (v := some (.int (nI (qBit m v)))) (As := [.int (nI m), .int (nI v)]) (r0 := []) (cs2 := (ww im lf s (qs_P d (qGP l p m v)) k ls rf rz ra rn rq lt m1 m2 m3 m4 bd fc hd sz el t g fm hm so si sh ce ca td wa kp la bf oo bo pw ow tr)) at_X4_grant_45 rfl rfl (Nat.le_of_ble_eq_true rfl) rfl (sq_isBit (by omega) (by omega)) (by decide) rfl ?_
      refine E_if (t := 59) (b := false) at_X4_grant_48 rfl ((cn_eq (nI_toInt (by omega)) (by decide : (0 : Int32).toInt = 0)).trans (decide_eq_false (by omega))) ?_
      refine E_aload_n rfl rfl ?_
      refine E_getfield (v := .ref 15) rfl w11 rfl (by decide) rfl ?_
      refine E_iload rfl rfl ?_
      refine E_iload_n rfl rfl ?_
      refine E_iasN (l := (qGP l p m v)) (cs2 := (ww im lf s (qs_P (qs_P d (qGP l p m v)) ((qGP l p m v).set v p)) k ls rf rz ra rn rq lt m1 m2 m3 m4 bd fc hd sz el t g fm hm so si sh ce ca td wa kp la bf oo bo pw ow tr)) rfl (w15v qg_PP) (by omega) (by omega) w_pt11_P ?_
      refine E_iinc (y := nI (v + 1)) (L2 := [some (.ref 11), some (.int (nI p)), some (.int (nI n)), some (.int (nI m)), some (.int (nI (v + 1)))]) at_X4_grant_59 rfl (nI_1 _) rfl ?_
      refine E_goto (t := 33) at_X4_grant_62 rfl ?_
      have X := ih (v + 1) (by omega)
      rw [qGP_1 hb] at X
      rw [qs_PP]
      exact X
set_option maxHeartbeats 1000000 in
theorem grant_l65 {l : List Nat} {p n m : Nat} (h9 : qN t ≤ 9) (hl : l.length = 9) (hM : m < 2147483648) (hP : p < 2147483648) : ∀ n0 v, v + n0 = qN t → Ef ab_Z0 0 mX6_throwsIn (33, [some (.ref 65), some (.int (nI p)), some (.int (nI n)), some (.int (nI m)), some (.int (nI v))], [], (ww im lf s d k ls rf rz ra rn rq lt m1 m2 m3 m4 bd fc hd sz el (qs_P t (qGP l p m v)) g fm hm so si sh ce ca td wa kp la bf oo bo pw ow tr)) (none, (ww im lf s d k ls rf rz ra rn rq lt m1 m2 m3 m4 bd fc hd sz el (qs_P t (qGP l p m (qN t))) g fm hm so si sh ce ca td wa kp la bf oo bo pw ow tr)) := by
  intro n0
  induction n0 with
  | zero =>
    intro v hi
    have hi : v = qN t := hi
    rw [hi]
    refine E_iload rfl rfl ?_
    refine E_aload_n rfl rfl ?_
    refine E_getfield (v := .int (nI (qN t))) rfl w65 rfl (by decide) (congrArg (fun z => some (Value.int (nI z))) qg_NP) ?_
    refine E_ic (t := 66) (b := true) rfl rfl ((cn_ge (nI_toInt (by omega)) (nI_toInt (by omega))).trans (decide_eq_true (by omega))) ?_
    exact E_vret rfl rfl
  | succ n0 ih =>
    intro v hi
    rcases qBit2 m v with hb | hb
    · have lg := (qGP_len l p m v).trans hl
      have dm := Nat.div_le_self m (2 ^ v)
      refine E_iload rfl rfl ?_
      refine E_aload_n rfl rfl ?_
      refine E_getfield (v := .int (nI (qN t))) rfl w65 rfl (by decide) (congrArg (fun z => some (Value.int (nI z))) qg_NP) ?_
      refine E_ic (t := 66) (b := false) rfl rfl ((cn_ge (nI_toInt (by omega)) (nI_toInt (by omega))).trans (decide_eq_false (by omega))) ?_
      refine E_iload_n rfl rfl ?_
      refine E_iload rfl rfl ?_
      refine E_ishr (z := nI (m / 2 ^ v)) rfl (ab_shr (by omega) (by omega)) ?_
      refine E_iconst (x := nI 1) rfl (by decide) ?_
      refine E_iand (z := nI (qBit m v)) rfl (ab_and1 (by omega)) ?_
      refine E_iconst (x := nI 1) rfl (by decide) ?_
      refine E_ic (t := 60) (b := true) rfl rfl ((cn_ne (nI_toInt (by omega)) (nI_toInt (by omega))).trans (decide_eq_true (by omega))) ?_
      refine E_iinc (y := nI (v + 1)) (L2 := [some (.ref 65), some (.int (nI p)), some (.int (nI n)), some (.int (nI m)), some (.int (nI (v + 1)))]) rfl rfl (nI_1 _) rfl ?_
      refine E_goto (t := 33) rfl rfl ?_
      have X := ih (v + 1) (by omega)
      rw [qGP_0 hb] at X
      exact X
    · have lg := (qGP_len l p m v).trans hl
      have dm := Nat.div_le_self m (2 ^ v)
      have : (qGP l p m v).length = 9 := by first | omega | (simp only [List.length_set]; omega)
      refine E_iload rfl rfl ?_
      refine E_aload_n rfl rfl ?_
      refine E_getfield (v := .int (nI (qN t))) rfl w65 rfl (by decide) (congrArg (fun z => some (Value.int (nI z))) qg_NP) ?_
      refine E_ic (t := 66) (b := false) rfl rfl ((cn_ge (nI_toInt (by omega)) (nI_toInt (by omega))).trans (decide_eq_false (by omega))) ?_
      refine E_iload_n rfl rfl ?_
      refine E_iload rfl rfl ?_
      refine E_ishr (z := nI (m / 2 ^ v)) rfl (ab_shr (by omega) (by omega)) ?_
      refine E_iconst (x := nI 1) rfl (by decide) ?_
      refine E_iand (z := nI (qBit m v)) rfl (ab_and1 (by omega)) ?_
      refine E_iconst (x := nI 1) rfl (by decide) ?_
      refine E_ic (t := 60) (b := false) rfl rfl ((cn_ne (nI_toInt (by omega)) (nI_toInt (by omega))).trans (decide_eq_false (by omega))) ?_
      refine E_aload_n rfl rfl ?_
      refine E_getfield (v := .ref 70) rfl w65 rfl (by decide) rfl ?_
      refine E_iload rfl rfl ?_
      refine E_iload_n rfl rfl ?_
      refine E_iasN (l := (qGP l p m v)) (cs2 := (ww im lf s d k ls rf rz ra rn rq lt m1 m2 m3 m4 bd fc hd sz el (qs_P (qs_P t (qGP l p m v)) ((qGP l p m v).set v p)) g fm hm so si sh ce ca td wa kp la bf oo bo pw ow tr)) rfl (w70v qg_PP) (by omega) (by omega) w_pt65_P ?_
      refine E_iinc (y := nI (v + 1)) (L2 := [some (.ref 65), some (.int (nI p)), some (.int (nI n)), some (.int (nI m)), some (.int (nI (v + 1)))]) rfl rfl (nI_1 _) rfl ?_
      refine E_goto (t := 33) rfl rfl ?_
      have X := ih (v + 1) (by omega)
      rw [qGP_1 hb] at X
      rw [qs_PP]
      exact X
theorem grant_s1 {l : List Nat} {p n m n1 : Nat} (hs : qs_P s l = s) (hn : qN s = n1) (h9 : n1 ≤ 9) (hl : l.length = 9) (hM : m < 2147483648) (hP : p < 2147483648) : Ef ab_Z0 1 mX4_grant (33, [some (.ref 1), some (.int (nI p)), some (.int (nI n)), some (.int (nI m)), some (.int (nI 0))], [], (ww im lf s d k ls rf rz ra rn rq lt m1 m2 m3 m4 bd fc hd sz el t g fm hm so si sh ce ca td wa kp la bf oo bo pw ow tr)) (none, (ww im lf (qs_P s (qGP l p m n1)) d k ls rf rz ra rn rq lt m1 m2 m3 m4 bd fc hd sz el t g fm hm so si sh ce ca td wa kp la bf oo bo pw ow tr)) := by
  have X : Ef ab_Z0 1 mX4_grant (33, [some (.ref 1), some (.int (nI p)), some (.int (nI n)), some (.int (nI m)), some (.int (nI 0))], [], (ww im lf (qs_P s (qGP l p m 0)) d k ls rf rz ra rn rq lt m1 m2 m3 m4 bd fc hd sz el t g fm hm so si sh ce ca td wa kp la bf oo bo pw ow tr)) (none, (ww im lf (qs_P s (qGP l p m (qN s))) d k ls rf rz ra rn rq lt m1 m2 m3 m4 bd fc hd sz el t g fm hm so si sh ce ca td wa kp la bf oo bo pw ow tr)) := grant_l1 (by omega) hl hM hP (qN s) 0 (Nat.zero_add _)
  have e : qs_P s (qGP l p m 0) = s := hs
  rw [e, hn] at X
  exact X
theorem grant_s11 {l : List Nat} {p n m n1 : Nat} (hs : qs_P d l = d) (hn : qN d = n1) (h9 : n1 ≤ 9) (hl : l.length = 9) (hM : m < 2147483648) (hP : p < 2147483648) : Ef ab_Z0 1 mX4_grant (33, [some (.ref 11), some (.int (nI p)), some (.int (nI n)), some (.int (nI m)), some (.int (nI 0))], [], (ww im lf s d k ls rf rz ra rn rq lt m1 m2 m3 m4 bd fc hd sz el t g fm hm so si sh ce ca td wa kp la bf oo bo pw ow tr)) (none, (ww im lf s (qs_P d (qGP l p m n1)) k ls rf rz ra rn rq lt m1 m2 m3 m4 bd fc hd sz el t g fm hm so si sh ce ca td wa kp la bf oo bo pw ow tr)) := by
  have X : Ef ab_Z0 1 mX4_grant (33, [some (.ref 11), some (.int (nI p)), some (.int (nI n)), some (.int (nI m)), some (.int (nI 0))], [], (ww im lf s (qs_P d (qGP l p m 0)) k ls rf rz ra rn rq lt m1 m2 m3 m4 bd fc hd sz el t g fm hm so si sh ce ca td wa kp la bf oo bo pw ow tr)) (none, (ww im lf s (qs_P d (qGP l p m (qN d))) k ls rf rz ra rn rq lt m1 m2 m3 m4 bd fc hd sz el t g fm hm so si sh ce ca td wa kp la bf oo bo pw ow tr)) := grant_l11 (by omega) hl hM hP (qN d) 0 (Nat.zero_add _)
  have e : qs_P d (qGP l p m 0) = d := hs
  rw [e, hn] at X
  exact X
theorem grant_s65 {l : List Nat} {p n m n1 : Nat} (hs : qs_P t l = t) (hn : qN t = n1) (h9 : n1 ≤ 9) (hl : l.length = 9) (hM : m < 2147483648) (hP : p < 2147483648) : Ef ab_Z0 0 mX6_throwsIn (33, [some (.ref 65), some (.int (nI p)), some (.int (nI n)), some (.int (nI m)), some (.int (nI 0))], [], (ww im lf s d k ls rf rz ra rn rq lt m1 m2 m3 m4 bd fc hd sz el t g fm hm so si sh ce ca td wa kp la bf oo bo pw ow tr)) (none, (ww im lf s d k ls rf rz ra rn rq lt m1 m2 m3 m4 bd fc hd sz el (qs_P t (qGP l p m n1)) g fm hm so si sh ce ca td wa kp la bf oo bo pw ow tr)) := by
  have X : Ef ab_Z0 0 mX6_throwsIn (33, [some (.ref 65), some (.int (nI p)), some (.int (nI n)), some (.int (nI m)), some (.int (nI 0))], [], (ww im lf s d k ls rf rz ra rn rq lt m1 m2 m3 m4 bd fc hd sz el (qs_P t (qGP l p m 0)) g fm hm so si sh ce ca td wa kp la bf oo bo pw ow tr)) (none, (ww im lf s d k ls rf rz ra rn rq lt m1 m2 m3 m4 bd fc hd sz el (qs_P t (qGP l p m (qN t))) g fm hm so si sh ce ca td wa kp la bf oo bo pw ow tr)) := grant_l65 (by omega) hl hM hP (qN t) 0 (Nat.zero_add _)
  have e : qs_P t (qGP l p m 0) = t := hs
  rw [e, hn] at X
  exact X
end GP
