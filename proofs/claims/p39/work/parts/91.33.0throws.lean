/-! throws one behind the other; by program (wip/tools/mkthrows.py) -/
/-- CHANGE by the rule -/
def chg (q : ab_q) (c : Nat) : Nat := if qR q = 0 then bst q (qPs q 99 (qN q)) (qN q) (2 ^ qN q) c else qGreedy q c
/-- a throw: 0 it is none, B + 1: its change -/
def thr (q : ab_q) (x y : Int32) : Nat := if 0 ≤ x.toInt ∧ x.toNatClampNeg < qM q ∧ 0 ≤ y.toInt ∧ y.toNatClampNeg ≤ (qU q).getD x.toNatClampNeg 0 ∧ qPr q x.toNatClampNeg ((qW q).getD x.toNatClampNeg 0) ≤ y.toNatClampNeg then chg q (y.toNatClampNeg - qPr q x.toNatClampNeg ((qW q).getD x.toNatClampNeg 0)) else 0
theorem thr_of {q : ab_q} {x y : Int32} {p u : Nat} (ex : x = nI p) (ey : y = nI u) (hP : p < 2 ^ 31) (hU : u < 2 ^ 31) (hp : p < qM q) (hu : u ≤ (qU q).getD p 0) (hr : qPr q p ((qW q).getD p 0) ≤ u) : thr q x y = chg q (u - qPr q p ((qW q).getD p 0)) := by
  unfold thr
  rw [ex, ey, nI_clamp hP, nI_clamp hU, nI_toInt hP, nI_toInt hU]
  exact if_pos ⟨Int.natCast_nonneg p, hp, Int.natCast_nonneg u, hu, hr⟩
theorem ab_clampOf {x : Int32} (h : 0 ≤ x.toInt) : ∃ p, p < 2147483648 ∧ x = nI p ∧ x.toNatClampNeg = p := by
  rcases ab_int x with ⟨p, hp, e⟩ | z
  · exact ⟨p, hp, e, by rw [e, nI_clamp hp]⟩
  · omega
theorem thr_ex {q : ab_q} {x y : Int32} {b : Nat} (h : thr q x y = b + 1) : ∃ p u, x = nI p ∧ y = nI u ∧ u < 2147483648 ∧ p < qM q ∧ u ≤ (qU q).getD p 0 ∧ qPr q p ((qW q).getD p 0) ≤ u ∧ chg q (u - qPr q p ((qW q).getD p 0)) = b + 1 ∧ x.toNatClampNeg = p ∧ y.toNatClampNeg = u := by
  unfold thr at h
  split at h
  · rename_i c
    obtain ⟨c1, c2, c3, c4, c5⟩ := c
    obtain ⟨p, hp, e1, e2⟩ := ab_clampOf c1
    obtain ⟨u, hu, e3, e4⟩ := ab_clampOf c3
    rw [e2, e4] at h c4 c5
    rw [e2] at c2
    exact ⟨p, u, e1, e3, hu, c2, c4, c5, h, e2, e4⟩
  · omega
/-- one served -/
def grQ (q : ab_q) (p u b : Nat) : ab_q := qs_P (qs_Y (qs_G (qs_U q ((qU q).set p ((qU q).getD p 0 - u))) ((qG q).set p ((qG q).getD p 0 + nI 1))) (qY q + nI u)) (qGP (qP q) p b (qN q))
theorem grQ_I {q : ab_q} {p u b : Nat} (I : qI q) (hp : p < qM q) : qI (grQ q p u b) := by
  have hU := I.2.2.2.2.1 p hp
  exact qI_P (qI_Y (qI_G (kU I (by omega)) (by simp only [List.length_set]; exact I.2.1.2.2.2.1))) ((qGP_len _ _ _ _).trans I.1.2.2.2) (qGP_pl (k := qM q) hp (fun x hx => (I.2.2.2.1 x hx).2.2.2.2) _)
/-- what has come of the first v told throws -/
def dyS (e : List Int64) (s : ab_q) : Nat → ab_q
  | 0 => s
  | v + 1 => match thr (dyS e s v) (tw e (2 * v)) (tw e (2 * v + 1)) with
    | 0 => dyS e s v
    | b + 1 => grQ (dyS e s v) (tw e (2 * v)).toNatClampNeg (tw e (2 * v + 1)).toNatClampNeg b
def dyH (e : List Int64) (s : ab_q) : Nat → Nat
  | 0 => 0
  | v + 1 => dyH e s v + (match thr (dyS e s v) (tw e (2 * v)) (tw e (2 * v + 1)) with
    | 0 => 0
    | b + 1 => qHs (dyS e s v) b (qN (dyS e s v)))
def dyM (e : List Int64) (s : ab_q) : Nat → Nat
  | 0 => 0
  | v + 1 => dyM e s v + (tw e (2 * v + 1)).toNatClampNeg
theorem dy_1 {e : List Int64} {s : ab_q} {v p u b : Nat} (h : thr (dyS e s v) (tw e (2 * v)) (tw e (2 * v + 1)) = b + 1) (e1 : (tw e (2 * v)).toNatClampNeg = p) (e2 : (tw e (2 * v + 1)).toNatClampNeg = u) : dyS e s (v + 1) = grQ (dyS e s v) p u b ∧ dyH e s (v + 1) = dyH e s v + qHs (dyS e s v) b (qN (dyS e s v)) ∧ dyM e s (v + 1) = dyM e s v + u := by
  refine ⟨?_, ?_, ?_⟩
  · show (match thr (dyS e s v) (tw e (2 * v)) (tw e (2 * v + 1)) with | 0 => dyS e s v | b + 1 => grQ (dyS e s v) (tw e (2 * v)).toNatClampNeg (tw e (2 * v + 1)).toNatClampNeg b) = _
    rw [h, e1, e2]
  · show dyH e s v + (match thr (dyS e s v) (tw e (2 * v)) (tw e (2 * v + 1)) with | 0 => 0 | b + 1 => qHs (dyS e s v) b (qN (dyS e s v))) = _
    rw [h]
  · show dyM e s v + (tw e (2 * v + 1)).toNatClampNeg = _
    rw [e2]
theorem dyS_I {e : List Int64} {s : ab_q} (I : qI s) : ∀ v, qI (dyS e s v)
  | 0 => I
  | v + 1 => by
    have ih := dyS_I (e := e) I v
    rcases h : thr (dyS e s v) (tw e (2 * v)) (tw e (2 * v + 1)) with _ | b
    · have q : dyS e s (v + 1) = dyS e s v := by
        show (match thr (dyS e s v) (tw e (2 * v)) (tw e (2 * v + 1)) with | 0 => dyS e s v | b + 1 => grQ (dyS e s v) (tw e (2 * v)).toNatClampNeg (tw e (2 * v + 1)).toNatClampNeg b) = _
        rw [h]
      rw [q]
      exact ih
    · obtain ⟨p, u, -, -, -, h4, -, -, -, h8, h9⟩ := thr_ex h
      rw [(dy_1 h h8 h9).1]
      exact grQ_I ih h4
theorem dy_first (e : List Int64) (s : ab_q) : ∀ n, (∀ i, i < n → thr (dyS e s i) (tw e (2 * i)) (tw e (2 * i + 1)) ≠ 0) ∨ ∃ v, v < n ∧ thr (dyS e s v) (tw e (2 * v)) (tw e (2 * v + 1)) = 0 ∧ ∀ i, i < v → thr (dyS e s i) (tw e (2 * i)) (tw e (2 * i + 1)) ≠ 0
  | 0 => Or.inl (fun i h => absurd h (Nat.not_lt_zero i))
  | n + 1 => by
    rcases dy_first e s n with h | ⟨v, h1, h2, h3⟩
    · by_cases c : thr (dyS e s n) (tw e (2 * n)) (tw e (2 * n + 1)) = 0
      · exact Or.inr ⟨n, Nat.lt_succ_self n, c, h⟩
      · refine Or.inl (fun i hi => ?_)
        by_cases z : i = n
        · rw [z]
          exact c
        · exact h i (by omega)
    · exact Or.inr ⟨v, by omega, h2, h3⟩
theorem g3_up {g : Nat → Int32} {a b c x y z : Int32} : fUp (fUp (fUp (fUp (fUp (fUp g 43 a) 44 b) 45 c) 43 x) 44 y) 45 z = fUp (fUp (fUp g 43 x) 44 y) 45 z := by
  funext i
  unfold fUp
  split
  · rfl
  · split
    · rfl
    · split
      · rfl
      · rfl
section TH
variable {im : Int32} {lf : Int32} {s : ab_q} {d : ab_q} {k : ab_q} {ls : List Int32} {rf : Int32} {rz : Int32} {ra : Int32} {rn : Int32} {rq : ab_q} {lt : List Int32} {m1 : Int32} {m2 : Int32} {m3 : Int32} {m4 : Int32} {bd : List Int32} {fc : List Int32} {hd : Nat → Int32} {sz : Nat → Int32} {el : Nat → List Int64} {t : ab_q} {g : Nat → Int32} {fm : List Int32} {hm : List Nat} {so : List Nat} {si : List Nat} {sh : List Int32} {ce : List Int64} {ca : List Int64} {td : List Int32} {wa : List Int32} {kp : List Int32} {la : List Int32} {bf : List Int32} {oo : List Int32} {bo : List Int32} {pw : List Int32} {ow : List Int32} {tr : List Int32}
set_option maxHeartbeats 2000000 in
theorem dy_c1 {j n1 : Nat} (hj : j < 8) (hz : sz j = nI n1) (hn1 : n1 ≤ 160) (le : (el j).length = 160) {n v p u b : Nat} (hn : 2 * n ≤ n1) (hn20 : n ≤ 20) (hv : v < n) (I : qI d) (ec : tw (el j) (2 * v) = nI p) (eu : tw (el j) (2 * v + 1) = nI u) (hp : p < qM d) (hu : u ≤ (qU d).getD p 0) (hr : qPr d p ((qW d).getD p 0) ≤ u) (hc : chg d (u - qPr d p ((qW d).getD p 0)) = b + 1) (l_ls : ls.length = 100) : ∃ ls2 : List Int32, ls2.length = 100 ∧ ∀ r, (∀ x4 x5 : Option Value, Ef ab_Z0 5 mX5_draftDay (13, [some (.ref 0), some (.ref (49 + 2 * j)), some (.int (nI n)), some (.int (nI (v + 1))), x4, x5], [], (ww im lf s (grQ d p u b) k ls2 rf rz ra rn rq lt m1 m2 m3 m4 bd fc hd sz el t g fm hm so si sh ce ca td wa kp la bf oo bo pw ow tr)) r) → ∀ x4 x5 : Option Value, Ef ab_Z0 5 mX5_draftDay (13, [some (.ref 0), some (.ref (49 + 2 * j)), some (.int (nI n)), some (.int (nI v)), x4, x5], [], (ww im lf s d k ls rf rz ra rn rq lt m1 m2 m3 m4 bd fc hd sz el t g fm hm so si sh ce ca td wa kp la bf oo bo pw ow tr)) r := by
  have lU_ : (qU d).length = 6 := I.2.1.1
  have lL_ : (qL d).length = 6 := I.2.1.2.1
  have lW_ : (qW d).length = 6 := I.2.1.2.2.1
  have lG_ : (qG d).length = 6 := I.2.1.2.2.2.1
  have lP_ : (qP d).length = 9 := I.1.2.2.2
  have h9 := I.2.2.1.1
  have h6 := I.2.2.1.2
  have hU := I.2.2.2.2.1 p hp
  have w9 : 2 ^ qN d ≤ 2 ^ 9 := Nat.pow_le_pow_right (by decide) (by omega)
  rcases I.2.2.2.2.2.2 with er | er
  · rcases wgh_bst d (qPs d 99 (qN d)) (qN d) (u - (qPr d p ((qW d).getD p 0))) with ⟨eb0, fb0⟩ | ⟨B0, hB0, hs0, hw0, hb0, hk0⟩
    · have er2 : (qR d).toInt = 0 := by rw [er]; rfl
      have := qPr_in I p (w := ((qW d).getD p 0)) (by omega)
      have := qPs_in d 99 (i := qN d) (by omega)
      have := lsF_len (wgh d (qPs d 99 (qN d)) (qN d))
      have hc1 : bst d (qPs d 99 (qN d)) (qN d) (2 ^ qN d) (u - qPr d p ((qW d).getD p 0)) = b + 1 := by unfold chg at hc; rwa [if_pos er] at hc
      exfalso
      omega
    · have er2 : (qR d).toInt = 0 := by rw [er]; rfl
      have := qPr_in I p (w := ((qW d).getD p 0)) (by omega)
      have := qPs_in d 99 (i := qN d) (by omega)
      have := lsF_len (wgh d (qPs d 99 (qN d)) (qN d))
      have w9 : 2 ^ qN d ≤ 2 ^ 9 := Nat.pow_le_pow_right (by decide) (by omega)
      have kb0 := kAt_bits I hB0
      have hc1 : bst d (qPs d 99 (qN d)) (qN d) (2 ^ qN d) (u - qPr d p ((qW d).getD p 0)) = b + 1 := by unfold chg at hc; rwa [if_pos er] at hc
      obtain rfl : B0 = b := by omega
      refine ⟨(lsF (wgh d (qPs d 99 (qN d)) (qN d))), (lsF_len _), fun r K x4 x5 => ?_⟩
      refine E_iload_n rfl rfl ?_
      refine E_iload_n rfl rfl ?_
      refine E_ic (t := 72) (b := false) rfl rfl ((cn_ge (nI_toInt (by omega)) (nI_toInt (by omega))).trans (decide_eq_false (by omega))) ?_
      refine E_aload_n rfl rfl ?_
      refine E_iload_n rfl rfl ?_
      refine E_callV (v := some (.int (nI p))) (As := [.ref (49 + 2 * j), .int (nI v)]) (r0 := []) (cs2 := (ww im lf s d k ls rf rz ra rn rq lt m1 m2 m3 m4 bd fc hd sz el t g fm hm so si sh ce ca td wa kp la bf oo bo pw ow tr)) rfl rfl rfl (Nat.le_of_ble_eq_true rfl) rfl (ab_rvOf (w_shv (j := j) (by omega) rfl hz) rfl) (Ev.vi ec (w_first hj hz (x := v) (by omega) hn1 le)) (by decide) rfl ?_
      refine E_istore (L2 := [some (.ref 0), some (.ref (49 + 2 * j)), some (.int (nI n)), some (.int (nI v)), some (.int (nI p)), x5]) rfl rfl ?_
      refine E_aload_n rfl rfl ?_
      refine E_aload_n rfl rfl ?_
      refine E_getfield (v := .ref 11) rfl w0 rfl (by decide) rfl ?_
      refine E_iload rfl rfl ?_
      refine E_aload_n rfl rfl ?_
      refine E_iload_n rfl rfl ?_
      refine E_callV (v := some (.int (nI u))) (As := [.ref (49 + 2 * j), .int (nI v)]) (r0 := [.int (nI p), .ref 11, .ref 0]) (cs2 := (ww im lf s d k ls rf rz ra rn rq lt m1 m2 m3 m4 bd fc hd sz el t g fm hm so si sh ce ca td wa kp la bf oo bo pw ow tr)) rfl rfl rfl (Nat.le_of_ble_eq_true rfl) rfl (ab_rvOf (w_shv (j := j) (by omega) rfl hz) rfl) (Ev.vi eu (w_second hj hz (x := v) (by omega) hn1 le)) (by decide) rfl ?_
      have e5 : Ev ab_Z0 4 122 [.ref 0, .ref 11, .int (nI p), .int (nI u)] (ww im lf s d k ls rf rz ra rn rq lt m1 m2 m3 m4 bd fc hd sz el t g fm hm so si sh ce ca td wa kp la bf oo bo pw ow tr) (some (.int (nI B0)), (ww im lf s d k (lsF (wgh d (qPs d 99 (qN d)) (qN d))) rf rz ra rn rq lt m1 m2 m3 m4 bd fc hd sz el t g fm hm so si sh ce ca td wa kp la bf oo bo pw ow tr)) := by
        refine Ef.in (md := mX5_throwBy) (L := [some (.ref 0), some (.ref 11), some (.int (nI p)), some (.int (nI u)), none]) rfl (Nat.le_of_ble_eq_true rfl) rfl ?_
        refine E_aload_n rfl rfl ?_
        refine E_iload_n rfl rfl ?_
        have e1 : Ev ab_Z0 1 51 [.ref 11, .int (nI p)] (ww im lf s d k ls rf rz ra rn rq lt m1 m2 m3 m4 bd fc hd sz el t g fm hm so si sh ce ca td wa kp la bf oo bo pw ow tr) (some (.int (nI 1)), (ww im lf s d k ls rf rz ra rn rq lt m1 m2 m3 m4 bd fc hd sz el t g fm hm so si sh ce ca td wa kp la bf oo bo pw ow tr)) := by
          refine Ef.in (md := mX4_isPerson) (L := [some (.ref 11), some (.int (nI p))]) rfl (Nat.le_of_ble_eq_true rfl) rfl ?_
          refine E_iload_n rfl rfl ?_
          refine E_if (t := 16) (b := false) rfl rfl ((cn_lt (nI_toInt (by omega)) (by decide : (0 : Int32).toInt = 0)).trans (decide_eq_false (by omega))) ?_
          refine E_iload_n rfl rfl ?_
          refine E_aload_n rfl rfl ?_
          refine E_getfield (v := .int (nI (qM d))) rfl w11 rfl (by decide) rfl ?_
          refine E_ic (t := 16) (b := false) rfl rfl ((cn_ge (nI_toInt (by omega)) (nI_toInt (by omega))).trans (decide_eq_false (by omega))) ?_
          refine E_iconst (x := nI 1) rfl (by decide) ?_
          refine E_goto (t := 17) rfl rfl ?_
          exact E_iret rfl rfl
        refine E_callV (v := some (.int (nI 1))) (As := [.ref 11, .int (nI p)]) (r0 := []) (cs2 := (ww im lf s d k ls rf rz ra rn rq lt m1 m2 m3 m4 bd fc hd sz el t g fm hm so si sh ce ca td wa kp la bf oo bo pw ow tr)) rfl rfl rfl (Nat.le_of_ble_eq_true rfl) rfl (ab_rvOf w11 rfl) e1 (by decide) rfl ?_
        refine E_if (t := 18) (b := false) rfl rfl (by decide) ?_
        refine E_iload_n rfl rfl ?_
        refine E_aload_n rfl rfl ?_
        refine E_getfield (v := .ref 16) rfl w11 rfl (by decide) rfl ?_
        refine E_iload_n rfl rfl ?_
        refine E_ialN (l := qU d) (v := (qU d).getD p 0) rfl w16 (by omega) (by omega) rfl ?_
        refine E_ic (t := 20) (b := true) rfl rfl ((cn_le (nI_toInt (by omega)) (nI_toInt (by omega))).trans (decide_eq_true (by omega))) ?_
        refine E_aload_n rfl rfl ?_
        refine E_iload_n rfl rfl ?_
        refine E_aload_n rfl rfl ?_
        refine E_getfield (v := .ref 18) rfl w11 rfl (by decide) rfl ?_
        refine E_iload_n rfl rfl ?_
        refine E_ialN (l := qW d) (v := (qW d).getD p 0) rfl w18 (by omega) (by omega) rfl ?_
        refine E_callV (v := some (.int (nI (qPr d p ((qW d).getD p 0))))) (As := [.ref 11, .int (nI p), .int (nI ((qW d).getD p 0))]) (r0 := []) (cs2 := (ww im lf s d k ls rf rz ra rn rq lt m1 m2 m3 m4 bd fc hd sz el t g fm hm so si sh ce ca td wa kp la bf oo bo pw ow tr)) rfl rfl rfl (Nat.le_of_ble_eq_true rfl) rfl (ab_rvOf w11 rfl) (sq_priceFor w_q11 I (by omega) (by omega)) (by decide) rfl ?_
        refine E_istore (L2 := [some (.ref 0), some (.ref 11), some (.int (nI p)), some (.int (nI u)), some (.int (nI (qPr d p ((qW d).getD p 0))))]) rfl rfl ?_
        refine E_iload_n rfl rfl ?_
        refine E_iload rfl rfl ?_
        refine E_ic (t := 43) (b := true) rfl rfl ((cn_ge (nI_toInt (by omega)) (nI_toInt (by omega))).trans (decide_eq_true (by omega))) ?_
        refine E_aload_n rfl rfl ?_
        refine E_getfield (v := .ref 32) rfl w0 rfl (by decide) rfl ?_
        refine E_aload_n rfl rfl ?_
        refine E_aload_n rfl rfl ?_
        refine E_getfield (v := .int (qR d)) rfl w11 rfl (by decide) rfl ?_
        refine E_iload_n rfl rfl ?_
        refine E_iload rfl rfl ?_
        refine E_isub (z := nI (u - (qPr d p ((qW d).getD p 0)))) rfl (pk_sub (by omega)) ?_
        have e4 : Ev ab_Z0 3 1 [.ref 32, .ref 11, .int (qR d), .int (nI (u - (qPr d p ((qW d).getD p 0))))] (ww im lf s d k ls rf rz ra rn rq lt m1 m2 m3 m4 bd fc hd sz el t g fm hm so si sh ce ca td wa kp la bf oo bo pw ow tr) (some (.int (nI B0)), (ww im lf s d k (lsF (wgh d (qPs d 99 (qN d)) (qN d))) rf rz ra rn rq lt m1 m2 m3 m4 bd fc hd sz el t g fm hm so si sh ce ca td wa kp la bf oo bo pw ow tr)) := by
          refine Ef.in (md := mX0_bitsBy) (L := [some (.ref 32), some (.ref 11), some (.int (qR d)), some (.int (nI (u - (qPr d p ((qW d).getD p 0)))))]) rfl (Nat.le_of_ble_eq_true rfl) rfl ?_
          refine E_iload_n rfl rfl ?_
          refine E_iconst (x := nI 1) rfl (by decide) ?_
          refine E_ic (t := 11) (b := true) rfl rfl ((cn_ne rfl (nI_toInt (by omega))).trans (decide_eq_true (by omega))) ?_
          refine E_aload_n rfl rfl ?_
          refine E_aload_n rfl rfl ?_
          refine E_aload_n rfl rfl ?_
          refine E_callV (v := some (.int (nI (qPs d 99 (qN d))))) (As := [.ref 11]) (r0 := [.ref 11, .ref 32]) (cs2 := (ww im lf s d k ls rf rz ra rn rq lt m1 m2 m3 m4 bd fc hd sz el t g fm hm so si sh ce ca td wa kp la bf oo bo pw ow tr)) rfl rfl rfl (Nat.le_of_ble_eq_true rfl) rfl (ab_rvOf w11 rfl) (sq_basin w_q11 I) (by decide) rfl ?_
          refine E_callV (v := none) (As := [.ref 32, .ref 11, .int (nI (qPs d 99 (qN d)))]) (r0 := []) (cs2 := (ww im lf s d k (lsF (wgh d (qPs d 99 (qN d)) (qN d))) rf rz ra rn rq lt m1 m2 m3 m4 bd fc hd sz el t g fm hm so si sh ce ca td wa kp la bf oo bo pw ow tr)) rfl rfl rfl (Nat.le_of_ble_eq_true rfl) rfl (ab_rvOf w32 rfl) (w_weigh11 (m := qPs d 99 (qN d)) I (by omega) l_ls) (by decide) w_lens ?_
          refine E_aload_n rfl rfl ?_
          refine E_iload_n rfl rfl ?_
          have e3 : Ev ab_Z0 2 4 [.ref 32, .int (nI (u - (qPr d p ((qW d).getD p 0))))] (ww im lf s d k (lsF (wgh d (qPs d 99 (qN d)) (qN d))) rf rz ra rn rq lt m1 m2 m3 m4 bd fc hd sz el t g fm hm so si sh ce ca td wa kp la bf oo bo pw ow tr) (some (.int (nI B0)), (ww im lf s d k (lsF (wgh d (qPs d 99 (qN d)) (qN d))) rf rz ra rn rq lt m1 m2 m3 m4 bd fc hd sz el t g fm hm so si sh ce ca td wa kp la bf oo bo pw ow tr)) := by
            refine Ef.in (md := mX0_fewestFor) (L := [some (.ref 32), some (.int (nI (u - (qPr d p ((qW d).getD p 0)))))]) rfl (Nat.le_of_ble_eq_true rfl) rfl ?_
            refine E_iload_n rfl rfl ?_
            have e2 : Ev ab_Z0 1 48 [.int (nI (u - (qPr d p ((qW d).getD p 0))))] (ww im lf s d k (lsF (wgh d (qPs d 99 (qN d)) (qN d))) rf rz ra rn rq lt m1 m2 m3 m4 bd fc hd sz el t g fm hm so si sh ce ca td wa kp la bf oo bo pw ow tr) (some (.int (nI 1)), (ww im lf s d k (lsF (wgh d (qPs d 99 (qN d)) (qN d))) rf rz ra rn rq lt m1 m2 m3 m4 bd fc hd sz el t g fm hm so si sh ce ca td wa kp la bf oo bo pw ow tr)) := by
              refine Ef.in (md := mX4_isAmount) (L := [some (.int (nI (u - (qPr d p ((qW d).getD p 0)))))]) rfl (Nat.le_of_ble_eq_true rfl) rfl ?_
              refine E_iload_n rfl rfl ?_
              refine E_if (t := 14) (b := false) rfl rfl ((cn_lt (nI_toInt (by omega)) (by decide : (0 : Int32).toInt = 0)).trans (decide_eq_false (by omega))) ?_
              refine E_iload_n rfl rfl ?_
              refine E_bipush (x := nI 100) rfl (by decide) ?_
              refine E_ic (t := 14) (b := false) rfl rfl ((cn_ge (nI_toInt (by omega)) (nI_toInt (by omega))).trans (decide_eq_false (by omega))) ?_
              refine E_iconst (x := nI 1) rfl (by decide) ?_
              refine E_goto (t := 15) rfl rfl ?_
              exact E_iret rfl rfl
            refine E_callS (v := some (.int (nI 1))) (As := [.int (nI (u - (qPr d p ((qW d).getD p 0))))]) (r0 := []) (cs2 := (ww im lf s d k (lsF (wgh d (qPs d 99 (qN d)) (qN d))) rf rz ra rn rq lt m1 m2 m3 m4 bd fc hd sz el t g fm hm so si sh ce ca td wa kp la bf oo bo pw ow tr)) rfl rfl rfl (Nat.le_of_ble_eq_true rfl) rfl e2 (by decide) rfl ?_
            refine E_if (t := 17) (b := false) rfl rfl (by decide) ?_
            refine E_aload_n rfl rfl ?_
            refine E_getfield (v := .ref 33) rfl w32 rfl (by decide) rfl ?_
            refine E_iload_n rfl rfl ?_
            refine E_ialI (l := (lsF (wgh d (qPs d 99 (qN d)) (qN d)))) (v := nI (kAt d B0 (qN d))) rfl w33 (by omega) (by omega) (by rw [lsF_get (by omega), hk0]; exact qE_s _) ?_
            refine E_iconst (x := (-1)) rfl (by decide) ?_
            refine E_ic (t := 19) (b := true) rfl rfl ((cn_ne (nI_toInt (by omega)) (by decide : (-1 : Int32).toInt = -1)).trans (decide_eq_true (by omega))) ?_
            refine E_aload_n rfl rfl ?_
            refine E_getfield (v := .ref 33) rfl w32 rfl (by decide) rfl ?_
            refine E_iload_n rfl rfl ?_
            refine E_ialI (l := (lsF (wgh d (qPs d 99 (qN d)) (qN d)))) (v := nI (kAt d B0 (qN d))) rfl w33 (by omega) (by omega) (by rw [lsF_get (by omega), hk0]; exact qE_s _) ?_
            refine E_sipush (x := nI 1023) rfl (by decide) ?_
            refine E_iand (z := nI B0) rfl (kAt_and I hB0) ?_
            exact E_iret rfl rfl
          refine E_callV (v := some (.int (nI B0))) (As := [.ref 32, .int (nI (u - (qPr d p ((qW d).getD p 0))))]) (r0 := []) (cs2 := (ww im lf s d k (lsF (wgh d (qPs d 99 (qN d)) (qN d))) rf rz ra rn rq lt m1 m2 m3 m4 bd fc hd sz el t g fm hm so si sh ce ca td wa kp la bf oo bo pw ow tr)) rfl rfl rfl (Nat.le_of_ble_eq_true rfl) rfl (ab_rvOf w32 rfl) e3 (by decide) rfl ?_
          exact E_iret rfl rfl
        refine E_callV (v := some (.int (nI B0))) (As := [.ref 32, .ref 11, .int (qR d), .int (nI (u - (qPr d p ((qW d).getD p 0))))]) (r0 := []) (cs2 := (ww im lf s d k (lsF (wgh d (qPs d 99 (qN d)) (qN d))) rf rz ra rn rq lt m1 m2 m3 m4 bd fc hd sz el t g fm hm so si sh ce ca td wa kp la bf oo bo pw ow tr)) rfl rfl rfl (Nat.le_of_ble_eq_true rfl) rfl (ab_rvOf w32 rfl) e4 (by decide) w_lens ?_
        exact E_iret rfl rfl
      refine E_callV (v := some (.int (nI B0))) (As := [.ref 0, .ref 11, .int (nI p), .int (nI u)]) (r0 := []) (cs2 := (ww im lf s d k (lsF (wgh d (qPs d 99 (qN d)) (qN d))) rf rz ra rn rq lt m1 m2 m3 m4 bd fc hd sz el t g fm hm so si sh ce ca td wa kp la bf oo bo pw ow tr)) rfl rfl rfl (Nat.le_of_ble_eq_true rfl) rfl (ab_rvOf w0 rfl) e5 (by decide) w_lens ?_
      refine E_istore (L2 := [some (.ref 0), some (.ref (49 + 2 * j)), some (.int (nI n)), some (.int (nI v)), some (.int (nI p)), some (.int (nI B0))]) rfl rfl ?_
      refine E_iload rfl rfl ?_
      refine E_iconst (x := (-1)) rfl (by decide) ?_
      refine E_ic (t := 50) (b := true) rfl rfl ((cn_ne (nI_toInt (by omega)) (by decide : (-1 : Int32).toInt = -1)).trans (decide_eq_true (by omega))) ?_
      refine E_aload_n rfl rfl ?_
      refine E_getfield (v := .ref 11) rfl w0 rfl (by decide) rfl ?_
      refine E_iload rfl rfl ?_
      refine E_aload_n rfl rfl ?_
      refine E_iload_n rfl rfl ?_
      refine E_callV (v := some (.int (nI u))) (As := [.ref (49 + 2 * j), .int (nI v)]) (r0 := [.int (nI p), .ref 11]) (cs2 := (ww im lf s d k (lsF (wgh d (qPs d 99 (qN d)) (qN d))) rf rz ra rn rq lt m1 m2 m3 m4 bd fc hd sz el t g fm hm so si sh ce ca td wa kp la bf oo bo pw ow tr)) rfl rfl rfl (Nat.le_of_ble_eq_true rfl) rfl (ab_rvOf (w_shv (j := j) (by omega) rfl hz) rfl) (Ev.vi eu (w_second hj hz (x := v) (by omega) hn1 le)) (by decide) rfl ?_
      refine E_iload rfl rfl ?_
      have e6 : Ev ab_Z0 2 71 [.ref 11, .int (nI p), .int (nI u), .int (nI B0)] (ww im lf s d k (lsF (wgh d (qPs d 99 (qN d)) (qN d))) rf rz ra rn rq lt m1 m2 m3 m4 bd fc hd sz el t g fm hm so si sh ce ca td wa kp la bf oo bo pw ow tr) (none, (ww im lf s (qs_P (qs_Y (qs_G (qs_U d ((qU d).set p (((qU d).getD p 0) - u))) ((qG d).set p (((qG d).getD p 0) + (nI 1)))) ((qY d) + (nI u))) (qGP (qP d) p B0 (qN d))) k (lsF (wgh d (qPs d 99 (qN d)) (qN d))) rf rz ra rn rq lt m1 m2 m3 m4 bd fc hd sz el t g fm hm so si sh ce ca td wa kp la bf oo bo pw ow tr)) := by
        refine Ef.in (md := mX4_grant) (L := [some (.ref 11), some (.int (nI p)), some (.int (nI u)), some (.int (nI B0)), none]) rfl (Nat.le_of_ble_eq_true rfl) rfl ?_
        refine E_aload_n rfl rfl ?_
        refine E_getfield (v := .ref 16) rfl w11 rfl (by decide) rfl ?_
        refine E_iload_n rfl rfl ?_
        refine E_dup2 rfl ⟨rfl, rfl⟩ ?_
        refine E_ialN (l := qU d) (v := (qU d).getD p 0) rfl w16 (by omega) (by omega) rfl ?_
        refine E_iload_n rfl rfl ?_
        refine E_isub (z := nI (((qU d).getD p 0) - u)) rfl (pk_sub (by omega)) ?_
        refine E_iasN (l := qU d) (cs2 := (ww im lf s (qs_U d ((qU d).set p (((qU d).getD p 0) - u))) k (lsF (wgh d (qPs d 99 (qN d)) (qN d))) rf rz ra rn rq lt m1 m2 m3 m4 bd fc hd sz el t g fm hm so si sh ce ca td wa kp la bf oo bo pw ow tr)) rfl w16 (by omega) (by omega) w_pt11_U ?_
        refine E_aload_n rfl rfl ?_
        refine E_getfield (v := .ref 19) rfl w11 rfl (by decide) rfl ?_
        refine E_iload_n rfl rfl ?_
        refine E_dup2 rfl ⟨rfl, rfl⟩ ?_
        refine E_ialI (l := qG d) (v := (qG d).getD p 0) rfl (w19v qg_GU) (by omega) (by omega) rfl ?_
        refine E_iconst (x := nI 1) rfl (by decide) ?_
        refine E_iadd (z := ((qG d).getD p 0) + (nI 1)) rfl rfl ?_
        refine E_iasI (l := qG d) (cs2 := (ww im lf s (qs_G (qs_U d ((qU d).set p (((qU d).getD p 0) - u))) ((qG d).set p (((qG d).getD p 0) + (nI 1)))) k (lsF (wgh d (qPs d 99 (qN d)) (qN d))) rf rz ra rn rq lt m1 m2 m3 m4 bd fc hd sz el t g fm hm so si sh ce ca td wa kp la bf oo bo pw ow tr)) rfl (w19v qg_GU) (by omega) (by omega) w_pt11_G ?_
        refine E_aload_n rfl rfl ?_
        refine E_dup rfl rfl ?_
        refine E_getfield (v := .int (qY d)) rfl w11 rfl (by decide) (congrArg (fun z => some (Value.int z)) (qg_YG.trans qg_YU)) ?_
        refine E_iload_n rfl rfl ?_
        refine E_iadd (z := (qY d) + (nI u)) rfl rfl ?_
        refine E_putfield (cs2 := (ww im lf s (qs_Y (qs_G (qs_U d ((qU d).set p (((qU d).getD p 0) - u))) ((qG d).set p (((qG d).getD p 0) + (nI 1)))) ((qY d) + (nI u))) k (lsF (wgh d (qPs d 99 (qN d)) (qN d))) rf rz ra rn rq lt m1 m2 m3 m4 bd fc hd sz el t g fm hm so si sh ce ca td wa kp la bf oo bo pw ow tr)) rfl w11 rfl (by decide) (Nat.le_of_ble_eq_true rfl) rfl rfl rfl w_pt11_Y ?_
        refine E_iconst (x := nI 0) rfl (by decide) ?_
        refine E_istore (L2 := [some (.ref 11), some (.int (nI p)), some (.int (nI u)), some (.int (nI B0)), some (.int (nI 0))]) rfl rfl ?_
        exact grant_s11 (d := (qs_Y (qs_G (qs_U d ((qU d).set p (((qU d).getD p 0) - u))) ((qG d).set p (((qG d).getD p 0) + (nI 1)))) ((qY d) + (nI u)))) (p := p) (n := u) (m := B0) (l := qP d) (n1 := qN d) ((congrArg (qs_P _) (Eq.symm (qg_PY.trans (qg_PG.trans qg_PU)))).trans qs_Pself) (qg_NY.trans (qg_NG.trans qg_NU)) (by omega) (I).1.2.2.2 (by omega) (by omega)
      refine E_callV (v := none) (As := [.ref 11, .int (nI p), .int (nI u), .int (nI B0)]) (r0 := []) (cs2 := (ww im lf s (qs_P (qs_Y (qs_G (qs_U d ((qU d).set p (((qU d).getD p 0) - u))) ((qG d).set p (((qG d).getD p 0) + (nI 1)))) ((qY d) + (nI u))) (qGP (qP d) p B0 (qN d))) k (lsF (wgh d (qPs d 99 (qN d)) (qN d))) rf rz ra rn rq lt m1 m2 m3 m4 bd fc hd sz el t g fm hm so si sh ce ca td wa kp la bf oo bo pw ow tr)) rfl rfl rfl (Nat.le_of_ble_eq_true rfl) rfl (ab_rvOf w11 rfl) e6 (by decide) w_lens ?_
      refine E_iinc (y := nI (v + 1)) (L2 := [some (.ref 0), some (.ref (49 + 2 * j)), some (.int (nI n)), some (.int (nI (v + 1))), some (.int (nI p)), some (.int (nI B0))]) rfl rfl (nI_1 _) rfl ?_
      refine E_goto (t := 13) rfl rfl ?_
      unfold grQ at K
      exact K (some (.int (nI p))) (some (.int (nI B0)))
  · rcases hg0 : qGreedy d (u - (qPr d p ((qW d).getD p 0))) with _ | gj0
    · have er2 : (qR d).toInt = 1 := by rw [er]; rfl
      have := qPr_in I p (w := ((qW d).getD p 0)) (by omega)
      have hc1 : qGreedy d (u - qPr d p ((qW d).getD p 0)) = b + 1 := by unfold chg at hc; rwa [if_neg (by rw [er]; decide)] at hc
      exfalso
      omega
    · have er2 : (qR d).toInt = 1 := by rw [er]; rfl
      have := qPr_in I p (w := ((qW d).getD p 0)) (by omega)
      have hh0 : gj0 + 1 ≤ 512 := hg0 ▸ qGr_512 I (u - (qPr d p ((qW d).getD p 0)))
      have hc1 : qGreedy d (u - qPr d p ((qW d).getD p 0)) = b + 1 := by unfold chg at hc; rwa [if_neg (by rw [er]; decide)] at hc
      obtain rfl : gj0 = b := by omega
      refine ⟨ls, l_ls, fun r K x4 x5 => ?_⟩
      refine E_iload_n rfl rfl ?_
      refine E_iload_n rfl rfl ?_
      refine E_ic (t := 72) (b := false) rfl rfl ((cn_ge (nI_toInt (by omega)) (nI_toInt (by omega))).trans (decide_eq_false (by omega))) ?_
      refine E_aload_n rfl rfl ?_
      refine E_iload_n rfl rfl ?_
      refine E_callV (v := some (.int (nI p))) (As := [.ref (49 + 2 * j), .int (nI v)]) (r0 := []) (cs2 := (ww im lf s d k ls rf rz ra rn rq lt m1 m2 m3 m4 bd fc hd sz el t g fm hm so si sh ce ca td wa kp la bf oo bo pw ow tr)) rfl rfl rfl (Nat.le_of_ble_eq_true rfl) rfl (ab_rvOf (w_shv (j := j) (by omega) rfl hz) rfl) (Ev.vi ec (w_first hj hz (x := v) (by omega) hn1 le)) (by decide) rfl ?_
      refine E_istore (L2 := [some (.ref 0), some (.ref (49 + 2 * j)), some (.int (nI n)), some (.int (nI v)), some (.int (nI p)), x5]) rfl rfl ?_
      refine E_aload_n rfl rfl ?_
      refine E_aload_n rfl rfl ?_
      refine E_getfield (v := .ref 11) rfl w0 rfl (by decide) rfl ?_
      refine E_iload rfl rfl ?_
      refine E_aload_n rfl rfl ?_
      refine E_iload_n rfl rfl ?_
      refine E_callV (v := some (.int (nI u))) (As := [.ref (49 + 2 * j), .int (nI v)]) (r0 := [.int (nI p), .ref 11, .ref 0]) (cs2 := (ww im lf s d k ls rf rz ra rn rq lt m1 m2 m3 m4 bd fc hd sz el t g fm hm so si sh ce ca td wa kp la bf oo bo pw ow tr)) rfl rfl rfl (Nat.le_of_ble_eq_true rfl) rfl (ab_rvOf (w_shv (j := j) (by omega) rfl hz) rfl) (Ev.vi eu (w_second hj hz (x := v) (by omega) hn1 le)) (by decide) rfl ?_
      have e3 : Ev ab_Z0 5 122 [.ref 0, .ref 11, .int (nI p), .int (nI u)] (ww im lf s d k ls rf rz ra rn rq lt m1 m2 m3 m4 bd fc hd sz el t g fm hm so si sh ce ca td wa kp la bf oo bo pw ow tr) (some (.int (nI gj0)), (ww im lf s d k ls rf rz ra rn rq lt m1 m2 m3 m4 bd fc hd sz el t g fm hm so si sh ce ca td wa kp la bf oo bo pw ow tr)) := by
        refine Ef.in (md := mX5_throwBy) (L := [some (.ref 0), some (.ref 11), some (.int (nI p)), some (.int (nI u)), none]) rfl (Nat.le_of_ble_eq_true rfl) rfl ?_
        refine E_aload_n rfl rfl ?_
        refine E_iload_n rfl rfl ?_
        have e1 : Ev ab_Z0 1 51 [.ref 11, .int (nI p)] (ww im lf s d k ls rf rz ra rn rq lt m1 m2 m3 m4 bd fc hd sz el t g fm hm so si sh ce ca td wa kp la bf oo bo pw ow tr) (some (.int (nI 1)), (ww im lf s d k ls rf rz ra rn rq lt m1 m2 m3 m4 bd fc hd sz el t g fm hm so si sh ce ca td wa kp la bf oo bo pw ow tr)) := by
          refine Ef.in (md := mX4_isPerson) (L := [some (.ref 11), some (.int (nI p))]) rfl (Nat.le_of_ble_eq_true rfl) rfl ?_
          refine E_iload_n rfl rfl ?_
          refine E_if (t := 16) (b := false) rfl rfl ((cn_lt (nI_toInt (by omega)) (by decide : (0 : Int32).toInt = 0)).trans (decide_eq_false (by omega))) ?_
          refine E_iload_n rfl rfl ?_
          refine E_aload_n rfl rfl ?_
          refine E_getfield (v := .int (nI (qM d))) rfl w11 rfl (by decide) rfl ?_
          refine E_ic (t := 16) (b := false) rfl rfl ((cn_ge (nI_toInt (by omega)) (nI_toInt (by omega))).trans (decide_eq_false (by omega))) ?_
          refine E_iconst (x := nI 1) rfl (by decide) ?_
          refine E_goto (t := 17) rfl rfl ?_
          exact E_iret rfl rfl
        refine E_callV (v := some (.int (nI 1))) (As := [.ref 11, .int (nI p)]) (r0 := []) (cs2 := (ww im lf s d k ls rf rz ra rn rq lt m1 m2 m3 m4 bd fc hd sz el t g fm hm so si sh ce ca td wa kp la bf oo bo pw ow tr)) rfl rfl rfl (Nat.le_of_ble_eq_true rfl) rfl (ab_rvOf w11 rfl) e1 (by decide) rfl ?_
        refine E_if (t := 18) (b := false) rfl rfl (by decide) ?_
        refine E_iload_n rfl rfl ?_
        refine E_aload_n rfl rfl ?_
        refine E_getfield (v := .ref 16) rfl w11 rfl (by decide) rfl ?_
        refine E_iload_n rfl rfl ?_
        refine E_ialN (l := qU d) (v := (qU d).getD p 0) rfl w16 (by omega) (by omega) rfl ?_
        refine E_ic (t := 20) (b := true) rfl rfl ((cn_le (nI_toInt (by omega)) (nI_toInt (by omega))).trans (decide_eq_true (by omega))) ?_
        refine E_aload_n rfl rfl ?_
        refine E_iload_n rfl rfl ?_
        refine E_aload_n rfl rfl ?_
        refine E_getfield (v := .ref 18) rfl w11 rfl (by decide) rfl ?_
        refine E_iload_n rfl rfl ?_
        refine E_ialN (l := qW d) (v := (qW d).getD p 0) rfl w18 (by omega) (by omega) rfl ?_
        refine E_callV (v := some (.int (nI (qPr d p ((qW d).getD p 0))))) (As := [.ref 11, .int (nI p), .int (nI ((qW d).getD p 0))]) (r0 := []) (cs2 := (ww im lf s d k ls rf rz ra rn rq lt m1 m2 m3 m4 bd fc hd sz el t g fm hm so si sh ce ca td wa kp la bf oo bo pw ow tr)) rfl rfl rfl (Nat.le_of_ble_eq_true rfl) rfl (ab_rvOf w11 rfl) (sq_priceFor w_q11 I (by omega) (by omega)) (by decide) rfl ?_
        refine E_istore (L2 := [some (.ref 0), some (.ref 11), some (.int (nI p)), some (.int (nI u)), some (.int (nI (qPr d p ((qW d).getD p 0))))]) rfl rfl ?_
        refine E_iload_n rfl rfl ?_
        refine E_iload rfl rfl ?_
        refine E_ic (t := 43) (b := true) rfl rfl ((cn_ge (nI_toInt (by omega)) (nI_toInt (by omega))).trans (decide_eq_true (by omega))) ?_
        refine E_aload_n rfl rfl ?_
        refine E_getfield (v := .ref 32) rfl w0 rfl (by decide) rfl ?_
        refine E_aload_n rfl rfl ?_
        refine E_aload_n rfl rfl ?_
        refine E_getfield (v := .int (qR d)) rfl w11 rfl (by decide) rfl ?_
        refine E_iload_n rfl rfl ?_
        refine E_iload rfl rfl ?_
        refine E_isub (z := nI (u - (qPr d p ((qW d).getD p 0)))) rfl (pk_sub (by omega)) ?_
        have e2 : Ev ab_Z0 4 1 [.ref 32, .ref 11, .int (qR d), .int (nI (u - (qPr d p ((qW d).getD p 0))))] (ww im lf s d k ls rf rz ra rn rq lt m1 m2 m3 m4 bd fc hd sz el t g fm hm so si sh ce ca td wa kp la bf oo bo pw ow tr) (some (.int (nI gj0)), (ww im lf s d k ls rf rz ra rn rq lt m1 m2 m3 m4 bd fc hd sz el t g fm hm so si sh ce ca td wa kp la bf oo bo pw ow tr)) := by
          refine Ef.in (md := mX0_bitsBy) (L := [some (.ref 32), some (.ref 11), some (.int (qR d)), some (.int (nI (u - (qPr d p ((qW d).getD p 0)))))]) rfl (Nat.le_of_ble_eq_true rfl) rfl ?_
          refine E_iload_n rfl rfl ?_
          refine E_iconst (x := nI 1) rfl (by decide) ?_
          refine E_ic (t := 11) (b := false) rfl rfl ((cn_ne rfl (nI_toInt (by omega))).trans (decide_eq_false (by omega))) ?_
          refine E_aload_n rfl rfl ?_
          refine E_iload_n rfl rfl ?_
          refine E_callV (v := some (.int (nI gj0))) (As := [.ref 11, .int (nI (u - (qPr d p ((qW d).getD p 0))))]) (r0 := []) (cs2 := (ww im lf s d k ls rf rz ra rn rq lt m1 m2 m3 m4 bd fc hd sz el t g fm hm so si sh ce ca td wa kp la bf oo bo pw ow tr)) rfl rfl rfl (Nat.le_of_ble_eq_true rfl) rfl (ab_rvOf w11 rfl) (Ev.g1 hg0 (sq_greedyFor w_q11 I (by omega))) (by decide) rfl ?_
          exact E_iret rfl rfl
        refine E_callV (v := some (.int (nI gj0))) (As := [.ref 32, .ref 11, .int (qR d), .int (nI (u - (qPr d p ((qW d).getD p 0))))]) (r0 := []) (cs2 := (ww im lf s d k ls rf rz ra rn rq lt m1 m2 m3 m4 bd fc hd sz el t g fm hm so si sh ce ca td wa kp la bf oo bo pw ow tr)) rfl rfl rfl (Nat.le_of_ble_eq_true rfl) rfl (ab_rvOf w32 rfl) e2 (by decide) rfl ?_
        exact E_iret rfl rfl
      refine E_callV (v := some (.int (nI gj0))) (As := [.ref 0, .ref 11, .int (nI p), .int (nI u)]) (r0 := []) (cs2 := (ww im lf s d k ls rf rz ra rn rq lt m1 m2 m3 m4 bd fc hd sz el t g fm hm so si sh ce ca td wa kp la bf oo bo pw ow tr)) rfl rfl rfl (Nat.le_of_ble_eq_true rfl) rfl (ab_rvOf w0 rfl) e3 (by decide) rfl ?_
      refine E_istore (L2 := [some (.ref 0), some (.ref (49 + 2 * j)), some (.int (nI n)), some (.int (nI v)), some (.int (nI p)), some (.int (nI gj0))]) rfl rfl ?_
      refine E_iload rfl rfl ?_
      refine E_iconst (x := (-1)) rfl (by decide) ?_
      refine E_ic (t := 50) (b := true) rfl rfl ((cn_ne (nI_toInt (by omega)) (by decide : (-1 : Int32).toInt = -1)).trans (decide_eq_true (by omega))) ?_
      refine E_aload_n rfl rfl ?_
      refine E_getfield (v := .ref 11) rfl w0 rfl (by decide) rfl ?_
      refine E_iload rfl rfl ?_
      refine E_aload_n rfl rfl ?_
      refine E_iload_n rfl rfl ?_
      refine E_callV (v := some (.int (nI u))) (As := [.ref (49 + 2 * j), .int (nI v)]) (r0 := [.int (nI p), .ref 11]) (cs2 := (ww im lf s d k ls rf rz ra rn rq lt m1 m2 m3 m4 bd fc hd sz el t g fm hm so si sh ce ca td wa kp la bf oo bo pw ow tr)) rfl rfl rfl (Nat.le_of_ble_eq_true rfl) rfl (ab_rvOf (w_shv (j := j) (by omega) rfl hz) rfl) (Ev.vi eu (w_second hj hz (x := v) (by omega) hn1 le)) (by decide) rfl ?_
      refine E_iload rfl rfl ?_
      have e4 : Ev ab_Z0 2 71 [.ref 11, .int (nI p), .int (nI u), .int (nI gj0)] (ww im lf s d k ls rf rz ra rn rq lt m1 m2 m3 m4 bd fc hd sz el t g fm hm so si sh ce ca td wa kp la bf oo bo pw ow tr) (none, (ww im lf s (qs_P (qs_Y (qs_G (qs_U d ((qU d).set p (((qU d).getD p 0) - u))) ((qG d).set p (((qG d).getD p 0) + (nI 1)))) ((qY d) + (nI u))) (qGP (qP d) p gj0 (qN d))) k ls rf rz ra rn rq lt m1 m2 m3 m4 bd fc hd sz el t g fm hm so si sh ce ca td wa kp la bf oo bo pw ow tr)) := by
        refine Ef.in (md := mX4_grant) (L := [some (.ref 11), some (.int (nI p)), some (.int (nI u)), some (.int (nI gj0)), none]) rfl (Nat.le_of_ble_eq_true rfl) rfl ?_
        refine E_aload_n rfl rfl ?_
        refine E_getfield (v := .ref 16) rfl w11 rfl (by decide) rfl ?_
        refine E_iload_n rfl rfl ?_
        refine E_dup2 rfl ⟨rfl, rfl⟩ ?_
        refine E_ialN (l := qU d) (v := (qU d).getD p 0) rfl w16 (by omega) (by omega) rfl ?_
        refine E_iload_n rfl rfl ?_
        refine E_isub (z := nI (((qU d).getD p 0) - u)) rfl (pk_sub (by omega)) ?_
        refine E_iasN (l := qU d) (cs2 := (ww im lf s (qs_U d ((qU d).set p (((qU d).getD p 0) - u))) k ls rf rz ra rn rq lt m1 m2 m3 m4 bd fc hd sz el t g fm hm so si sh ce ca td wa kp la bf oo bo pw ow tr)) rfl w16 (by omega) (by omega) w_pt11_U ?_
        refine E_aload_n rfl rfl ?_
        refine E_getfield (v := .ref 19) rfl w11 rfl (by decide) rfl ?_
        refine E_iload_n rfl rfl ?_
        refine E_dup2 rfl ⟨rfl, rfl⟩ ?_
        refine E_ialI (l := qG d) (v := (qG d).getD p 0) rfl (w19v qg_GU) (by omega) (by omega) rfl ?_
        refine E_iconst (x := nI 1) rfl (by decide) ?_
        refine E_iadd (z := ((qG d).getD p 0) + (nI 1)) rfl rfl ?_
        refine E_iasI (l := qG d) (cs2 := (ww im lf s (qs_G (qs_U d ((qU d).set p (((qU d).getD p 0) - u))) ((qG d).set p (((qG d).getD p 0) + (nI 1)))) k ls rf rz ra rn rq lt m1 m2 m3 m4 bd fc hd sz el t g fm hm so si sh ce ca td wa kp la bf oo bo pw ow tr)) rfl (w19v qg_GU) (by omega) (by omega) w_pt11_G ?_
        refine E_aload_n rfl rfl ?_
        refine E_dup rfl rfl ?_
        refine E_getfield (v := .int (qY d)) rfl w11 rfl (by decide) (congrArg (fun z => some (Value.int z)) (qg_YG.trans qg_YU)) ?_
        refine E_iload_n rfl rfl ?_
        refine E_iadd (z := (qY d) + (nI u)) rfl rfl ?_
        refine E_putfield (cs2 := (ww im lf s (qs_Y (qs_G (qs_U d ((qU d).set p (((qU d).getD p 0) - u))) ((qG d).set p (((qG d).getD p 0) + (nI 1)))) ((qY d) + (nI u))) k ls rf rz ra rn rq lt m1 m2 m3 m4 bd fc hd sz el t g fm hm so si sh ce ca td wa kp la bf oo bo pw ow tr)) rfl w11 rfl (by decide) (Nat.le_of_ble_eq_true rfl) rfl rfl rfl w_pt11_Y ?_
        refine E_iconst (x := nI 0) rfl (by decide) ?_
        refine E_istore (L2 := [some (.ref 11), some (.int (nI p)), some (.int (nI u)), some (.int (nI gj0)), some (.int (nI 0))]) rfl rfl ?_
        exact grant_s11 (d := (qs_Y (qs_G (qs_U d ((qU d).set p (((qU d).getD p 0) - u))) ((qG d).set p (((qG d).getD p 0) + (nI 1)))) ((qY d) + (nI u)))) (p := p) (n := u) (m := gj0) (l := qP d) (n1 := qN d) ((congrArg (qs_P _) (Eq.symm (qg_PY.trans (qg_PG.trans qg_PU)))).trans qs_Pself) (qg_NY.trans (qg_NG.trans qg_NU)) (by omega) (I).1.2.2.2 (by omega) (by omega)
      refine E_callV (v := none) (As := [.ref 11, .int (nI p), .int (nI u), .int (nI gj0)]) (r0 := []) (cs2 := (ww im lf s (qs_P (qs_Y (qs_G (qs_U d ((qU d).set p (((qU d).getD p 0) - u))) ((qG d).set p (((qG d).getD p 0) + (nI 1)))) ((qY d) + (nI u))) (qGP (qP d) p gj0 (qN d))) k ls rf rz ra rn rq lt m1 m2 m3 m4 bd fc hd sz el t g fm hm so si sh ce ca td wa kp la bf oo bo pw ow tr)) rfl rfl rfl (Nat.le_of_ble_eq_true rfl) rfl (ab_rvOf w11 rfl) e4 (by decide) w_lens ?_
      refine E_iinc (y := nI (v + 1)) (L2 := [some (.ref 0), some (.ref (49 + 2 * j)), some (.int (nI n)), some (.int (nI (v + 1))), some (.int (nI p)), some (.int (nI gj0))]) rfl rfl (nI_1 _) rfl ?_
      refine E_goto (t := 13) rfl rfl ?_
      unfold grQ at K
      exact K (some (.int (nI p))) (some (.int (nI gj0)))
set_option maxHeartbeats 2000000 in
theorem dy_c0 {j n1 : Nat} (hj : j < 8) (hz : sz j = nI n1) (hn1 : n1 ≤ 160) (le : (el j).length = 160) {n v : Nat} (hn : 2 * n ≤ n1) (hn20 : n ≤ 20) (hv : v < n) (I : qI d) (hno : thr d (tw (el j) (2 * v)) (tw (el j) (2 * v + 1)) = 0) (l_ls : ls.length = 100) : ∃ ls2 : List Int32, ls2.length = 100 ∧ ∀ x4 x5 : Option Value, Ef ab_Z0 5 mX5_draftDay (13, [some (.ref 0), some (.ref (49 + 2 * j)), some (.int (nI n)), some (.int (nI v)), x4, x5], [], (ww im lf s d k ls rf rz ra rn rq lt m1 m2 m3 m4 bd fc hd sz el t g fm hm so si sh ce ca td wa kp la bf oo bo pw ow tr)) (some (.int (nI v)), (ww im lf s d k ls2 rf rz ra rn rq lt m1 m2 m3 m4 bd fc hd sz el t g fm hm so si sh ce ca td wa kp la bf oo bo pw ow tr)) := by
  have lU_ : (qU d).length = 6 := I.2.1.1
  have lL_ : (qL d).length = 6 := I.2.1.2.1
  have lW_ : (qW d).length = 6 := I.2.1.2.2.1
  have lG_ : (qG d).length = 6 := I.2.1.2.2.2.1
  have lP_ : (qP d).length = 9 := I.1.2.2.2
  have h9 := I.2.2.1.1
  have h6 := I.2.2.1.2
  have w9 : 2 ^ qN d ≤ 2 ^ 9 := Nat.pow_le_pow_right (by decide) (by omega)
  rcases ab_int (tw (el j) (2 * v)) with ⟨p, hp9, ec⟩ | hp9
  · rcases ab_int (tw (el j) (2 * v + 1)) with ⟨u, hu9, eu⟩ | hu9
    · by_cases f2 : p < (qM d)
      · by_cases f3 : ((qU d).getD p 0) < u
        · have hU := I.2.2.2.2.1 p (by omega)
          refine ⟨ls, l_ls, fun x4 x5 => ?_⟩
          refine E_iload_n rfl rfl ?_
          refine E_iload_n rfl rfl ?_
          refine E_ic (t := 72) (b := false) rfl rfl ((cn_ge (nI_toInt (by omega)) (nI_toInt (by omega))).trans (decide_eq_false (by omega))) ?_
          refine E_aload_n rfl rfl ?_
          refine E_iload_n rfl rfl ?_
          refine E_callV (v := some (.int (nI p))) (As := [.ref (49 + 2 * j), .int (nI v)]) (r0 := []) (cs2 := (ww im lf s d k ls rf rz ra rn rq lt m1 m2 m3 m4 bd fc hd sz el t g fm hm so si sh ce ca td wa kp la bf oo bo pw ow tr)) rfl rfl rfl (Nat.le_of_ble_eq_true rfl) rfl (ab_rvOf (w_shv (j := j) (by omega) rfl hz) rfl) (Ev.vi ec (w_first hj hz (x := v) (by omega) hn1 le)) (by decide) rfl ?_
          refine E_istore (L2 := [some (.ref 0), some (.ref (49 + 2 * j)), some (.int (nI n)), some (.int (nI v)), some (.int (nI p)), x5]) rfl rfl ?_
          refine E_aload_n rfl rfl ?_
          refine E_aload_n rfl rfl ?_
          refine E_getfield (v := .ref 11) rfl w0 rfl (by decide) rfl ?_
          refine E_iload rfl rfl ?_
          refine E_aload_n rfl rfl ?_
          refine E_iload_n rfl rfl ?_
          refine E_callV (v := some (.int (nI u))) (As := [.ref (49 + 2 * j), .int (nI v)]) (r0 := [.int (nI p), .ref 11, .ref 0]) (cs2 := (ww im lf s d k ls rf rz ra rn rq lt m1 m2 m3 m4 bd fc hd sz el t g fm hm so si sh ce ca td wa kp la bf oo bo pw ow tr)) rfl rfl rfl (Nat.le_of_ble_eq_true rfl) rfl (ab_rvOf (w_shv (j := j) (by omega) rfl hz) rfl) (Ev.vi eu (w_second hj hz (x := v) (by omega) hn1 le)) (by decide) rfl ?_
          have e2 : Ev ab_Z0 2 122 [.ref 0, .ref 11, .int (nI p), .int (nI u)] (ww im lf s d k ls rf rz ra rn rq lt m1 m2 m3 m4 bd fc hd sz el t g fm hm so si sh ce ca td wa kp la bf oo bo pw ow tr) (some (.int (-1)), (ww im lf s d k ls rf rz ra rn rq lt m1 m2 m3 m4 bd fc hd sz el t g fm hm so si sh ce ca td wa kp la bf oo bo pw ow tr)) := by
            refine Ef.in (md := mX5_throwBy) (L := [some (.ref 0), some (.ref 11), some (.int (nI p)), some (.int (nI u)), none]) rfl (Nat.le_of_ble_eq_true rfl) rfl ?_
            refine E_aload_n rfl rfl ?_
            refine E_iload_n rfl rfl ?_
            have e1 : Ev ab_Z0 1 51 [.ref 11, .int (nI p)] (ww im lf s d k ls rf rz ra rn rq lt m1 m2 m3 m4 bd fc hd sz el t g fm hm so si sh ce ca td wa kp la bf oo bo pw ow tr) (some (.int (nI 1)), (ww im lf s d k ls rf rz ra rn rq lt m1 m2 m3 m4 bd fc hd sz el t g fm hm so si sh ce ca td wa kp la bf oo bo pw ow tr)) := by
              refine Ef.in (md := mX4_isPerson) (L := [some (.ref 11), some (.int (nI p))]) rfl (Nat.le_of_ble_eq_true rfl) rfl ?_
              refine E_iload_n rfl rfl ?_
              refine E_if (t := 16) (b := false) rfl rfl ((cn_lt (nI_toInt (by omega)) (by decide : (0 : Int32).toInt = 0)).trans (decide_eq_false (by omega))) ?_
              refine E_iload_n rfl rfl ?_
              refine E_aload_n rfl rfl ?_
              refine E_getfield (v := .int (nI (qM d))) rfl w11 rfl (by decide) rfl ?_
              refine E_ic (t := 16) (b := false) rfl rfl ((cn_ge (nI_toInt (by omega)) (nI_toInt (by omega))).trans (decide_eq_false (by omega))) ?_
              refine E_iconst (x := nI 1) rfl (by decide) ?_
              refine E_goto (t := 17) rfl rfl ?_
              exact E_iret rfl rfl
            refine E_callV (v := some (.int (nI 1))) (As := [.ref 11, .int (nI p)]) (r0 := []) (cs2 := (ww im lf s d k ls rf rz ra rn rq lt m1 m2 m3 m4 bd fc hd sz el t g fm hm so si sh ce ca td wa kp la bf oo bo pw ow tr)) rfl rfl rfl (Nat.le_of_ble_eq_true rfl) rfl (ab_rvOf w11 rfl) e1 (by decide) rfl ?_
            refine E_if (t := 18) (b := false) rfl rfl (by decide) ?_
            refine E_iload_n rfl rfl ?_
            refine E_aload_n rfl rfl ?_
            refine E_getfield (v := .ref 16) rfl w11 rfl (by decide) rfl ?_
            refine E_iload_n rfl rfl ?_
            refine E_ialN (l := qU d) (v := (qU d).getD p 0) rfl w16 (by omega) (by omega) rfl ?_
            refine E_ic (t := 20) (b := false) rfl rfl ((cn_le (nI_toInt (by omega)) (nI_toInt (by omega))).trans (decide_eq_false (by omega))) ?_
            refine E_iconst (x := (-1)) rfl (by decide) ?_
            exact E_iret rfl rfl
          refine E_callV (v := some (.int (-1))) (As := [.ref 0, .ref 11, .int (nI p), .int (nI u)]) (r0 := []) (cs2 := (ww im lf s d k ls rf rz ra rn rq lt m1 m2 m3 m4 bd fc hd sz el t g fm hm so si sh ce ca td wa kp la bf oo bo pw ow tr)) rfl rfl rfl (Nat.le_of_ble_eq_true rfl) rfl (ab_rvOf w0 rfl) e2 (by decide) rfl ?_
          refine E_istore (L2 := [some (.ref 0), some (.ref (49 + 2 * j)), some (.int (nI n)), some (.int (nI v)), some (.int (nI p)), some (.int (-1))]) rfl rfl ?_
          refine E_iload rfl rfl ?_
          refine E_iconst (x := (-1)) rfl (by decide) ?_
          refine E_ic (t := 50) (b := false) rfl rfl (by decide) ?_
          refine E_iload_n rfl rfl ?_
          exact E_iret rfl rfl
        · by_cases f4 : u < (qPr d p ((qW d).getD p 0))
          · have hU := I.2.2.2.2.1 p (by omega)
            have := qPr_in I p (w := ((qW d).getD p 0)) (by omega)
            refine ⟨ls, l_ls, fun x4 x5 => ?_⟩
            refine E_iload_n rfl rfl ?_
            refine E_iload_n rfl rfl ?_
            refine E_ic (t := 72) (b := false) rfl rfl ((cn_ge (nI_toInt (by omega)) (nI_toInt (by omega))).trans (decide_eq_false (by omega))) ?_
            refine E_aload_n rfl rfl ?_
            refine E_iload_n rfl rfl ?_
            refine E_callV (v := some (.int (nI p))) (As := [.ref (49 + 2 * j), .int (nI v)]) (r0 := []) (cs2 := (ww im lf s d k ls rf rz ra rn rq lt m1 m2 m3 m4 bd fc hd sz el t g fm hm so si sh ce ca td wa kp la bf oo bo pw ow tr)) rfl rfl rfl (Nat.le_of_ble_eq_true rfl) rfl (ab_rvOf (w_shv (j := j) (by omega) rfl hz) rfl) (Ev.vi ec (w_first hj hz (x := v) (by omega) hn1 le)) (by decide) rfl ?_
            refine E_istore (L2 := [some (.ref 0), some (.ref (49 + 2 * j)), some (.int (nI n)), some (.int (nI v)), some (.int (nI p)), x5]) rfl rfl ?_
            refine E_aload_n rfl rfl ?_
            refine E_aload_n rfl rfl ?_
            refine E_getfield (v := .ref 11) rfl w0 rfl (by decide) rfl ?_
            refine E_iload rfl rfl ?_
            refine E_aload_n rfl rfl ?_
            refine E_iload_n rfl rfl ?_
            refine E_callV (v := some (.int (nI u))) (As := [.ref (49 + 2 * j), .int (nI v)]) (r0 := [.int (nI p), .ref 11, .ref 0]) (cs2 := (ww im lf s d k ls rf rz ra rn rq lt m1 m2 m3 m4 bd fc hd sz el t g fm hm so si sh ce ca td wa kp la bf oo bo pw ow tr)) rfl rfl rfl (Nat.le_of_ble_eq_true rfl) rfl (ab_rvOf (w_shv (j := j) (by omega) rfl hz) rfl) (Ev.vi eu (w_second hj hz (x := v) (by omega) hn1 le)) (by decide) rfl ?_
            have e2 : Ev ab_Z0 4 122 [.ref 0, .ref 11, .int (nI p), .int (nI u)] (ww im lf s d k ls rf rz ra rn rq lt m1 m2 m3 m4 bd fc hd sz el t g fm hm so si sh ce ca td wa kp la bf oo bo pw ow tr) (some (.int (-1)), (ww im lf s d k ls rf rz ra rn rq lt m1 m2 m3 m4 bd fc hd sz el t g fm hm so si sh ce ca td wa kp la bf oo bo pw ow tr)) := by
              refine Ef.in (md := mX5_throwBy) (L := [some (.ref 0), some (.ref 11), some (.int (nI p)), some (.int (nI u)), none]) rfl (Nat.le_of_ble_eq_true rfl) rfl ?_
              refine E_aload_n rfl rfl ?_
              refine E_iload_n rfl rfl ?_
              have e1 : Ev ab_Z0 1 51 [.ref 11, .int (nI p)] (ww im lf s d k ls rf rz ra rn rq lt m1 m2 m3 m4 bd fc hd sz el t g fm hm so si sh ce ca td wa kp la bf oo bo pw ow tr) (some (.int (nI 1)), (ww im lf s d k ls rf rz ra rn rq lt m1 m2 m3 m4 bd fc hd sz el t g fm hm so si sh ce ca td wa kp la bf oo bo pw ow tr)) := by
                refine Ef.in (md := mX4_isPerson) (L := [some (.ref 11), some (.int (nI p))]) rfl (Nat.le_of_ble_eq_true rfl) rfl ?_
                refine E_iload_n rfl rfl ?_
                refine E_if (t := 16) (b := false) rfl rfl ((cn_lt (nI_toInt (by omega)) (by decide : (0 : Int32).toInt = 0)).trans (decide_eq_false (by omega))) ?_
                refine E_iload_n rfl rfl ?_
                refine E_aload_n rfl rfl ?_
                refine E_getfield (v := .int (nI (qM d))) rfl w11 rfl (by decide) rfl ?_
                refine E_ic (t := 16) (b := false) rfl rfl ((cn_ge (nI_toInt (by omega)) (nI_toInt (by omega))).trans (decide_eq_false (by omega))) ?_
                refine E_iconst (x := nI 1) rfl (by decide) ?_
                refine E_goto (t := 17) rfl rfl ?_
                exact E_iret rfl rfl
              refine E_callV (v := some (.int (nI 1))) (As := [.ref 11, .int (nI p)]) (r0 := []) (cs2 := (ww im lf s d k ls rf rz ra rn rq lt m1 m2 m3 m4 bd fc hd sz el t g fm hm so si sh ce ca td wa kp la bf oo bo pw ow tr)) rfl rfl rfl (Nat.le_of_ble_eq_true rfl) rfl (ab_rvOf w11 rfl) e1 (by decide) rfl ?_
              refine E_if (t := 18) (b := false) rfl rfl (by decide) ?_
              refine E_iload_n rfl rfl ?_
              refine E_aload_n rfl rfl ?_
              refine E_getfield (v := .ref 16) rfl w11 rfl (by decide) rfl ?_
              refine E_iload_n rfl rfl ?_
              refine E_ialN (l := qU d) (v := (qU d).getD p 0) rfl w16 (by omega) (by omega) rfl ?_
              refine E_ic (t := 20) (b := true) rfl rfl ((cn_le (nI_toInt (by omega)) (nI_toInt (by omega))).trans (decide_eq_true (by omega))) ?_
              refine E_aload_n rfl rfl ?_
              refine E_iload_n rfl rfl ?_
              refine E_aload_n rfl rfl ?_
              refine E_getfield (v := .ref 18) rfl w11 rfl (by decide) rfl ?_
              refine E_iload_n rfl rfl ?_
              refine E_ialN (l := qW d) (v := (qW d).getD p 0) rfl w18 (by omega) (by omega) rfl ?_
              refine E_callV (v := some (.int (nI (qPr d p ((qW d).getD p 0))))) (As := [.ref 11, .int (nI p), .int (nI ((qW d).getD p 0))]) (r0 := []) (cs2 := (ww im lf s d k ls rf rz ra rn rq lt m1 m2 m3 m4 bd fc hd sz el t g fm hm so si sh ce ca td wa kp la bf oo bo pw ow tr)) rfl rfl rfl (Nat.le_of_ble_eq_true rfl) rfl (ab_rvOf w11 rfl) (sq_priceFor w_q11 I (by omega) (by omega)) (by decide) rfl ?_
              refine E_istore (L2 := [some (.ref 0), some (.ref 11), some (.int (nI p)), some (.int (nI u)), some (.int (nI (qPr d p ((qW d).getD p 0))))]) rfl rfl ?_
              refine E_iload_n rfl rfl ?_
              refine E_iload rfl rfl ?_
              refine E_ic (t := 43) (b := false) rfl rfl ((cn_ge (nI_toInt (by omega)) (nI_toInt (by omega))).trans (decide_eq_false (by omega))) ?_
              refine E_iconst (x := (-1)) rfl (by decide) ?_
              refine E_goto (t := 59) rfl rfl ?_
              exact E_iret rfl rfl
            refine E_callV (v := some (.int (-1))) (As := [.ref 0, .ref 11, .int (nI p), .int (nI u)]) (r0 := []) (cs2 := (ww im lf s d k ls rf rz ra rn rq lt m1 m2 m3 m4 bd fc hd sz el t g fm hm so si sh ce ca td wa kp la bf oo bo pw ow tr)) rfl rfl rfl (Nat.le_of_ble_eq_true rfl) rfl (ab_rvOf w0 rfl) e2 (by decide) rfl ?_
            refine E_istore (L2 := [some (.ref 0), some (.ref (49 + 2 * j)), some (.int (nI n)), some (.int (nI v)), some (.int (nI p)), some (.int (-1))]) rfl rfl ?_
            refine E_iload rfl rfl ?_
            refine E_iconst (x := (-1)) rfl (by decide) ?_
            refine E_ic (t := 50) (b := false) rfl rfl (by decide) ?_
            refine E_iload_n rfl rfl ?_
            exact E_iret rfl rfl
          · rcases I.2.2.2.2.2.2 with er | er
            · rcases wgh_bst d (qPs d 99 (qN d)) (qN d) (u - (qPr d p ((qW d).getD p 0))) with ⟨eb0, fb0⟩ | ⟨B0, hB0, hs0, hw0, hb0, hk0⟩
              · have hU := I.2.2.2.2.1 p (by omega)
                have := qPr_in I p (w := ((qW d).getD p 0)) (by omega)
                have er2 : (qR d).toInt = 0 := by rw [er]; rfl
                have := qPs_in d 99 (i := qN d) (by omega)
                have := lsF_len (wgh d (qPs d 99 (qN d)) (qN d))
                refine ⟨(lsF (wgh d (qPs d 99 (qN d)) (qN d))), (lsF_len _), fun x4 x5 => ?_⟩
                refine E_iload_n rfl rfl ?_
                refine E_iload_n rfl rfl ?_
                refine E_ic (t := 72) (b := false) rfl rfl ((cn_ge (nI_toInt (by omega)) (nI_toInt (by omega))).trans (decide_eq_false (by omega))) ?_
                refine E_aload_n rfl rfl ?_
                refine E_iload_n rfl rfl ?_
                refine E_callV (v := some (.int (nI p))) (As := [.ref (49 + 2 * j), .int (nI v)]) (r0 := []) (cs2 := (ww im lf s d k ls rf rz ra rn rq lt m1 m2 m3 m4 bd fc hd sz el t g fm hm so si sh ce ca td wa kp la bf oo bo pw ow tr)) rfl rfl rfl (Nat.le_of_ble_eq_true rfl) rfl (ab_rvOf (w_shv (j := j) (by omega) rfl hz) rfl) (Ev.vi ec (w_first hj hz (x := v) (by omega) hn1 le)) (by decide) rfl ?_
                refine E_istore (L2 := [some (.ref 0), some (.ref (49 + 2 * j)), some (.int (nI n)), some (.int (nI v)), some (.int (nI p)), x5]) rfl rfl ?_
                refine E_aload_n rfl rfl ?_
                refine E_aload_n rfl rfl ?_
                refine E_getfield (v := .ref 11) rfl w0 rfl (by decide) rfl ?_
                refine E_iload rfl rfl ?_
                refine E_aload_n rfl rfl ?_
                refine E_iload_n rfl rfl ?_
                refine E_callV (v := some (.int (nI u))) (As := [.ref (49 + 2 * j), .int (nI v)]) (r0 := [.int (nI p), .ref 11, .ref 0]) (cs2 := (ww im lf s d k ls rf rz ra rn rq lt m1 m2 m3 m4 bd fc hd sz el t g fm hm so si sh ce ca td wa kp la bf oo bo pw ow tr)) rfl rfl rfl (Nat.le_of_ble_eq_true rfl) rfl (ab_rvOf (w_shv (j := j) (by omega) rfl hz) rfl) (Ev.vi eu (w_second hj hz (x := v) (by omega) hn1 le)) (by decide) rfl ?_
                have e5 : Ev ab_Z0 4 122 [.ref 0, .ref 11, .int (nI p), .int (nI u)] (ww im lf s d k ls rf rz ra rn rq lt m1 m2 m3 m4 bd fc hd sz el t g fm hm so si sh ce ca td wa kp la bf oo bo pw ow tr) (some (.int (-1)), (ww im lf s d k (lsF (wgh d (qPs d 99 (qN d)) (qN d))) rf rz ra rn rq lt m1 m2 m3 m4 bd fc hd sz el t g fm hm so si sh ce ca td wa kp la bf oo bo pw ow tr)) := by
                  refine Ef.in (md := mX5_throwBy) (L := [some (.ref 0), some (.ref 11), some (.int (nI p)), some (.int (nI u)), none]) rfl (Nat.le_of_ble_eq_true rfl) rfl ?_
                  refine E_aload_n rfl rfl ?_
                  refine E_iload_n rfl rfl ?_
                  have e1 : Ev ab_Z0 1 51 [.ref 11, .int (nI p)] (ww im lf s d k ls rf rz ra rn rq lt m1 m2 m3 m4 bd fc hd sz el t g fm hm so si sh ce ca td wa kp la bf oo bo pw ow tr) (some (.int (nI 1)), (ww im lf s d k ls rf rz ra rn rq lt m1 m2 m3 m4 bd fc hd sz el t g fm hm so si sh ce ca td wa kp la bf oo bo pw ow tr)) := by
                    refine Ef.in (md := mX4_isPerson) (L := [some (.ref 11), some (.int (nI p))]) rfl (Nat.le_of_ble_eq_true rfl) rfl ?_
                    refine E_iload_n rfl rfl ?_
                    refine E_if (t := 16) (b := false) rfl rfl ((cn_lt (nI_toInt (by omega)) (by decide : (0 : Int32).toInt = 0)).trans (decide_eq_false (by omega))) ?_
                    refine E_iload_n rfl rfl ?_
                    refine E_aload_n rfl rfl ?_
                    refine E_getfield (v := .int (nI (qM d))) rfl w11 rfl (by decide) rfl ?_
                    refine E_ic (t := 16) (b := false) rfl rfl ((cn_ge (nI_toInt (by omega)) (nI_toInt (by omega))).trans (decide_eq_false (by omega))) ?_
                    refine E_iconst (x := nI 1) rfl (by decide) ?_
                    refine E_goto (t := 17) rfl rfl ?_
                    exact E_iret rfl rfl
                  refine E_callV (v := some (.int (nI 1))) (As := [.ref 11, .int (nI p)]) (r0 := []) (cs2 := (ww im lf s d k ls rf rz ra rn rq lt m1 m2 m3 m4 bd fc hd sz el t g fm hm so si sh ce ca td wa kp la bf oo bo pw ow tr)) rfl rfl rfl (Nat.le_of_ble_eq_true rfl) rfl (ab_rvOf w11 rfl) e1 (by decide) rfl ?_
                  refine E_if (t := 18) (b := false) rfl rfl (by decide) ?_
                  refine E_iload_n rfl rfl ?_
                  refine E_aload_n rfl rfl ?_
                  refine E_getfield (v := .ref 16) rfl w11 rfl (by decide) rfl ?_
                  refine E_iload_n rfl rfl ?_
                  refine E_ialN (l := qU d) (v := (qU d).getD p 0) rfl w16 (by omega) (by omega) rfl ?_
                  refine E_ic (t := 20) (b := true) rfl rfl ((cn_le (nI_toInt (by omega)) (nI_toInt (by omega))).trans (decide_eq_true (by omega))) ?_
                  refine E_aload_n rfl rfl ?_
                  refine E_iload_n rfl rfl ?_
                  refine E_aload_n rfl rfl ?_
                  refine E_getfield (v := .ref 18) rfl w11 rfl (by decide) rfl ?_
                  refine E_iload_n rfl rfl ?_
                  refine E_ialN (l := qW d) (v := (qW d).getD p 0) rfl w18 (by omega) (by omega) rfl ?_
                  refine E_callV (v := some (.int (nI (qPr d p ((qW d).getD p 0))))) (As := [.ref 11, .int (nI p), .int (nI ((qW d).getD p 0))]) (r0 := []) (cs2 := (ww im lf s d k ls rf rz ra rn rq lt m1 m2 m3 m4 bd fc hd sz el t g fm hm so si sh ce ca td wa kp la bf oo bo pw ow tr)) rfl rfl rfl (Nat.le_of_ble_eq_true rfl) rfl (ab_rvOf w11 rfl) (sq_priceFor w_q11 I (by omega) (by omega)) (by decide) rfl ?_
                  refine E_istore (L2 := [some (.ref 0), some (.ref 11), some (.int (nI p)), some (.int (nI u)), some (.int (nI (qPr d p ((qW d).getD p 0))))]) rfl rfl ?_
                  refine E_iload_n rfl rfl ?_
                  refine E_iload rfl rfl ?_
                  refine E_ic (t := 43) (b := true) rfl rfl ((cn_ge (nI_toInt (by omega)) (nI_toInt (by omega))).trans (decide_eq_true (by omega))) ?_
                  refine E_aload_n rfl rfl ?_
                  refine E_getfield (v := .ref 32) rfl w0 rfl (by decide) rfl ?_
                  refine E_aload_n rfl rfl ?_
                  refine E_aload_n rfl rfl ?_
                  refine E_getfield (v := .int (qR d)) rfl w11 rfl (by decide) rfl ?_
                  refine E_iload_n rfl rfl ?_
                  refine E_iload rfl rfl ?_
                  refine E_isub (z := nI (u - (qPr d p ((qW d).getD p 0)))) rfl (pk_sub (by omega)) ?_
                  have e4 : Ev ab_Z0 3 1 [.ref 32, .ref 11, .int (qR d), .int (nI (u - (qPr d p ((qW d).getD p 0))))] (ww im lf s d k ls rf rz ra rn rq lt m1 m2 m3 m4 bd fc hd sz el t g fm hm so si sh ce ca td wa kp la bf oo bo pw ow tr) (some (.int (-1)), (ww im lf s d k (lsF (wgh d (qPs d 99 (qN d)) (qN d))) rf rz ra rn rq lt m1 m2 m3 m4 bd fc hd sz el t g fm hm so si sh ce ca td wa kp la bf oo bo pw ow tr)) := by
                    refine Ef.in (md := mX0_bitsBy) (L := [some (.ref 32), some (.ref 11), some (.int (qR d)), some (.int (nI (u - (qPr d p ((qW d).getD p 0)))))]) rfl (Nat.le_of_ble_eq_true rfl) rfl ?_
                    refine E_iload_n rfl rfl ?_
                    refine E_iconst (x := nI 1) rfl (by decide) ?_
                    refine E_ic (t := 11) (b := true) rfl rfl ((cn_ne rfl (nI_toInt (by omega))).trans (decide_eq_true (by omega))) ?_
                    refine E_aload_n rfl rfl ?_
                    refine E_aload_n rfl rfl ?_
                    refine E_aload_n rfl rfl ?_
                    refine E_callV (v := some (.int (nI (qPs d 99 (qN d))))) (As := [.ref 11]) (r0 := [.ref 11, .ref 32]) (cs2 := (ww im lf s d k ls rf rz ra rn rq lt m1 m2 m3 m4 bd fc hd sz el t g fm hm so si sh ce ca td wa kp la bf oo bo pw ow tr)) rfl rfl rfl (Nat.le_of_ble_eq_true rfl) rfl (ab_rvOf w11 rfl) (sq_basin w_q11 I) (by decide) rfl ?_
                    refine E_callV (v := none) (As := [.ref 32, .ref 11, .int (nI (qPs d 99 (qN d)))]) (r0 := []) (cs2 := (ww im lf s d k (lsF (wgh d (qPs d 99 (qN d)) (qN d))) rf rz ra rn rq lt m1 m2 m3 m4 bd fc hd sz el t g fm hm so si sh ce ca td wa kp la bf oo bo pw ow tr)) rfl rfl rfl (Nat.le_of_ble_eq_true rfl) rfl (ab_rvOf w32 rfl) (w_weigh11 (m := qPs d 99 (qN d)) I (by omega) l_ls) (by decide) w_lens ?_
                    refine E_aload_n rfl rfl ?_
                    refine E_iload_n rfl rfl ?_
                    have e3 : Ev ab_Z0 2 4 [.ref 32, .int (nI (u - (qPr d p ((qW d).getD p 0))))] (ww im lf s d k (lsF (wgh d (qPs d 99 (qN d)) (qN d))) rf rz ra rn rq lt m1 m2 m3 m4 bd fc hd sz el t g fm hm so si sh ce ca td wa kp la bf oo bo pw ow tr) (some (.int (-1)), (ww im lf s d k (lsF (wgh d (qPs d 99 (qN d)) (qN d))) rf rz ra rn rq lt m1 m2 m3 m4 bd fc hd sz el t g fm hm so si sh ce ca td wa kp la bf oo bo pw ow tr)) := by
                      refine Ef.in (md := mX0_fewestFor) (L := [some (.ref 32), some (.int (nI (u - (qPr d p ((qW d).getD p 0)))))]) rfl (Nat.le_of_ble_eq_true rfl) rfl ?_
                      refine E_iload_n rfl rfl ?_
                      have e2 : Ev ab_Z0 1 48 [.int (nI (u - (qPr d p ((qW d).getD p 0))))] (ww im lf s d k (lsF (wgh d (qPs d 99 (qN d)) (qN d))) rf rz ra rn rq lt m1 m2 m3 m4 bd fc hd sz el t g fm hm so si sh ce ca td wa kp la bf oo bo pw ow tr) (some (.int (nI 1)), (ww im lf s d k (lsF (wgh d (qPs d 99 (qN d)) (qN d))) rf rz ra rn rq lt m1 m2 m3 m4 bd fc hd sz el t g fm hm so si sh ce ca td wa kp la bf oo bo pw ow tr)) := by
                        refine Ef.in (md := mX4_isAmount) (L := [some (.int (nI (u - (qPr d p ((qW d).getD p 0)))))]) rfl (Nat.le_of_ble_eq_true rfl) rfl ?_
                        refine E_iload_n rfl rfl ?_
                        refine E_if (t := 14) (b := false) rfl rfl ((cn_lt (nI_toInt (by omega)) (by decide : (0 : Int32).toInt = 0)).trans (decide_eq_false (by omega))) ?_
                        refine E_iload_n rfl rfl ?_
                        refine E_bipush (x := nI 100) rfl (by decide) ?_
                        refine E_ic (t := 14) (b := false) rfl rfl ((cn_ge (nI_toInt (by omega)) (nI_toInt (by omega))).trans (decide_eq_false (by omega))) ?_
                        refine E_iconst (x := nI 1) rfl (by decide) ?_
                        refine E_goto (t := 15) rfl rfl ?_
                        exact E_iret rfl rfl
                      refine E_callS (v := some (.int (nI 1))) (As := [.int (nI (u - (qPr d p ((qW d).getD p 0))))]) (r0 := []) (cs2 := (ww im lf s d k (lsF (wgh d (qPs d 99 (qN d)) (qN d))) rf rz ra rn rq lt m1 m2 m3 m4 bd fc hd sz el t g fm hm so si sh ce ca td wa kp la bf oo bo pw ow tr)) rfl rfl rfl (Nat.le_of_ble_eq_true rfl) rfl e2 (by decide) rfl ?_
                      refine E_if (t := 17) (b := false) rfl rfl (by decide) ?_
                      refine E_aload_n rfl rfl ?_
                      refine E_getfield (v := .ref 33) rfl w32 rfl (by decide) rfl ?_
                      refine E_iload_n rfl rfl ?_
                      refine E_ialI (l := (lsF (wgh d (qPs d 99 (qN d)) (qN d)))) (v := (-1)) rfl w33 (by omega) (by omega) (by rw [lsF_get (by omega), eb0]; rfl) ?_
                      refine E_iconst (x := (-1)) rfl (by decide) ?_
                      refine E_ic (t := 19) (b := false) rfl rfl (by decide) ?_
                      refine E_iconst (x := (-1)) rfl (by decide) ?_
                      exact E_iret rfl rfl
                    refine E_callV (v := some (.int (-1))) (As := [.ref 32, .int (nI (u - (qPr d p ((qW d).getD p 0))))]) (r0 := []) (cs2 := (ww im lf s d k (lsF (wgh d (qPs d 99 (qN d)) (qN d))) rf rz ra rn rq lt m1 m2 m3 m4 bd fc hd sz el t g fm hm so si sh ce ca td wa kp la bf oo bo pw ow tr)) rfl rfl rfl (Nat.le_of_ble_eq_true rfl) rfl (ab_rvOf w32 rfl) e3 (by decide) rfl ?_
                    exact E_iret rfl rfl
                  refine E_callV (v := some (.int (-1))) (As := [.ref 32, .ref 11, .int (qR d), .int (nI (u - (qPr d p ((qW d).getD p 0))))]) (r0 := []) (cs2 := (ww im lf s d k (lsF (wgh d (qPs d 99 (qN d)) (qN d))) rf rz ra rn rq lt m1 m2 m3 m4 bd fc hd sz el t g fm hm so si sh ce ca td wa kp la bf oo bo pw ow tr)) rfl rfl rfl (Nat.le_of_ble_eq_true rfl) rfl (ab_rvOf w32 rfl) e4 (by decide) w_lens ?_
                  exact E_iret rfl rfl
                refine E_callV (v := some (.int (-1))) (As := [.ref 0, .ref 11, .int (nI p), .int (nI u)]) (r0 := []) (cs2 := (ww im lf s d k (lsF (wgh d (qPs d 99 (qN d)) (qN d))) rf rz ra rn rq lt m1 m2 m3 m4 bd fc hd sz el t g fm hm so si sh ce ca td wa kp la bf oo bo pw ow tr)) rfl rfl rfl (Nat.le_of_ble_eq_true rfl) rfl (ab_rvOf w0 rfl) e5 (by decide) w_lens ?_
                refine E_istore (L2 := [some (.ref 0), some (.ref (49 + 2 * j)), some (.int (nI n)), some (.int (nI v)), some (.int (nI p)), some (.int (-1))]) rfl rfl ?_
                refine E_iload rfl rfl ?_
                refine E_iconst (x := (-1)) rfl (by decide) ?_
                refine E_ic (t := 50) (b := false) rfl rfl (by decide) ?_
                refine E_iload_n rfl rfl ?_
                exact E_iret rfl rfl
              · have hU := I.2.2.2.2.1 p (by omega)
                have := qPr_in I p (w := ((qW d).getD p 0)) (by omega)
                have er2 : (qR d).toInt = 0 := by rw [er]; rfl
                have := qPs_in d 99 (i := qN d) (by omega)
                have := lsF_len (wgh d (qPs d 99 (qN d)) (qN d))
                have w9 : 2 ^ qN d ≤ 2 ^ 9 := Nat.pow_le_pow_right (by decide) (by omega)
                have kb0 := kAt_bits I hB0
                have e := thr_of (q := d) ec eu (by omega) (by omega) (by omega) (by omega) (by omega)
                rw [hno] at e
                unfold chg at e
                rw [if_pos er, hb0] at e
                omega
            · rcases hg0 : qGreedy d (u - (qPr d p ((qW d).getD p 0))) with _ | gj0
              · have hU := I.2.2.2.2.1 p (by omega)
                have := qPr_in I p (w := ((qW d).getD p 0)) (by omega)
                have er2 : (qR d).toInt = 1 := by rw [er]; rfl
                refine ⟨ls, l_ls, fun x4 x5 => ?_⟩
                refine E_iload_n rfl rfl ?_
                refine E_iload_n rfl rfl ?_
                refine E_ic (t := 72) (b := false) rfl rfl ((cn_ge (nI_toInt (by omega)) (nI_toInt (by omega))).trans (decide_eq_false (by omega))) ?_
                refine E_aload_n rfl rfl ?_
                refine E_iload_n rfl rfl ?_
                refine E_callV (v := some (.int (nI p))) (As := [.ref (49 + 2 * j), .int (nI v)]) (r0 := []) (cs2 := (ww im lf s d k ls rf rz ra rn rq lt m1 m2 m3 m4 bd fc hd sz el t g fm hm so si sh ce ca td wa kp la bf oo bo pw ow tr)) rfl rfl rfl (Nat.le_of_ble_eq_true rfl) rfl (ab_rvOf (w_shv (j := j) (by omega) rfl hz) rfl) (Ev.vi ec (w_first hj hz (x := v) (by omega) hn1 le)) (by decide) rfl ?_
                refine E_istore (L2 := [some (.ref 0), some (.ref (49 + 2 * j)), some (.int (nI n)), some (.int (nI v)), some (.int (nI p)), x5]) rfl rfl ?_
                refine E_aload_n rfl rfl ?_
                refine E_aload_n rfl rfl ?_
                refine E_getfield (v := .ref 11) rfl w0 rfl (by decide) rfl ?_
                refine E_iload rfl rfl ?_
                refine E_aload_n rfl rfl ?_
                refine E_iload_n rfl rfl ?_
                refine E_callV (v := some (.int (nI u))) (As := [.ref (49 + 2 * j), .int (nI v)]) (r0 := [.int (nI p), .ref 11, .ref 0]) (cs2 := (ww im lf s d k ls rf rz ra rn rq lt m1 m2 m3 m4 bd fc hd sz el t g fm hm so si sh ce ca td wa kp la bf oo bo pw ow tr)) rfl rfl rfl (Nat.le_of_ble_eq_true rfl) rfl (ab_rvOf (w_shv (j := j) (by omega) rfl hz) rfl) (Ev.vi eu (w_second hj hz (x := v) (by omega) hn1 le)) (by decide) rfl ?_
                have e3 : Ev ab_Z0 5 122 [.ref 0, .ref 11, .int (nI p), .int (nI u)] (ww im lf s d k ls rf rz ra rn rq lt m1 m2 m3 m4 bd fc hd sz el t g fm hm so si sh ce ca td wa kp la bf oo bo pw ow tr) (some (.int (-1)), (ww im lf s d k ls rf rz ra rn rq lt m1 m2 m3 m4 bd fc hd sz el t g fm hm so si sh ce ca td wa kp la bf oo bo pw ow tr)) := by
                  refine Ef.in (md := mX5_throwBy) (L := [some (.ref 0), some (.ref 11), some (.int (nI p)), some (.int (nI u)), none]) rfl (Nat.le_of_ble_eq_true rfl) rfl ?_
                  refine E_aload_n rfl rfl ?_
                  refine E_iload_n rfl rfl ?_
                  have e1 : Ev ab_Z0 1 51 [.ref 11, .int (nI p)] (ww im lf s d k ls rf rz ra rn rq lt m1 m2 m3 m4 bd fc hd sz el t g fm hm so si sh ce ca td wa kp la bf oo bo pw ow tr) (some (.int (nI 1)), (ww im lf s d k ls rf rz ra rn rq lt m1 m2 m3 m4 bd fc hd sz el t g fm hm so si sh ce ca td wa kp la bf oo bo pw ow tr)) := by
                    refine Ef.in (md := mX4_isPerson) (L := [some (.ref 11), some (.int (nI p))]) rfl (Nat.le_of_ble_eq_true rfl) rfl ?_
                    refine E_iload_n rfl rfl ?_
                    refine E_if (t := 16) (b := false) rfl rfl ((cn_lt (nI_toInt (by omega)) (by decide : (0 : Int32).toInt = 0)).trans (decide_eq_false (by omega))) ?_
                    refine E_iload_n rfl rfl ?_
                    refine E_aload_n rfl rfl ?_
                    refine E_getfield (v := .int (nI (qM d))) rfl w11 rfl (by decide) rfl ?_
                    refine E_ic (t := 16) (b := false) rfl rfl ((cn_ge (nI_toInt (by omega)) (nI_toInt (by omega))).trans (decide_eq_false (by omega))) ?_
                    refine E_iconst (x := nI 1) rfl (by decide) ?_
                    refine E_goto (t := 17) rfl rfl ?_
                    exact E_iret rfl rfl
                  refine E_callV (v := some (.int (nI 1))) (As := [.ref 11, .int (nI p)]) (r0 := []) (cs2 := (ww im lf s d k ls rf rz ra rn rq lt m1 m2 m3 m4 bd fc hd sz el t g fm hm so si sh ce ca td wa kp la bf oo bo pw ow tr)) rfl rfl rfl (Nat.le_of_ble_eq_true rfl) rfl (ab_rvOf w11 rfl) e1 (by decide) rfl ?_
                  refine E_if (t := 18) (b := false) rfl rfl (by decide) ?_
                  refine E_iload_n rfl rfl ?_
                  refine E_aload_n rfl rfl ?_
                  refine E_getfield (v := .ref 16) rfl w11 rfl (by decide) rfl ?_
                  refine E_iload_n rfl rfl ?_
                  refine E_ialN (l := qU d) (v := (qU d).getD p 0) rfl w16 (by omega) (by omega) rfl ?_
                  refine E_ic (t := 20) (b := true) rfl rfl ((cn_le (nI_toInt (by omega)) (nI_toInt (by omega))).trans (decide_eq_true (by omega))) ?_
                  refine E_aload_n rfl rfl ?_
                  refine E_iload_n rfl rfl ?_
                  refine E_aload_n rfl rfl ?_
                  refine E_getfield (v := .ref 18) rfl w11 rfl (by decide) rfl ?_
                  refine E_iload_n rfl rfl ?_
                  refine E_ialN (l := qW d) (v := (qW d).getD p 0) rfl w18 (by omega) (by omega) rfl ?_
                  refine E_callV (v := some (.int (nI (qPr d p ((qW d).getD p 0))))) (As := [.ref 11, .int (nI p), .int (nI ((qW d).getD p 0))]) (r0 := []) (cs2 := (ww im lf s d k ls rf rz ra rn rq lt m1 m2 m3 m4 bd fc hd sz el t g fm hm so si sh ce ca td wa kp la bf oo bo pw ow tr)) rfl rfl rfl (Nat.le_of_ble_eq_true rfl) rfl (ab_rvOf w11 rfl) (sq_priceFor w_q11 I (by omega) (by omega)) (by decide) rfl ?_
                  refine E_istore (L2 := [some (.ref 0), some (.ref 11), some (.int (nI p)), some (.int (nI u)), some (.int (nI (qPr d p ((qW d).getD p 0))))]) rfl rfl ?_
                  refine E_iload_n rfl rfl ?_
                  refine E_iload rfl rfl ?_
                  refine E_ic (t := 43) (b := true) rfl rfl ((cn_ge (nI_toInt (by omega)) (nI_toInt (by omega))).trans (decide_eq_true (by omega))) ?_
                  refine E_aload_n rfl rfl ?_
                  refine E_getfield (v := .ref 32) rfl w0 rfl (by decide) rfl ?_
                  refine E_aload_n rfl rfl ?_
                  refine E_aload_n rfl rfl ?_
                  refine E_getfield (v := .int (qR d)) rfl w11 rfl (by decide) rfl ?_
                  refine E_iload_n rfl rfl ?_
                  refine E_iload rfl rfl ?_
                  refine E_isub (z := nI (u - (qPr d p ((qW d).getD p 0)))) rfl (pk_sub (by omega)) ?_
                  have e2 : Ev ab_Z0 4 1 [.ref 32, .ref 11, .int (qR d), .int (nI (u - (qPr d p ((qW d).getD p 0))))] (ww im lf s d k ls rf rz ra rn rq lt m1 m2 m3 m4 bd fc hd sz el t g fm hm so si sh ce ca td wa kp la bf oo bo pw ow tr) (some (.int (-1)), (ww im lf s d k ls rf rz ra rn rq lt m1 m2 m3 m4 bd fc hd sz el t g fm hm so si sh ce ca td wa kp la bf oo bo pw ow tr)) := by
                    refine Ef.in (md := mX0_bitsBy) (L := [some (.ref 32), some (.ref 11), some (.int (qR d)), some (.int (nI (u - (qPr d p ((qW d).getD p 0)))))]) rfl (Nat.le_of_ble_eq_true rfl) rfl ?_
                    refine E_iload_n rfl rfl ?_
                    refine E_iconst (x := nI 1) rfl (by decide) ?_
                    refine E_ic (t := 11) (b := false) rfl rfl ((cn_ne rfl (nI_toInt (by omega))).trans (decide_eq_false (by omega))) ?_
                    refine E_aload_n rfl rfl ?_
                    refine E_iload_n rfl rfl ?_
                    refine E_callV (v := some (.int (-1))) (As := [.ref 11, .int (nI (u - (qPr d p ((qW d).getD p 0))))]) (r0 := []) (cs2 := (ww im lf s d k ls rf rz ra rn rq lt m1 m2 m3 m4 bd fc hd sz el t g fm hm so si sh ce ca td wa kp la bf oo bo pw ow tr)) rfl rfl rfl (Nat.le_of_ble_eq_true rfl) rfl (ab_rvOf w11 rfl) (Ev.g0 hg0 (sq_greedyFor w_q11 I (by omega))) (by decide) rfl ?_
                    exact E_iret rfl rfl
                  refine E_callV (v := some (.int (-1))) (As := [.ref 32, .ref 11, .int (qR d), .int (nI (u - (qPr d p ((qW d).getD p 0))))]) (r0 := []) (cs2 := (ww im lf s d k ls rf rz ra rn rq lt m1 m2 m3 m4 bd fc hd sz el t g fm hm so si sh ce ca td wa kp la bf oo bo pw ow tr)) rfl rfl rfl (Nat.le_of_ble_eq_true rfl) rfl (ab_rvOf w32 rfl) e2 (by decide) rfl ?_
                  exact E_iret rfl rfl
                refine E_callV (v := some (.int (-1))) (As := [.ref 0, .ref 11, .int (nI p), .int (nI u)]) (r0 := []) (cs2 := (ww im lf s d k ls rf rz ra rn rq lt m1 m2 m3 m4 bd fc hd sz el t g fm hm so si sh ce ca td wa kp la bf oo bo pw ow tr)) rfl rfl rfl (Nat.le_of_ble_eq_true rfl) rfl (ab_rvOf w0 rfl) e3 (by decide) rfl ?_
                refine E_istore (L2 := [some (.ref 0), some (.ref (49 + 2 * j)), some (.int (nI n)), some (.int (nI v)), some (.int (nI p)), some (.int (-1))]) rfl rfl ?_
                refine E_iload rfl rfl ?_
                refine E_iconst (x := (-1)) rfl (by decide) ?_
                refine E_ic (t := 50) (b := false) rfl rfl (by decide) ?_
                refine E_iload_n rfl rfl ?_
                exact E_iret rfl rfl
              · have hU := I.2.2.2.2.1 p (by omega)
                have := qPr_in I p (w := ((qW d).getD p 0)) (by omega)
                have er2 : (qR d).toInt = 1 := by rw [er]; rfl
                have hh0 : gj0 + 1 ≤ 512 := hg0 ▸ qGr_512 I (u - (qPr d p ((qW d).getD p 0)))
                have e := thr_of (q := d) ec eu (by omega) (by omega) (by omega) (by omega) (by omega)
                rw [hno] at e
                unfold chg at e
                rw [if_neg (by rw [er]; decide), hg0] at e
                omega
      · refine ⟨ls, l_ls, fun x4 x5 => ?_⟩
        refine E_iload_n rfl rfl ?_
        refine E_iload_n rfl rfl ?_
        refine E_ic (t := 72) (b := false) rfl rfl ((cn_ge (nI_toInt (by omega)) (nI_toInt (by omega))).trans (decide_eq_false (by omega))) ?_
        refine E_aload_n rfl rfl ?_
        refine E_iload_n rfl rfl ?_
        refine E_callV (v := some (.int (nI p))) (As := [.ref (49 + 2 * j), .int (nI v)]) (r0 := []) (cs2 := (ww im lf s d k ls rf rz ra rn rq lt m1 m2 m3 m4 bd fc hd sz el t g fm hm so si sh ce ca td wa kp la bf oo bo pw ow tr)) rfl rfl rfl (Nat.le_of_ble_eq_true rfl) rfl (ab_rvOf (w_shv (j := j) (by omega) rfl hz) rfl) (Ev.vi ec (w_first hj hz (x := v) (by omega) hn1 le)) (by decide) rfl ?_
        refine E_istore (L2 := [some (.ref 0), some (.ref (49 + 2 * j)), some (.int (nI n)), some (.int (nI v)), some (.int (nI p)), x5]) rfl rfl ?_
        refine E_aload_n rfl rfl ?_
        refine E_aload_n rfl rfl ?_
        refine E_getfield (v := .ref 11) rfl w0 rfl (by decide) rfl ?_
        refine E_iload rfl rfl ?_
        refine E_aload_n rfl rfl ?_
        refine E_iload_n rfl rfl ?_
        refine E_callV (v := some (.int (nI u))) (As := [.ref (49 + 2 * j), .int (nI v)]) (r0 := [.int (nI p), .ref 11, .ref 0]) (cs2 := (ww im lf s d k ls rf rz ra rn rq lt m1 m2 m3 m4 bd fc hd sz el t g fm hm so si sh ce ca td wa kp la bf oo bo pw ow tr)) rfl rfl rfl (Nat.le_of_ble_eq_true rfl) rfl (ab_rvOf (w_shv (j := j) (by omega) rfl hz) rfl) (Ev.vi eu (w_second hj hz (x := v) (by omega) hn1 le)) (by decide) rfl ?_
        have e2 : Ev ab_Z0 2 122 [.ref 0, .ref 11, .int (nI p), .int (nI u)] (ww im lf s d k ls rf rz ra rn rq lt m1 m2 m3 m4 bd fc hd sz el t g fm hm so si sh ce ca td wa kp la bf oo bo pw ow tr) (some (.int (-1)), (ww im lf s d k ls rf rz ra rn rq lt m1 m2 m3 m4 bd fc hd sz el t g fm hm so si sh ce ca td wa kp la bf oo bo pw ow tr)) := by
          refine Ef.in (md := mX5_throwBy) (L := [some (.ref 0), some (.ref 11), some (.int (nI p)), some (.int (nI u)), none]) rfl (Nat.le_of_ble_eq_true rfl) rfl ?_
          refine E_aload_n rfl rfl ?_
          refine E_iload_n rfl rfl ?_
          have e1 : Ev ab_Z0 1 51 [.ref 11, .int (nI p)] (ww im lf s d k ls rf rz ra rn rq lt m1 m2 m3 m4 bd fc hd sz el t g fm hm so si sh ce ca td wa kp la bf oo bo pw ow tr) (some (.int (nI 0)), (ww im lf s d k ls rf rz ra rn rq lt m1 m2 m3 m4 bd fc hd sz el t g fm hm so si sh ce ca td wa kp la bf oo bo pw ow tr)) := by
            refine Ef.in (md := mX4_isPerson) (L := [some (.ref 11), some (.int (nI p))]) rfl (Nat.le_of_ble_eq_true rfl) rfl ?_
            refine E_iload_n rfl rfl ?_
            refine E_if (t := 16) (b := false) rfl rfl ((cn_lt (nI_toInt (by omega)) (by decide : (0 : Int32).toInt = 0)).trans (decide_eq_false (by omega))) ?_
            refine E_iload_n rfl rfl ?_
            refine E_aload_n rfl rfl ?_
            refine E_getfield (v := .int (nI (qM d))) rfl w11 rfl (by decide) rfl ?_
            refine E_ic (t := 16) (b := true) rfl rfl ((cn_ge (nI_toInt (by omega)) (nI_toInt (by omega))).trans (decide_eq_true (by omega))) ?_
            refine E_iconst (x := nI 0) rfl (by decide) ?_
            exact E_iret rfl rfl
          refine E_callV (v := some (.int (nI 0))) (As := [.ref 11, .int (nI p)]) (r0 := []) (cs2 := (ww im lf s d k ls rf rz ra rn rq lt m1 m2 m3 m4 bd fc hd sz el t g fm hm so si sh ce ca td wa kp la bf oo bo pw ow tr)) rfl rfl rfl (Nat.le_of_ble_eq_true rfl) rfl (ab_rvOf w11 rfl) e1 (by decide) rfl ?_
          refine E_if (t := 18) (b := true) rfl rfl (by decide) ?_
          refine E_iconst (x := (-1)) rfl (by decide) ?_
          exact E_iret rfl rfl
        refine E_callV (v := some (.int (-1))) (As := [.ref 0, .ref 11, .int (nI p), .int (nI u)]) (r0 := []) (cs2 := (ww im lf s d k ls rf rz ra rn rq lt m1 m2 m3 m4 bd fc hd sz el t g fm hm so si sh ce ca td wa kp la bf oo bo pw ow tr)) rfl rfl rfl (Nat.le_of_ble_eq_true rfl) rfl (ab_rvOf w0 rfl) e2 (by decide) rfl ?_
        refine E_istore (L2 := [some (.ref 0), some (.ref (49 + 2 * j)), some (.int (nI n)), some (.int (nI v)), some (.int (nI p)), some (.int (-1))]) rfl rfl ?_
        refine E_iload rfl rfl ?_
        refine E_iconst (x := (-1)) rfl (by decide) ?_
        refine E_ic (t := 50) (b := false) rfl rfl (by decide) ?_
        refine E_iload_n rfl rfl ?_
        exact E_iret rfl rfl
    · by_cases f2 : p < (qM d)
      · have hU := I.2.2.2.2.1 p (by omega)
        have := qPr_in I p (w := ((qW d).getD p 0)) (by omega)
        refine ⟨ls, l_ls, fun x4 x5 => ?_⟩
        refine E_iload_n rfl rfl ?_
        refine E_iload_n rfl rfl ?_
        refine E_ic (t := 72) (b := false) rfl rfl ((cn_ge (nI_toInt (by omega)) (nI_toInt (by omega))).trans (decide_eq_false (by omega))) ?_
        refine E_aload_n rfl rfl ?_
        refine E_iload_n rfl rfl ?_
        refine E_callV (v := some (.int (nI p))) (As := [.ref (49 + 2 * j), .int (nI v)]) (r0 := []) (cs2 := (ww im lf s d k ls rf rz ra rn rq lt m1 m2 m3 m4 bd fc hd sz el t g fm hm so si sh ce ca td wa kp la bf oo bo pw ow tr)) rfl rfl rfl (Nat.le_of_ble_eq_true rfl) rfl (ab_rvOf (w_shv (j := j) (by omega) rfl hz) rfl) (Ev.vi ec (w_first hj hz (x := v) (by omega) hn1 le)) (by decide) rfl ?_
        refine E_istore (L2 := [some (.ref 0), some (.ref (49 + 2 * j)), some (.int (nI n)), some (.int (nI v)), some (.int (nI p)), x5]) rfl rfl ?_
        refine E_aload_n rfl rfl ?_
        refine E_aload_n rfl rfl ?_
        refine E_getfield (v := .ref 11) rfl w0 rfl (by decide) rfl ?_
        refine E_iload rfl rfl ?_
        refine E_aload_n rfl rfl ?_
        refine E_iload_n rfl rfl ?_
        refine E_callV (v := some (.int (tw (el j) (2 * v + 1)))) (As := [.ref (49 + 2 * j), .int (nI v)]) (r0 := [.int (nI p), .ref 11, .ref 0]) (cs2 := (ww im lf s d k ls rf rz ra rn rq lt m1 m2 m3 m4 bd fc hd sz el t g fm hm so si sh ce ca td wa kp la bf oo bo pw ow tr)) rfl rfl rfl (Nat.le_of_ble_eq_true rfl) rfl (ab_rvOf (w_shv (j := j) (by omega) rfl hz) rfl) (w_second hj hz (x := v) (by omega) hn1 le) (by decide) rfl ?_
        have e2 : Ev ab_Z0 4 122 [.ref 0, .ref 11, .int (nI p), .int (tw (el j) (2 * v + 1))] (ww im lf s d k ls rf rz ra rn rq lt m1 m2 m3 m4 bd fc hd sz el t g fm hm so si sh ce ca td wa kp la bf oo bo pw ow tr) (some (.int (-1)), (ww im lf s d k ls rf rz ra rn rq lt m1 m2 m3 m4 bd fc hd sz el t g fm hm so si sh ce ca td wa kp la bf oo bo pw ow tr)) := by
          refine Ef.in (md := mX5_throwBy) (L := [some (.ref 0), some (.ref 11), some (.int (nI p)), some (.int (tw (el j) (2 * v + 1))), none]) rfl (Nat.le_of_ble_eq_true rfl) rfl ?_
          refine E_aload_n rfl rfl ?_
          refine E_iload_n rfl rfl ?_
          have e1 : Ev ab_Z0 1 51 [.ref 11, .int (nI p)] (ww im lf s d k ls rf rz ra rn rq lt m1 m2 m3 m4 bd fc hd sz el t g fm hm so si sh ce ca td wa kp la bf oo bo pw ow tr) (some (.int (nI 1)), (ww im lf s d k ls rf rz ra rn rq lt m1 m2 m3 m4 bd fc hd sz el t g fm hm so si sh ce ca td wa kp la bf oo bo pw ow tr)) := by
            refine Ef.in (md := mX4_isPerson) (L := [some (.ref 11), some (.int (nI p))]) rfl (Nat.le_of_ble_eq_true rfl) rfl ?_
            refine E_iload_n rfl rfl ?_
            refine E_if (t := 16) (b := false) rfl rfl ((cn_lt (nI_toInt (by omega)) (by decide : (0 : Int32).toInt = 0)).trans (decide_eq_false (by omega))) ?_
            refine E_iload_n rfl rfl ?_
            refine E_aload_n rfl rfl ?_
            refine E_getfield (v := .int (nI (qM d))) rfl w11 rfl (by decide) rfl ?_
            refine E_ic (t := 16) (b := false) rfl rfl ((cn_ge (nI_toInt (by omega)) (nI_toInt (by omega))).trans (decide_eq_false (by omega))) ?_
            refine E_iconst (x := nI 1) rfl (by decide) ?_
            refine E_goto (t := 17) rfl rfl ?_
            exact E_iret rfl rfl
          refine E_callV (v := some (.int (nI 1))) (As := [.ref 11, .int (nI p)]) (r0 := []) (cs2 := (ww im lf s d k ls rf rz ra rn rq lt m1 m2 m3 m4 bd fc hd sz el t g fm hm so si sh ce ca td wa kp la bf oo bo pw ow tr)) rfl rfl rfl (Nat.le_of_ble_eq_true rfl) rfl (ab_rvOf w11 rfl) e1 (by decide) rfl ?_
          refine E_if (t := 18) (b := false) rfl rfl (by decide) ?_
          refine E_iload_n rfl rfl ?_
          refine E_aload_n rfl rfl ?_
          refine E_getfield (v := .ref 16) rfl w11 rfl (by decide) rfl ?_
          refine E_iload_n rfl rfl ?_
          refine E_ialN (l := qU d) (v := (qU d).getD p 0) rfl w16 (by omega) (by omega) rfl ?_
          refine E_ic (t := 20) (b := true) rfl rfl ((cn_le rfl (nI_toInt (by omega))).trans (decide_eq_true (by omega))) ?_
          refine E_aload_n rfl rfl ?_
          refine E_iload_n rfl rfl ?_
          refine E_aload_n rfl rfl ?_
          refine E_getfield (v := .ref 18) rfl w11 rfl (by decide) rfl ?_
          refine E_iload_n rfl rfl ?_
          refine E_ialN (l := qW d) (v := (qW d).getD p 0) rfl w18 (by omega) (by omega) rfl ?_
          refine E_callV (v := some (.int (nI (qPr d p ((qW d).getD p 0))))) (As := [.ref 11, .int (nI p), .int (nI ((qW d).getD p 0))]) (r0 := []) (cs2 := (ww im lf s d k ls rf rz ra rn rq lt m1 m2 m3 m4 bd fc hd sz el t g fm hm so si sh ce ca td wa kp la bf oo bo pw ow tr)) rfl rfl rfl (Nat.le_of_ble_eq_true rfl) rfl (ab_rvOf w11 rfl) (sq_priceFor w_q11 I (by omega) (by omega)) (by decide) rfl ?_
          refine E_istore (L2 := [some (.ref 0), some (.ref 11), some (.int (nI p)), some (.int (tw (el j) (2 * v + 1))), some (.int (nI (qPr d p ((qW d).getD p 0))))]) rfl rfl ?_
          refine E_iload_n rfl rfl ?_
          refine E_iload rfl rfl ?_
          refine E_ic (t := 43) (b := false) rfl rfl ((cn_ge rfl (nI_toInt (by omega))).trans (decide_eq_false (by omega))) ?_
          refine E_iconst (x := (-1)) rfl (by decide) ?_
          refine E_goto (t := 59) rfl rfl ?_
          exact E_iret rfl rfl
        refine E_callV (v := some (.int (-1))) (As := [.ref 0, .ref 11, .int (nI p), .int (tw (el j) (2 * v + 1))]) (r0 := []) (cs2 := (ww im lf s d k ls rf rz ra rn rq lt m1 m2 m3 m4 bd fc hd sz el t g fm hm so si sh ce ca td wa kp la bf oo bo pw ow tr)) rfl rfl rfl (Nat.le_of_ble_eq_true rfl) rfl (ab_rvOf w0 rfl) e2 (by decide) rfl ?_
        refine E_istore (L2 := [some (.ref 0), some (.ref (49 + 2 * j)), some (.int (nI n)), some (.int (nI v)), some (.int (nI p)), some (.int (-1))]) rfl rfl ?_
        refine E_iload rfl rfl ?_
        refine E_iconst (x := (-1)) rfl (by decide) ?_
        refine E_ic (t := 50) (b := false) rfl rfl (by decide) ?_
        refine E_iload_n rfl rfl ?_
        exact E_iret rfl rfl
      · refine ⟨ls, l_ls, fun x4 x5 => ?_⟩
        refine E_iload_n rfl rfl ?_
        refine E_iload_n rfl rfl ?_
        refine E_ic (t := 72) (b := false) rfl rfl ((cn_ge (nI_toInt (by omega)) (nI_toInt (by omega))).trans (decide_eq_false (by omega))) ?_
        refine E_aload_n rfl rfl ?_
        refine E_iload_n rfl rfl ?_
        refine E_callV (v := some (.int (nI p))) (As := [.ref (49 + 2 * j), .int (nI v)]) (r0 := []) (cs2 := (ww im lf s d k ls rf rz ra rn rq lt m1 m2 m3 m4 bd fc hd sz el t g fm hm so si sh ce ca td wa kp la bf oo bo pw ow tr)) rfl rfl rfl (Nat.le_of_ble_eq_true rfl) rfl (ab_rvOf (w_shv (j := j) (by omega) rfl hz) rfl) (Ev.vi ec (w_first hj hz (x := v) (by omega) hn1 le)) (by decide) rfl ?_
        refine E_istore (L2 := [some (.ref 0), some (.ref (49 + 2 * j)), some (.int (nI n)), some (.int (nI v)), some (.int (nI p)), x5]) rfl rfl ?_
        refine E_aload_n rfl rfl ?_
        refine E_aload_n rfl rfl ?_
        refine E_getfield (v := .ref 11) rfl w0 rfl (by decide) rfl ?_
        refine E_iload rfl rfl ?_
        refine E_aload_n rfl rfl ?_
        refine E_iload_n rfl rfl ?_
        refine E_callV (v := some (.int (tw (el j) (2 * v + 1)))) (As := [.ref (49 + 2 * j), .int (nI v)]) (r0 := [.int (nI p), .ref 11, .ref 0]) (cs2 := (ww im lf s d k ls rf rz ra rn rq lt m1 m2 m3 m4 bd fc hd sz el t g fm hm so si sh ce ca td wa kp la bf oo bo pw ow tr)) rfl rfl rfl (Nat.le_of_ble_eq_true rfl) rfl (ab_rvOf (w_shv (j := j) (by omega) rfl hz) rfl) (w_second hj hz (x := v) (by omega) hn1 le) (by decide) rfl ?_
        have e2 : Ev ab_Z0 2 122 [.ref 0, .ref 11, .int (nI p), .int (tw (el j) (2 * v + 1))] (ww im lf s d k ls rf rz ra rn rq lt m1 m2 m3 m4 bd fc hd sz el t g fm hm so si sh ce ca td wa kp la bf oo bo pw ow tr) (some (.int (-1)), (ww im lf s d k ls rf rz ra rn rq lt m1 m2 m3 m4 bd fc hd sz el t g fm hm so si sh ce ca td wa kp la bf oo bo pw ow tr)) := by
          refine Ef.in (md := mX5_throwBy) (L := [some (.ref 0), some (.ref 11), some (.int (nI p)), some (.int (tw (el j) (2 * v + 1))), none]) rfl (Nat.le_of_ble_eq_true rfl) rfl ?_
          refine E_aload_n rfl rfl ?_
          refine E_iload_n rfl rfl ?_
          have e1 : Ev ab_Z0 1 51 [.ref 11, .int (nI p)] (ww im lf s d k ls rf rz ra rn rq lt m1 m2 m3 m4 bd fc hd sz el t g fm hm so si sh ce ca td wa kp la bf oo bo pw ow tr) (some (.int (nI 0)), (ww im lf s d k ls rf rz ra rn rq lt m1 m2 m3 m4 bd fc hd sz el t g fm hm so si sh ce ca td wa kp la bf oo bo pw ow tr)) := by
            refine Ef.in (md := mX4_isPerson) (L := [some (.ref 11), some (.int (nI p))]) rfl (Nat.le_of_ble_eq_true rfl) rfl ?_
            refine E_iload_n rfl rfl ?_
            refine E_if (t := 16) (b := false) rfl rfl ((cn_lt (nI_toInt (by omega)) (by decide : (0 : Int32).toInt = 0)).trans (decide_eq_false (by omega))) ?_
            refine E_iload_n rfl rfl ?_
            refine E_aload_n rfl rfl ?_
            refine E_getfield (v := .int (nI (qM d))) rfl w11 rfl (by decide) rfl ?_
            refine E_ic (t := 16) (b := true) rfl rfl ((cn_ge (nI_toInt (by omega)) (nI_toInt (by omega))).trans (decide_eq_true (by omega))) ?_
            refine E_iconst (x := nI 0) rfl (by decide) ?_
            exact E_iret rfl rfl
          refine E_callV (v := some (.int (nI 0))) (As := [.ref 11, .int (nI p)]) (r0 := []) (cs2 := (ww im lf s d k ls rf rz ra rn rq lt m1 m2 m3 m4 bd fc hd sz el t g fm hm so si sh ce ca td wa kp la bf oo bo pw ow tr)) rfl rfl rfl (Nat.le_of_ble_eq_true rfl) rfl (ab_rvOf w11 rfl) e1 (by decide) rfl ?_
          refine E_if (t := 18) (b := true) rfl rfl (by decide) ?_
          refine E_iconst (x := (-1)) rfl (by decide) ?_
          exact E_iret rfl rfl
        refine E_callV (v := some (.int (-1))) (As := [.ref 0, .ref 11, .int (nI p), .int (tw (el j) (2 * v + 1))]) (r0 := []) (cs2 := (ww im lf s d k ls rf rz ra rn rq lt m1 m2 m3 m4 bd fc hd sz el t g fm hm so si sh ce ca td wa kp la bf oo bo pw ow tr)) rfl rfl rfl (Nat.le_of_ble_eq_true rfl) rfl (ab_rvOf w0 rfl) e2 (by decide) rfl ?_
        refine E_istore (L2 := [some (.ref 0), some (.ref (49 + 2 * j)), some (.int (nI n)), some (.int (nI v)), some (.int (nI p)), some (.int (-1))]) rfl rfl ?_
        refine E_iload rfl rfl ?_
        refine E_iconst (x := (-1)) rfl (by decide) ?_
        refine E_ic (t := 50) (b := false) rfl rfl (by decide) ?_
        refine E_iload_n rfl rfl ?_
        exact E_iret rfl rfl
  · rcases ab_int (tw (el j) (2 * v + 1)) with ⟨u, hu9, eu⟩ | hu9
    · refine ⟨ls, l_ls, fun x4 x5 => ?_⟩
      refine E_iload_n rfl rfl ?_
      refine E_iload_n rfl rfl ?_
      refine E_ic (t := 72) (b := false) rfl rfl ((cn_ge (nI_toInt (by omega)) (nI_toInt (by omega))).trans (decide_eq_false (by omega))) ?_
      refine E_aload_n rfl rfl ?_
      refine E_iload_n rfl rfl ?_
      refine E_callV (v := some (.int (tw (el j) (2 * v)))) (As := [.ref (49 + 2 * j), .int (nI v)]) (r0 := []) (cs2 := (ww im lf s d k ls rf rz ra rn rq lt m1 m2 m3 m4 bd fc hd sz el t g fm hm so si sh ce ca td wa kp la bf oo bo pw ow tr)) rfl rfl rfl (Nat.le_of_ble_eq_true rfl) rfl (ab_rvOf (w_shv (j := j) (by omega) rfl hz) rfl) (w_first hj hz (x := v) (by omega) hn1 le) (by decide) rfl ?_
      refine E_istore (L2 := [some (.ref 0), some (.ref (49 + 2 * j)), some (.int (nI n)), some (.int (nI v)), some (.int (tw (el j) (2 * v))), x5]) rfl rfl ?_
      refine E_aload_n rfl rfl ?_
      refine E_aload_n rfl rfl ?_
      refine E_getfield (v := .ref 11) rfl w0 rfl (by decide) rfl ?_
      refine E_iload rfl rfl ?_
      refine E_aload_n rfl rfl ?_
      refine E_iload_n rfl rfl ?_
      refine E_callV (v := some (.int (nI u))) (As := [.ref (49 + 2 * j), .int (nI v)]) (r0 := [.int (tw (el j) (2 * v)), .ref 11, .ref 0]) (cs2 := (ww im lf s d k ls rf rz ra rn rq lt m1 m2 m3 m4 bd fc hd sz el t g fm hm so si sh ce ca td wa kp la bf oo bo pw ow tr)) rfl rfl rfl (Nat.le_of_ble_eq_true rfl) rfl (ab_rvOf (w_shv (j := j) (by omega) rfl hz) rfl) (Ev.vi eu (w_second hj hz (x := v) (by omega) hn1 le)) (by decide) rfl ?_
      have e2 : Ev ab_Z0 2 122 [.ref 0, .ref 11, .int (tw (el j) (2 * v)), .int (nI u)] (ww im lf s d k ls rf rz ra rn rq lt m1 m2 m3 m4 bd fc hd sz el t g fm hm so si sh ce ca td wa kp la bf oo bo pw ow tr) (some (.int (-1)), (ww im lf s d k ls rf rz ra rn rq lt m1 m2 m3 m4 bd fc hd sz el t g fm hm so si sh ce ca td wa kp la bf oo bo pw ow tr)) := by
        refine Ef.in (md := mX5_throwBy) (L := [some (.ref 0), some (.ref 11), some (.int (tw (el j) (2 * v))), some (.int (nI u)), none]) rfl (Nat.le_of_ble_eq_true rfl) rfl ?_
        refine E_aload_n rfl rfl ?_
        refine E_iload_n rfl rfl ?_
        have e1 : Ev ab_Z0 1 51 [.ref 11, .int (tw (el j) (2 * v))] (ww im lf s d k ls rf rz ra rn rq lt m1 m2 m3 m4 bd fc hd sz el t g fm hm so si sh ce ca td wa kp la bf oo bo pw ow tr) (some (.int (nI 0)), (ww im lf s d k ls rf rz ra rn rq lt m1 m2 m3 m4 bd fc hd sz el t g fm hm so si sh ce ca td wa kp la bf oo bo pw ow tr)) := by
          refine Ef.in (md := mX4_isPerson) (L := [some (.ref 11), some (.int (tw (el j) (2 * v)))]) rfl (Nat.le_of_ble_eq_true rfl) rfl ?_
          refine E_iload_n rfl rfl ?_
          refine E_if (t := 16) (b := true) rfl rfl ((cn_lt rfl (by decide : (0 : Int32).toInt = 0)).trans (decide_eq_true (by omega))) ?_
          refine E_iconst (x := nI 0) rfl (by decide) ?_
          exact E_iret rfl rfl
        refine E_callV (v := some (.int (nI 0))) (As := [.ref 11, .int (tw (el j) (2 * v))]) (r0 := []) (cs2 := (ww im lf s d k ls rf rz ra rn rq lt m1 m2 m3 m4 bd fc hd sz el t g fm hm so si sh ce ca td wa kp la bf oo bo pw ow tr)) rfl rfl rfl (Nat.le_of_ble_eq_true rfl) rfl (ab_rvOf w11 rfl) e1 (by decide) rfl ?_
        refine E_if (t := 18) (b := true) rfl rfl (by decide) ?_
        refine E_iconst (x := (-1)) rfl (by decide) ?_
        exact E_iret rfl rfl
      refine E_callV (v := some (.int (-1))) (As := [.ref 0, .ref 11, .int (tw (el j) (2 * v)), .int (nI u)]) (r0 := []) (cs2 := (ww im lf s d k ls rf rz ra rn rq lt m1 m2 m3 m4 bd fc hd sz el t g fm hm so si sh ce ca td wa kp la bf oo bo pw ow tr)) rfl rfl rfl (Nat.le_of_ble_eq_true rfl) rfl (ab_rvOf w0 rfl) e2 (by decide) rfl ?_
      refine E_istore (L2 := [some (.ref 0), some (.ref (49 + 2 * j)), some (.int (nI n)), some (.int (nI v)), some (.int (tw (el j) (2 * v))), some (.int (-1))]) rfl rfl ?_
      refine E_iload rfl rfl ?_
      refine E_iconst (x := (-1)) rfl (by decide) ?_
      refine E_ic (t := 50) (b := false) rfl rfl (by decide) ?_
      refine E_iload_n rfl rfl ?_
      exact E_iret rfl rfl
    · refine ⟨ls, l_ls, fun x4 x5 => ?_⟩
      refine E_iload_n rfl rfl ?_
      refine E_iload_n rfl rfl ?_
      refine E_ic (t := 72) (b := false) rfl rfl ((cn_ge (nI_toInt (by omega)) (nI_toInt (by omega))).trans (decide_eq_false (by omega))) ?_
      refine E_aload_n rfl rfl ?_
      refine E_iload_n rfl rfl ?_
      refine E_callV (v := some (.int (tw (el j) (2 * v)))) (As := [.ref (49 + 2 * j), .int (nI v)]) (r0 := []) (cs2 := (ww im lf s d k ls rf rz ra rn rq lt m1 m2 m3 m4 bd fc hd sz el t g fm hm so si sh ce ca td wa kp la bf oo bo pw ow tr)) rfl rfl rfl (Nat.le_of_ble_eq_true rfl) rfl (ab_rvOf (w_shv (j := j) (by omega) rfl hz) rfl) (w_first hj hz (x := v) (by omega) hn1 le) (by decide) rfl ?_
      refine E_istore (L2 := [some (.ref 0), some (.ref (49 + 2 * j)), some (.int (nI n)), some (.int (nI v)), some (.int (tw (el j) (2 * v))), x5]) rfl rfl ?_
      refine E_aload_n rfl rfl ?_
      refine E_aload_n rfl rfl ?_
      refine E_getfield (v := .ref 11) rfl w0 rfl (by decide) rfl ?_
      refine E_iload rfl rfl ?_
      refine E_aload_n rfl rfl ?_
      refine E_iload_n rfl rfl ?_
      refine E_callV (v := some (.int (tw (el j) (2 * v + 1)))) (As := [.ref (49 + 2 * j), .int (nI v)]) (r0 := [.int (tw (el j) (2 * v)), .ref 11, .ref 0]) (cs2 := (ww im lf s d k ls rf rz ra rn rq lt m1 m2 m3 m4 bd fc hd sz el t g fm hm so si sh ce ca td wa kp la bf oo bo pw ow tr)) rfl rfl rfl (Nat.le_of_ble_eq_true rfl) rfl (ab_rvOf (w_shv (j := j) (by omega) rfl hz) rfl) (w_second hj hz (x := v) (by omega) hn1 le) (by decide) rfl ?_
      have e2 : Ev ab_Z0 2 122 [.ref 0, .ref 11, .int (tw (el j) (2 * v)), .int (tw (el j) (2 * v + 1))] (ww im lf s d k ls rf rz ra rn rq lt m1 m2 m3 m4 bd fc hd sz el t g fm hm so si sh ce ca td wa kp la bf oo bo pw ow tr) (some (.int (-1)), (ww im lf s d k ls rf rz ra rn rq lt m1 m2 m3 m4 bd fc hd sz el t g fm hm so si sh ce ca td wa kp la bf oo bo pw ow tr)) := by
        refine Ef.in (md := mX5_throwBy) (L := [some (.ref 0), some (.ref 11), some (.int (tw (el j) (2 * v))), some (.int (tw (el j) (2 * v + 1))), none]) rfl (Nat.le_of_ble_eq_true rfl) rfl ?_
        refine E_aload_n rfl rfl ?_
        refine E_iload_n rfl rfl ?_
        have e1 : Ev ab_Z0 1 51 [.ref 11, .int (tw (el j) (2 * v))] (ww im lf s d k ls rf rz ra rn rq lt m1 m2 m3 m4 bd fc hd sz el t g fm hm so si sh ce ca td wa kp la bf oo bo pw ow tr) (some (.int (nI 0)), (ww im lf s d k ls rf rz ra rn rq lt m1 m2 m3 m4 bd fc hd sz el t g fm hm so si sh ce ca td wa kp la bf oo bo pw ow tr)) := by
          refine Ef.in (md := mX4_isPerson) (L := [some (.ref 11), some (.int (tw (el j) (2 * v)))]) rfl (Nat.le_of_ble_eq_true rfl) rfl ?_
          refine E_iload_n rfl rfl ?_
          refine E_if (t := 16) (b := true) rfl rfl ((cn_lt rfl (by decide : (0 : Int32).toInt = 0)).trans (decide_eq_true (by omega))) ?_
          refine E_iconst (x := nI 0) rfl (by decide) ?_
          exact E_iret rfl rfl
        refine E_callV (v := some (.int (nI 0))) (As := [.ref 11, .int (tw (el j) (2 * v))]) (r0 := []) (cs2 := (ww im lf s d k ls rf rz ra rn rq lt m1 m2 m3 m4 bd fc hd sz el t g fm hm so si sh ce ca td wa kp la bf oo bo pw ow tr)) rfl rfl rfl (Nat.le_of_ble_eq_true rfl) rfl (ab_rvOf w11 rfl) e1 (by decide) rfl ?_
        refine E_if (t := 18) (b := true) rfl rfl (by decide) ?_
        refine E_iconst (x := (-1)) rfl (by decide) ?_
        exact E_iret rfl rfl
      refine E_callV (v := some (.int (-1))) (As := [.ref 0, .ref 11, .int (tw (el j) (2 * v)), .int (tw (el j) (2 * v + 1))]) (r0 := []) (cs2 := (ww im lf s d k ls rf rz ra rn rq lt m1 m2 m3 m4 bd fc hd sz el t g fm hm so si sh ce ca td wa kp la bf oo bo pw ow tr)) rfl rfl rfl (Nat.le_of_ble_eq_true rfl) rfl (ab_rvOf w0 rfl) e2 (by decide) rfl ?_
      refine E_istore (L2 := [some (.ref 0), some (.ref (49 + 2 * j)), some (.int (nI n)), some (.int (nI v)), some (.int (tw (el j) (2 * v))), some (.int (-1))]) rfl rfl ?_
      refine E_iload rfl rfl ?_
      refine E_iconst (x := (-1)) rfl (by decide) ?_
      refine E_ic (t := 50) (b := false) rfl rfl (by decide) ?_
      refine E_iload_n rfl rfl ?_
      exact E_iret rfl rfl
set_option maxHeartbeats 2000000 in
theorem dy_m1 {j n1 : Nat} (hj : j < 8) (hz : sz j = nI n1) (hn1 : n1 ≤ 160) (le : (el j).length = 160) (l_ce : ce.length = 1280) (hce : ∀ q, q < 160 → (el j).getD q 0 = ce.getD (160 * j + q) 0) {h0 m0 : Nat} {n v p u b : Nat} (hn : 2 * n ≤ n1) (hn20 : n ≤ 20) (hv : v < n) (I : qI t) (ec : tw (el j) (2 * v) = nI p) (eu : tw (el j) (2 * v + 1) = nI u) (hp : p < qM t) (hu : u ≤ (qU t).getD p 0) (hr : qPr t p ((qW t).getD p 0) ≤ u) (hc : chg t (u - qPr t p ((qW t).getD p 0)) = b + 1) (l_bf : bf.length = 100) : ∃ bf2 : List Int32, bf2.length = 100 ∧ ∀ r, (∀ x4 x5 x6 : Option Value, Ef ab_Z0 4 mX6_goes (17, [some (.ref 65), some (.int (nI j)), some (.int (nI n)), some (.int (nI (v + 1))), x4, x5, x6], [], (ww im lf s d k ls rf rz ra rn rq lt m1 m2 m3 m4 bd fc hd sz el (grQ t p u b) (fUp (fUp (fUp g 43 (nI (v + 1))) 44 (nI (h0 + qHs t b (qN t)))) 45 (nI (m0 + u))) fm hm so si sh ce ca td wa kp la bf2 oo bo pw ow tr)) r) → ∀ x4 x5 x6 : Option Value, Ef ab_Z0 4 mX6_goes (17, [some (.ref 65), some (.int (nI j)), some (.int (nI n)), some (.int (nI v)), x4, x5, x6], [], (ww im lf s d k ls rf rz ra rn rq lt m1 m2 m3 m4 bd fc hd sz el t (fUp (fUp (fUp g 43 (nI v)) 44 (nI h0)) 45 (nI m0)) fm hm so si sh ce ca td wa kp la bf oo bo pw ow tr)) r := by
  have lU_ : (qU t).length = 6 := I.2.1.1
  have lL_ : (qL t).length = 6 := I.2.1.2.1
  have lW_ : (qW t).length = 6 := I.2.1.2.2.1
  have lG_ : (qG t).length = 6 := I.2.1.2.2.2.1
  have lP_ : (qP t).length = 9 := I.1.2.2.2
  have h9 := I.2.2.1.1
  have h6 := I.2.2.1.2
  have hU := I.2.2.2.2.1 p hp
  have w9 : 2 ^ qN t ≤ 2 ^ 9 := Nat.pow_le_pow_right (by decide) (by omega)
  rcases I.2.2.2.2.2.2 with er | er
  · rcases wgh_bst t (qPs t 99 (qN t)) (qN t) (u - (qPr t p ((qW t).getD p 0))) with ⟨eb0, fb0⟩ | ⟨B0, hB0, hs0, hw0, hb0, hk0⟩
    · have er2 : (qR t).toInt = 0 := by rw [er]; rfl
      have := qPs_in t 99 (i := qN t) (by omega)
      have : (qW t).length = 6 := by first | omega | (simp only [List.length_set]; omega)
      have := qPr_in I p (w := ((qW t).getD p 0)) (by omega)
      have : (qU t).length = 6 := by first | omega | (simp only [List.length_set]; omega)
      have := lsF_len (bst t (qPs t 99 (qN t)) (qN t) (2 ^ qN t))
      have hc1 : bst t (qPs t 99 (qN t)) (qN t) (2 ^ qN t) (u - qPr t p ((qW t).getD p 0)) = b + 1 := by unfold chg at hc; rwa [if_pos er] at hc
      exfalso
      omega
    · have er2 : (qR t).toInt = 0 := by rw [er]; rfl
      have := qPs_in t 99 (i := qN t) (by omega)
      have : (qW t).length = 6 := by first | omega | (simp only [List.length_set]; omega)
      have := qPr_in I p (w := ((qW t).getD p 0)) (by omega)
      have : (qU t).length = 6 := by first | omega | (simp only [List.length_set]; omega)
      have := lsF_len (bst t (qPs t 99 (qN t)) (qN t) (2 ^ qN t))
      have w9 : 2 ^ qN t ≤ 2 ^ 9 := Nat.pow_le_pow_right (by decide) (by omega)
      have : (qG t).length = 6 := by first | omega | (simp only [List.length_set]; omega)
      have hc1 : bst t (qPs t 99 (qN t)) (qN t) (2 ^ qN t) (u - qPr t p ((qW t).getD p 0)) = b + 1 := by unfold chg at hc; rwa [if_pos er] at hc
      obtain rfl : B0 = b := by omega
      refine ⟨(lsF (bst t (qPs t 99 (qN t)) (qN t) (2 ^ qN t))), (lsF_len _), fun r K x4 x5 x6 => ?_⟩
      refine E_iload_n rfl rfl ?_
      refine E_iload_n rfl rfl ?_
      refine E_ic (t := 149) (b := false) rfl rfl ((cn_ge (nI_toInt (by omega)) (nI_toInt (by omega))).trans (decide_eq_false (by omega))) ?_
      refine E_aload_n rfl rfl ?_
      refine E_iload_n rfl rfl ?_
      refine E_iconst (x := nI 2) rfl (by decide) ?_
      refine E_iload_n rfl rfl ?_
      refine E_imul (z := nI (2 * v)) rfl (pk_mul _ _) ?_
      refine E_callV (v := some (.int (nI p))) (As := [.ref 65, .int (nI j), .int (nI (2 * v))]) (r0 := []) (cs2 := (ww im lf s d k ls rf rz ra rn rq lt m1 m2 m3 m4 bd fc hd sz el t (fUp (fUp (fUp g 43 (nI v)) 44 (nI h0)) 45 (nI m0)) fm hm so si sh ce ca td wa kp la bf oo bo pw ow tr)) rfl rfl rfl (Nat.le_of_ble_eq_true rfl) rfl (ab_rvOf w65 rfl) (Ev.vi ec (m_intAt (q := 2 * v) hj (by omega) l_ce hce)) (by decide) rfl ?_
      refine E_istore (L2 := [some (.ref 65), some (.int (nI j)), some (.int (nI n)), some (.int (nI v)), some (.int (nI p)), x5, x6]) rfl rfl ?_
      refine E_aload_n rfl rfl ?_
      refine E_iload_n rfl rfl ?_
      refine E_iconst (x := nI 2) rfl (by decide) ?_
      refine E_iload_n rfl rfl ?_
      refine E_imul (z := nI (2 * v)) rfl (pk_mul _ _) ?_
      refine E_iconst (x := nI 1) rfl (by decide) ?_
      refine E_iadd (z := nI ((2 * v) + 1)) rfl (nI_add _ _) ?_
      refine E_callV (v := some (.int (nI u))) (As := [.ref 65, .int (nI j), .int (nI ((2 * v) + 1))]) (r0 := []) (cs2 := (ww im lf s d k ls rf rz ra rn rq lt m1 m2 m3 m4 bd fc hd sz el t (fUp (fUp (fUp g 43 (nI v)) 44 (nI h0)) 45 (nI m0)) fm hm so si sh ce ca td wa kp la bf oo bo pw ow tr)) rfl rfl rfl (Nat.le_of_ble_eq_true rfl) rfl (ab_rvOf w65 rfl) (Ev.vi eu (m_intAt (q := (2 * v) + 1) hj (by omega) l_ce hce)) (by decide) rfl ?_
      refine E_istore (L2 := [some (.ref 65), some (.int (nI j)), some (.int (nI n)), some (.int (nI v)), some (.int (nI p)), some (.int (nI u)), x6]) rfl rfl ?_
      refine E_aload_n rfl rfl ?_
      refine E_aload_n rfl rfl ?_
      refine E_bipush (x := nI 99) rfl (by decide) ?_
      refine E_callV (v := some (.int (nI (qPs t 99 (qN t))))) (As := [.ref 65, .int (nI 99)]) (r0 := [.ref 65]) (cs2 := (ww im lf s d k ls rf rz ra rn rq lt m1 m2 m3 m4 bd fc hd sz el t (fUp (fUp (fUp g 43 (nI v)) 44 (nI h0)) 45 (nI m0)) fm hm so si sh ce ca td wa kp la bf oo bo pw ow tr)) rfl rfl rfl (Nat.le_of_ble_eq_true rfl) rfl (ab_rvOf w65 rfl) (mo_piecesOf w_m I (by omega)) (by decide) rfl ?_
      refine E_callV (v := none) (As := [.ref 65, .int (nI (qPs t 99 (qN t)))]) (r0 := []) (cs2 := (ww im lf s d k ls rf rz ra rn rq lt m1 m2 m3 m4 bd fc hd sz el t (fUp (fUp (fUp g 43 (nI v)) 44 (nI h0)) 45 (nI m0)) fm hm so si sh ce ca td wa kp la (lsF (bst t (qPs t 99 (qN t)) (qN t) (2 ^ qN t))) oo bo pw ow tr)) rfl rfl rfl (Nat.le_of_ble_eq_true rfl) rfl (ab_rvOf w65 rfl) (w_best (m := qPs t 99 (qN t)) I (by omega) l_bf) (by decide) w_lens ?_
      refine E_aload_n rfl rfl ?_
      refine E_iload rfl rfl ?_
      have e1 : Ev ab_Z0 1 133 [.ref 65, .int (nI p)] (ww im lf s d k ls rf rz ra rn rq lt m1 m2 m3 m4 bd fc hd sz el t (fUp (fUp (fUp g 43 (nI v)) 44 (nI h0)) 45 (nI m0)) fm hm so si sh ce ca td wa kp la (lsF (bst t (qPs t 99 (qN t)) (qN t) (2 ^ qN t))) oo bo pw ow tr) (some (.int (nI 1)), (ww im lf s d k ls rf rz ra rn rq lt m1 m2 m3 m4 bd fc hd sz el t (fUp (fUp (fUp g 43 (nI v)) 44 (nI h0)) 45 (nI m0)) fm hm so si sh ce ca td wa kp la (lsF (bst t (qPs t 99 (qN t)) (qN t) (2 ^ qN t))) oo bo pw ow tr)) := by
        refine Ef.in (md := mX6_isOne) (L := [some (.ref 65), some (.int (nI p))]) rfl (Nat.le_of_ble_eq_true rfl) rfl ?_
        refine E_iload_n rfl rfl ?_
        refine E_if (t := 16) (b := false) rfl rfl ((cn_lt (nI_toInt (by omega)) (by decide : (0 : Int32).toInt = 0)).trans (decide_eq_false (by omega))) ?_
        refine E_iload_n rfl rfl ?_
        refine E_aload_n rfl rfl ?_
        refine E_getfield (v := .int (nI (qM t))) rfl w65 rfl (by decide) rfl ?_
        refine E_ic (t := 16) (b := false) rfl rfl ((cn_ge (nI_toInt (by omega)) (nI_toInt (by omega))).trans (decide_eq_false (by omega))) ?_
        refine E_iconst (x := nI 1) rfl (by decide) ?_
        refine E_goto (t := 17) rfl rfl ?_
        exact E_iret rfl rfl
      refine E_callV (v := some (.int (nI 1))) (As := [.ref 65, .int (nI p)]) (r0 := []) (cs2 := (ww im lf s d k ls rf rz ra rn rq lt m1 m2 m3 m4 bd fc hd sz el t (fUp (fUp (fUp g 43 (nI v)) 44 (nI h0)) 45 (nI m0)) fm hm so si sh ce ca td wa kp la (lsF (bst t (qPs t 99 (qN t)) (qN t) (2 ^ qN t))) oo bo pw ow tr)) rfl rfl rfl (Nat.le_of_ble_eq_true rfl) rfl (ab_rvOf w65 rfl) e1 (by decide) rfl ?_
      refine E_if (t := 86) (b := false) rfl rfl (by decide) ?_
      refine E_aload_n rfl rfl ?_
      refine E_iload rfl rfl ?_
      refine E_iconst (x := nI 0) rfl (by decide) ?_
      refine E_bipush (x := nI 99) rfl (by decide) ?_
      have e2 : Ev ab_Z0 1 134 [.ref 65, .int (nI u), .int (nI 0), .int (nI 99)] (ww im lf s d k ls rf rz ra rn rq lt m1 m2 m3 m4 bd fc hd sz el t (fUp (fUp (fUp g 43 (nI v)) 44 (nI h0)) 45 (nI m0)) fm hm so si sh ce ca td wa kp la (lsF (bst t (qPs t 99 (qN t)) (qN t) (2 ^ qN t))) oo bo pw ow tr) (some (.int (nI 1)), (ww im lf s d k ls rf rz ra rn rq lt m1 m2 m3 m4 bd fc hd sz el t (fUp (fUp (fUp g 43 (nI v)) 44 (nI h0)) 45 (nI m0)) fm hm so si sh ce ca td wa kp la (lsF (bst t (qPs t 99 (qN t)) (qN t) (2 ^ qN t))) oo bo pw ow tr)) := by
        refine Ef.in (md := mX6_isFrom) (L := [some (.ref 65), some (.int (nI u)), some (.int (nI 0)), some (.int (nI 99))]) rfl (Nat.le_of_ble_eq_true rfl) rfl ?_
        refine E_iload_n rfl rfl ?_
        refine E_iload_n rfl rfl ?_
        refine E_ic (t := 14) (b := false) rfl rfl ((cn_lt (nI_toInt (by omega)) (nI_toInt (by omega))).trans (decide_eq_false (by omega))) ?_
        refine E_iload_n rfl rfl ?_
        refine E_iload_n rfl rfl ?_
        refine E_ic (t := 14) (b := false) rfl rfl ((cn_gt (nI_toInt (by omega)) (nI_toInt (by omega))).trans (decide_eq_false (by omega))) ?_
        refine E_iconst (x := nI 1) rfl (by decide) ?_
        refine E_goto (t := 15) rfl rfl ?_
        exact E_iret rfl rfl
      refine E_callV (v := some (.int (nI 1))) (As := [.ref 65, .int (nI u), .int (nI 0), .int (nI 99)]) (r0 := []) (cs2 := (ww im lf s d k ls rf rz ra rn rq lt m1 m2 m3 m4 bd fc hd sz el t (fUp (fUp (fUp g 43 (nI v)) 44 (nI h0)) 45 (nI m0)) fm hm so si sh ce ca td wa kp la (lsF (bst t (qPs t 99 (qN t)) (qN t) (2 ^ qN t))) oo bo pw ow tr)) rfl rfl rfl (Nat.le_of_ble_eq_true rfl) rfl (ab_rvOf w65 rfl) e2 (by decide) rfl ?_
      refine E_if (t := 86) (b := false) rfl rfl (by decide) ?_
      refine E_aload_n rfl rfl ?_
      refine E_iload rfl rfl ?_
      refine E_iload rfl rfl ?_
      have e5 : Ev ab_Z0 2 176 [.ref 65, .int (nI p), .int (nI u)] (ww im lf s d k ls rf rz ra rn rq lt m1 m2 m3 m4 bd fc hd sz el t (fUp (fUp (fUp g 43 (nI v)) 44 (nI h0)) 45 (nI m0)) fm hm so si sh ce ca td wa kp la (lsF (bst t (qPs t 99 (qN t)) (qN t) (2 ^ qN t))) oo bo pw ow tr) (some (.int (nI B0)), (ww im lf s d k ls rf rz ra rn rq lt m1 m2 m3 m4 bd fc hd sz el t (fUp (fUp (fUp g 43 (nI v)) 44 (nI h0)) 45 (nI m0)) fm hm so si sh ce ca td wa kp la (lsF (bst t (qPs t 99 (qN t)) (qN t) (2 ^ qN t))) oo bo pw ow tr)) := by
        refine Ef.in (md := mX6_thrown) (L := [some (.ref 65), some (.int (nI p)), some (.int (nI u)), none]) rfl (Nat.le_of_ble_eq_true rfl) rfl ?_
        refine E_iload_n rfl rfl ?_
        refine E_aload_n rfl rfl ?_
        refine E_iload_n rfl rfl ?_
        refine E_aload_n rfl rfl ?_
        refine E_getfield (v := .ref 73) rfl w65 rfl (by decide) rfl ?_
        refine E_iload_n rfl rfl ?_
        refine E_ialN (l := qW t) (v := (qW t).getD p 0) rfl w73 (by omega) (by omega) rfl ?_
        refine E_callV (v := some (.int (nI (qPr t p ((qW t).getD p 0))))) (As := [.ref 65, .int (nI p), .int (nI ((qW t).getD p 0))]) (r0 := [.int (nI u)]) (cs2 := (ww im lf s d k ls rf rz ra rn rq lt m1 m2 m3 m4 bd fc hd sz el t (fUp (fUp (fUp g 43 (nI v)) 44 (nI h0)) 45 (nI m0)) fm hm so si sh ce ca td wa kp la (lsF (bst t (qPs t 99 (qN t)) (qN t) (2 ^ qN t))) oo bo pw ow tr)) rfl rfl rfl (Nat.le_of_ble_eq_true rfl) rfl (ab_rvOf w65 rfl) (mo_priceFor w_m I (by omega) (by omega)) (by decide) rfl ?_
        refine E_isub (z := nI (u - (qPr t p ((qW t).getD p 0)))) rfl (pk_sub (by omega)) ?_
        refine E_istore_n (L2 := [some (.ref 65), some (.int (nI p)), some (.int (nI u)), some (.int (nI (u - (qPr t p ((qW t).getD p 0)))))]) rfl rfl ?_
        refine E_aload_n rfl rfl ?_
        refine E_iload_n rfl rfl ?_
        refine E_iconst (x := nI 0) rfl (by decide) ?_
        refine E_bipush (x := nI 99) rfl (by decide) ?_
        have e3 : Ev ab_Z0 1 134 [.ref 65, .int (nI u), .int (nI 0), .int (nI 99)] (ww im lf s d k ls rf rz ra rn rq lt m1 m2 m3 m4 bd fc hd sz el t (fUp (fUp (fUp g 43 (nI v)) 44 (nI h0)) 45 (nI m0)) fm hm so si sh ce ca td wa kp la (lsF (bst t (qPs t 99 (qN t)) (qN t) (2 ^ qN t))) oo bo pw ow tr) (some (.int (nI 1)), (ww im lf s d k ls rf rz ra rn rq lt m1 m2 m3 m4 bd fc hd sz el t (fUp (fUp (fUp g 43 (nI v)) 44 (nI h0)) 45 (nI m0)) fm hm so si sh ce ca td wa kp la (lsF (bst t (qPs t 99 (qN t)) (qN t) (2 ^ qN t))) oo bo pw ow tr)) := by
          refine Ef.in (md := mX6_isFrom) (L := [some (.ref 65), some (.int (nI u)), some (.int (nI 0)), some (.int (nI 99))]) rfl (Nat.le_of_ble_eq_true rfl) rfl ?_
          refine E_iload_n rfl rfl ?_
          refine E_iload_n rfl rfl ?_
          refine E_ic (t := 14) (b := false) rfl rfl ((cn_lt (nI_toInt (by omega)) (nI_toInt (by omega))).trans (decide_eq_false (by omega))) ?_
          refine E_iload_n rfl rfl ?_
          refine E_iload_n rfl rfl ?_
          refine E_ic (t := 14) (b := false) rfl rfl ((cn_gt (nI_toInt (by omega)) (nI_toInt (by omega))).trans (decide_eq_false (by omega))) ?_
          refine E_iconst (x := nI 1) rfl (by decide) ?_
          refine E_goto (t := 15) rfl rfl ?_
          exact E_iret rfl rfl
        refine E_callV (v := some (.int (nI 1))) (As := [.ref 65, .int (nI u), .int (nI 0), .int (nI 99)]) (r0 := []) (cs2 := (ww im lf s d k ls rf rz ra rn rq lt m1 m2 m3 m4 bd fc hd sz el t (fUp (fUp (fUp g 43 (nI v)) 44 (nI h0)) 45 (nI m0)) fm hm so si sh ce ca td wa kp la (lsF (bst t (qPs t 99 (qN t)) (qN t) (2 ^ qN t))) oo bo pw ow tr)) rfl rfl rfl (Nat.le_of_ble_eq_true rfl) rfl (ab_rvOf w65 rfl) e3 (by decide) rfl ?_
        refine E_if (t := 39) (b := false) rfl rfl (by decide) ?_
        refine E_iload_n rfl rfl ?_
        refine E_aload_n rfl rfl ?_
        refine E_getfield (v := .ref 71) rfl w65 rfl (by decide) rfl ?_
        refine E_iload_n rfl rfl ?_
        refine E_ialN (l := qU t) (v := (qU t).getD p 0) rfl w71 (by omega) (by omega) rfl ?_
        refine E_ic (t := 39) (b := false) rfl rfl ((cn_gt (nI_toInt (by omega)) (nI_toInt (by omega))).trans (decide_eq_false (by omega))) ?_
        refine E_iload_n rfl rfl ?_
        refine E_if (t := 43) (b := true) rfl rfl ((cn_ge (nI_toInt (by omega)) (by decide : (0 : Int32).toInt = 0)).trans (decide_eq_true (by omega))) ?_
        refine E_aload_n rfl rfl ?_
        refine E_iload_n rfl rfl ?_
        have e4 : Ev ab_Z0 1 172 [.ref 65, .int (nI (u - (qPr t p ((qW t).getD p 0))))] (ww im lf s d k ls rf rz ra rn rq lt m1 m2 m3 m4 bd fc hd sz el t (fUp (fUp (fUp g 43 (nI v)) 44 (nI h0)) 45 (nI m0)) fm hm so si sh ce ca td wa kp la (lsF (bst t (qPs t 99 (qN t)) (qN t) (2 ^ qN t))) oo bo pw ow tr) (some (.int (nI B0)), (ww im lf s d k ls rf rz ra rn rq lt m1 m2 m3 m4 bd fc hd sz el t (fUp (fUp (fUp g 43 (nI v)) 44 (nI h0)) 45 (nI m0)) fm hm so si sh ce ca td wa kp la (lsF (bst t (qPs t 99 (qN t)) (qN t) (2 ^ qN t))) oo bo pw ow tr)) := by
          refine Ef.in (md := mX6_changeFor) (L := [some (.ref 65), some (.int (nI (u - (qPr t p ((qW t).getD p 0)))))]) rfl (Nat.le_of_ble_eq_true rfl) rfl ?_
          refine E_aload_n rfl rfl ?_
          refine E_getfield (v := .int (qR t)) rfl w65 rfl (by decide) rfl ?_
          refine E_if (t := 16) (b := false) rfl rfl ((cn_ne rfl (by decide : (0 : Int32).toInt = 0)).trans (decide_eq_false (by omega))) ?_
          refine E_aload_n rfl rfl ?_
          refine E_getfield (v := .ref 89) rfl w65 rfl (by decide) rfl ?_
          refine E_iload_n rfl rfl ?_
          refine E_ialI (l := (lsF (bst t (qPs t 99 (qN t)) (qN t) (2 ^ qN t)))) (v := nI B0) rfl w89 (by omega) (by omega) (by rw [lsF_get (by omega), hb0]; rfl) ?_
          refine E_goto (t := 21) rfl rfl ?_
          exact E_iret rfl rfl
        refine E_callV (v := some (.int (nI B0))) (As := [.ref 65, .int (nI (u - (qPr t p ((qW t).getD p 0))))]) (r0 := []) (cs2 := (ww im lf s d k ls rf rz ra rn rq lt m1 m2 m3 m4 bd fc hd sz el t (fUp (fUp (fUp g 43 (nI v)) 44 (nI h0)) 45 (nI m0)) fm hm so si sh ce ca td wa kp la (lsF (bst t (qPs t 99 (qN t)) (qN t) (2 ^ qN t))) oo bo pw ow tr)) rfl rfl rfl (Nat.le_of_ble_eq_true rfl) rfl (ab_rvOf w65 rfl) e4 (by decide) rfl ?_
        exact E_iret rfl rfl
      refine E_callV (v := some (.int (nI B0))) (As := [.ref 65, .int (nI p), .int (nI u)]) (r0 := []) (cs2 := (ww im lf s d k ls rf rz ra rn rq lt m1 m2 m3 m4 bd fc hd sz el t (fUp (fUp (fUp g 43 (nI v)) 44 (nI h0)) 45 (nI m0)) fm hm so si sh ce ca td wa kp la (lsF (bst t (qPs t 99 (qN t)) (qN t) (2 ^ qN t))) oo bo pw ow tr)) rfl rfl rfl (Nat.le_of_ble_eq_true rfl) rfl (ab_rvOf w65 rfl) e5 (by decide) rfl ?_
      refine E_goto (t := 87) rfl rfl ?_
      refine E_istore (L2 := [some (.ref 65), some (.int (nI j)), some (.int (nI n)), some (.int (nI v)), some (.int (nI p)), some (.int (nI u)), some (.int (nI B0))]) rfl rfl ?_
      refine E_iload rfl rfl ?_
      refine E_iconst (x := (-1)) rfl (by decide) ?_
      refine E_ic (t := 97) (b := true) rfl rfl ((cn_ne (nI_toInt (by omega)) (by decide : (-1 : Int32).toInt = -1)).trans (decide_eq_true (by omega))) ?_
      refine E_aload_n rfl rfl ?_
      refine E_dup rfl rfl ?_
      refine E_getfield (v := .int (nI v)) rfl w65 rfl (by decide) rfl ?_
      refine E_iconst (x := nI 1) rfl (by decide) ?_
      refine E_iadd (z := nI (v + 1)) rfl (nI_add _ _) ?_
      refine E_putfield (cs2 := (ww im lf s d k ls rf rz ra rn rq lt m1 m2 m3 m4 bd fc hd sz el t (fUp (fUp (fUp (fUp g 43 (nI v)) 44 (nI h0)) 45 (nI m0)) 43 (nI (v + 1))) fm hm so si sh ce ca td wa kp la (lsF (bst t (qPs t 99 (qN t)) (qN t) (2 ^ qN t))) oo bo pw ow tr)) rfl w65 rfl (by decide) (Nat.le_of_ble_eq_true rfl) rfl rfl rfl w_pt65_43 ?_
      refine E_aload_n rfl rfl ?_
      refine E_dup rfl rfl ?_
      refine E_getfield (v := .int (nI h0)) rfl w65 rfl (by decide) rfl ?_
      refine E_aload_n rfl rfl ?_
      refine E_iload rfl rfl ?_
      refine E_callV (v := some (.int (nI (qHs t B0 (qN t))))) (As := [.ref 65, .int (nI B0)]) (r0 := [.int (nI h0), .ref 65]) (cs2 := (ww im lf s d k ls rf rz ra rn rq lt m1 m2 m3 m4 bd fc hd sz el t (fUp (fUp (fUp (fUp g 43 (nI v)) 44 (nI h0)) 45 (nI m0)) 43 (nI (v + 1))) fm hm so si sh ce ca td wa kp la (lsF (bst t (qPs t 99 (qN t)) (qN t) (2 ^ qN t))) oo bo pw ow tr)) rfl rfl rfl (Nat.le_of_ble_eq_true rfl) rfl (ab_rvOf w65 rfl) (mo_harmOf w_m I (by omega)) (by decide) rfl ?_
      refine E_iadd (z := nI (h0 + (qHs t B0 (qN t)))) rfl (nI_add _ _) ?_
      refine E_putfield (cs2 := (ww im lf s d k ls rf rz ra rn rq lt m1 m2 m3 m4 bd fc hd sz el t (fUp (fUp (fUp (fUp (fUp g 43 (nI v)) 44 (nI h0)) 45 (nI m0)) 43 (nI (v + 1))) 44 (nI (h0 + (qHs t B0 (qN t))))) fm hm so si sh ce ca td wa kp la (lsF (bst t (qPs t 99 (qN t)) (qN t) (2 ^ qN t))) oo bo pw ow tr)) rfl w65 rfl (by decide) (Nat.le_of_ble_eq_true rfl) rfl rfl rfl w_pt65_44 ?_
      refine E_aload_n rfl rfl ?_
      refine E_dup rfl rfl ?_
      refine E_getfield (v := .int (nI m0)) rfl w65 rfl (by decide) rfl ?_
      refine E_iload rfl rfl ?_
      refine E_iadd (z := nI (m0 + u)) rfl (nI_add _ _) ?_
      refine E_putfield (cs2 := (ww im lf s d k ls rf rz ra rn rq lt m1 m2 m3 m4 bd fc hd sz el t (fUp (fUp (fUp (fUp (fUp (fUp g 43 (nI v)) 44 (nI h0)) 45 (nI m0)) 43 (nI (v + 1))) 44 (nI (h0 + (qHs t B0 (qN t))))) 45 (nI (m0 + u))) fm hm so si sh ce ca td wa kp la (lsF (bst t (qPs t 99 (qN t)) (qN t) (2 ^ qN t))) oo bo pw ow tr)) rfl w65 rfl (by decide) (Nat.le_of_ble_eq_true rfl) rfl rfl rfl w_pt65_45 ?_
      refine E_aload_n rfl rfl ?_
      refine E_iload rfl rfl ?_
      refine E_iload rfl rfl ?_
      refine E_iload rfl rfl ?_
      have e6 : Ev ab_Z0 1 183 [.ref 65, .int (nI p), .int (nI u), .int (nI B0)] (ww im lf s d k ls rf rz ra rn rq lt m1 m2 m3 m4 bd fc hd sz el t (fUp (fUp (fUp (fUp (fUp (fUp g 43 (nI v)) 44 (nI h0)) 45 (nI m0)) 43 (nI (v + 1))) 44 (nI (h0 + (qHs t B0 (qN t))))) 45 (nI (m0 + u))) fm hm so si sh ce ca td wa kp la (lsF (bst t (qPs t 99 (qN t)) (qN t) (2 ^ qN t))) oo bo pw ow tr) (none, (ww im lf s d k ls rf rz ra rn rq lt m1 m2 m3 m4 bd fc hd sz el (qs_P (qs_Y (qs_G (qs_U t ((qU t).set p (((qU t).getD p 0) - u))) ((qG t).set p (((qG t).getD p 0) + (nI 1)))) ((qY t) + (nI u))) (qGP (qP t) p B0 (qN t))) (fUp (fUp (fUp (fUp (fUp (fUp g 43 (nI v)) 44 (nI h0)) 45 (nI m0)) 43 (nI (v + 1))) 44 (nI (h0 + (qHs t B0 (qN t))))) 45 (nI (m0 + u))) fm hm so si sh ce ca td wa kp la (lsF (bst t (qPs t 99 (qN t)) (qN t) (2 ^ qN t))) oo bo pw ow tr)) := by
        refine Ef.in (md := mX6_throwsIn) (L := [some (.ref 65), some (.int (nI p)), some (.int (nI u)), some (.int (nI B0)), none]) rfl (Nat.le_of_ble_eq_true rfl) rfl ?_
        refine E_aload_n rfl rfl ?_
        refine E_getfield (v := .ref 71) rfl w65 rfl (by decide) rfl ?_
        refine E_iload_n rfl rfl ?_
        refine E_dup2 rfl ⟨rfl, rfl⟩ ?_
        refine E_ialN (l := qU t) (v := (qU t).getD p 0) rfl w71 (by omega) (by omega) rfl ?_
        refine E_iload_n rfl rfl ?_
        refine E_isub (z := nI (((qU t).getD p 0) - u)) rfl (pk_sub (by omega)) ?_
        refine E_iasN (l := qU t) (cs2 := (ww im lf s d k ls rf rz ra rn rq lt m1 m2 m3 m4 bd fc hd sz el (qs_U t ((qU t).set p (((qU t).getD p 0) - u))) (fUp (fUp (fUp (fUp (fUp (fUp g 43 (nI v)) 44 (nI h0)) 45 (nI m0)) 43 (nI (v + 1))) 44 (nI (h0 + (qHs t B0 (qN t))))) 45 (nI (m0 + u))) fm hm so si sh ce ca td wa kp la (lsF (bst t (qPs t 99 (qN t)) (qN t) (2 ^ qN t))) oo bo pw ow tr)) rfl w71 (by omega) (by omega) w_pt65_U ?_
        refine E_aload_n rfl rfl ?_
        refine E_getfield (v := .ref 74) rfl w65 rfl (by decide) rfl ?_
        refine E_iload_n rfl rfl ?_
        refine E_dup2 rfl ⟨rfl, rfl⟩ ?_
        refine E_ialI (l := qG t) (v := (qG t).getD p 0) rfl (w74v qg_GU) (by omega) (by omega) rfl ?_
        refine E_iconst (x := nI 1) rfl (by decide) ?_
        refine E_iadd (z := ((qG t).getD p 0) + (nI 1)) rfl rfl ?_
        refine E_iasI (l := qG t) (cs2 := (ww im lf s d k ls rf rz ra rn rq lt m1 m2 m3 m4 bd fc hd sz el (qs_G (qs_U t ((qU t).set p (((qU t).getD p 0) - u))) ((qG t).set p (((qG t).getD p 0) + (nI 1)))) (fUp (fUp (fUp (fUp (fUp (fUp g 43 (nI v)) 44 (nI h0)) 45 (nI m0)) 43 (nI (v + 1))) 44 (nI (h0 + (qHs t B0 (qN t))))) 45 (nI (m0 + u))) fm hm so si sh ce ca td wa kp la (lsF (bst t (qPs t 99 (qN t)) (qN t) (2 ^ qN t))) oo bo pw ow tr)) rfl (w74v qg_GU) (by omega) (by omega) w_pt65_G ?_
        refine E_aload_n rfl rfl ?_
        refine E_dup rfl rfl ?_
        refine E_getfield (v := .int (qY t)) rfl w65 rfl (by decide) (congrArg (fun z => some (Value.int z)) (qg_YG.trans qg_YU)) ?_
        refine E_iload_n rfl rfl ?_
        refine E_iadd (z := (qY t) + (nI u)) rfl rfl ?_
        refine E_putfield (cs2 := (ww im lf s d k ls rf rz ra rn rq lt m1 m2 m3 m4 bd fc hd sz el (qs_Y (qs_G (qs_U t ((qU t).set p (((qU t).getD p 0) - u))) ((qG t).set p (((qG t).getD p 0) + (nI 1)))) ((qY t) + (nI u))) (fUp (fUp (fUp (fUp (fUp (fUp g 43 (nI v)) 44 (nI h0)) 45 (nI m0)) 43 (nI (v + 1))) 44 (nI (h0 + (qHs t B0 (qN t))))) 45 (nI (m0 + u))) fm hm so si sh ce ca td wa kp la (lsF (bst t (qPs t 99 (qN t)) (qN t) (2 ^ qN t))) oo bo pw ow tr)) rfl w65 rfl (by decide) (Nat.le_of_ble_eq_true rfl) rfl rfl rfl w_pt65_Y ?_
        refine E_iconst (x := nI 0) rfl (by decide) ?_
        refine E_istore (L2 := [some (.ref 65), some (.int (nI p)), some (.int (nI u)), some (.int (nI B0)), some (.int (nI 0))]) rfl rfl ?_
        exact grant_s65 (t := (qs_Y (qs_G (qs_U t ((qU t).set p (((qU t).getD p 0) - u))) ((qG t).set p (((qG t).getD p 0) + (nI 1)))) ((qY t) + (nI u)))) (p := p) (n := u) (m := B0) (l := qP t) (n1 := qN t) ((congrArg (qs_P _) (Eq.symm (qg_PY.trans (qg_PG.trans qg_PU)))).trans qs_Pself) (qg_NY.trans (qg_NG.trans qg_NU)) (by omega) (I).1.2.2.2 (by omega) (by omega)
      refine E_callV (v := none) (As := [.ref 65, .int (nI p), .int (nI u), .int (nI B0)]) (r0 := []) (cs2 := (ww im lf s d k ls rf rz ra rn rq lt m1 m2 m3 m4 bd fc hd sz el (qs_P (qs_Y (qs_G (qs_U t ((qU t).set p (((qU t).getD p 0) - u))) ((qG t).set p (((qG t).getD p 0) + (nI 1)))) ((qY t) + (nI u))) (qGP (qP t) p B0 (qN t))) (fUp (fUp (fUp (fUp (fUp (fUp g 43 (nI v)) 44 (nI h0)) 45 (nI m0)) 43 (nI (v + 1))) 44 (nI (h0 + (qHs t B0 (qN t))))) 45 (nI (m0 + u))) fm hm so si sh ce ca td wa kp la (lsF (bst t (qPs t 99 (qN t)) (qN t) (2 ^ qN t))) oo bo pw ow tr)) rfl rfl rfl (Nat.le_of_ble_eq_true rfl) rfl (ab_rvOf w65 rfl) e6 (by decide) w_lens ?_
      refine E_iinc (y := nI (v + 1)) (L2 := [some (.ref 65), some (.int (nI j)), some (.int (nI n)), some (.int (nI (v + 1))), some (.int (nI p)), some (.int (nI u)), some (.int (nI B0))]) rfl rfl (nI_1 _) rfl ?_
      refine E_goto (t := 17) rfl rfl ?_
      rw [g3_up]
      unfold grQ at K
      exact K (some (.int (nI p))) (some (.int (nI u))) (some (.int (nI B0)))
  · rcases hg0 : qGreedy t (u - (qPr t p ((qW t).getD p 0))) with _ | gj0
    · have er2 : (qR t).toInt = 1 := by rw [er]; rfl
      have := qPs_in t 99 (i := qN t) (by omega)
      have : (qW t).length = 6 := by first | omega | (simp only [List.length_set]; omega)
      have := qPr_in I p (w := ((qW t).getD p 0)) (by omega)
      have : (qU t).length = 6 := by first | omega | (simp only [List.length_set]; omega)
      have hc1 : qGreedy t (u - qPr t p ((qW t).getD p 0)) = b + 1 := by unfold chg at hc; rwa [if_neg (by rw [er]; decide)] at hc
      exfalso
      omega
    · have er2 : (qR t).toInt = 1 := by rw [er]; rfl
      have := qPs_in t 99 (i := qN t) (by omega)
      have : (qW t).length = 6 := by first | omega | (simp only [List.length_set]; omega)
      have := qPr_in I p (w := ((qW t).getD p 0)) (by omega)
      have : (qU t).length = 6 := by first | omega | (simp only [List.length_set]; omega)
      have hh0 : gj0 + 1 ≤ 512 := hg0 ▸ qGr_512 I (u - (qPr t p ((qW t).getD p 0)))
      have : (qG t).length = 6 := by first | omega | (simp only [List.length_set]; omega)
      have hc1 : qGreedy t (u - qPr t p ((qW t).getD p 0)) = b + 1 := by unfold chg at hc; rwa [if_neg (by rw [er]; decide)] at hc
      obtain rfl : gj0 = b := by omega
      refine ⟨(lsF (bst t (qPs t 99 (qN t)) (qN t) (2 ^ qN t))), (lsF_len _), fun r K x4 x5 x6 => ?_⟩
      refine E_iload_n rfl rfl ?_
      refine E_iload_n rfl rfl ?_
      refine E_ic (t := 149) (b := false) rfl rfl ((cn_ge (nI_toInt (by omega)) (nI_toInt (by omega))).trans (decide_eq_false (by omega))) ?_
      refine E_aload_n rfl rfl ?_
      refine E_iload_n rfl rfl ?_
      refine E_iconst (x := nI 2) rfl (by decide) ?_
      refine E_iload_n rfl rfl ?_
      refine E_imul (z := nI (2 * v)) rfl (pk_mul _ _) ?_
      refine E_callV (v := some (.int (nI p))) (As := [.ref 65, .int (nI j), .int (nI (2 * v))]) (r0 := []) (cs2 := (ww im lf s d k ls rf rz ra rn rq lt m1 m2 m3 m4 bd fc hd sz el t (fUp (fUp (fUp g 43 (nI v)) 44 (nI h0)) 45 (nI m0)) fm hm so si sh ce ca td wa kp la bf oo bo pw ow tr)) rfl rfl rfl (Nat.le_of_ble_eq_true rfl) rfl (ab_rvOf w65 rfl) (Ev.vi ec (m_intAt (q := 2 * v) hj (by omega) l_ce hce)) (by decide) rfl ?_
      refine E_istore (L2 := [some (.ref 65), some (.int (nI j)), some (.int (nI n)), some (.int (nI v)), some (.int (nI p)), x5, x6]) rfl rfl ?_
      refine E_aload_n rfl rfl ?_
      refine E_iload_n rfl rfl ?_
      refine E_iconst (x := nI 2) rfl (by decide) ?_
      refine E_iload_n rfl rfl ?_
      refine E_imul (z := nI (2 * v)) rfl (pk_mul _ _) ?_
      refine E_iconst (x := nI 1) rfl (by decide) ?_
      refine E_iadd (z := nI ((2 * v) + 1)) rfl (nI_add _ _) ?_
      refine E_callV (v := some (.int (nI u))) (As := [.ref 65, .int (nI j), .int (nI ((2 * v) + 1))]) (r0 := []) (cs2 := (ww im lf s d k ls rf rz ra rn rq lt m1 m2 m3 m4 bd fc hd sz el t (fUp (fUp (fUp g 43 (nI v)) 44 (nI h0)) 45 (nI m0)) fm hm so si sh ce ca td wa kp la bf oo bo pw ow tr)) rfl rfl rfl (Nat.le_of_ble_eq_true rfl) rfl (ab_rvOf w65 rfl) (Ev.vi eu (m_intAt (q := (2 * v) + 1) hj (by omega) l_ce hce)) (by decide) rfl ?_
      refine E_istore (L2 := [some (.ref 65), some (.int (nI j)), some (.int (nI n)), some (.int (nI v)), some (.int (nI p)), some (.int (nI u)), x6]) rfl rfl ?_
      refine E_aload_n rfl rfl ?_
      refine E_aload_n rfl rfl ?_
      refine E_bipush (x := nI 99) rfl (by decide) ?_
      refine E_callV (v := some (.int (nI (qPs t 99 (qN t))))) (As := [.ref 65, .int (nI 99)]) (r0 := [.ref 65]) (cs2 := (ww im lf s d k ls rf rz ra rn rq lt m1 m2 m3 m4 bd fc hd sz el t (fUp (fUp (fUp g 43 (nI v)) 44 (nI h0)) 45 (nI m0)) fm hm so si sh ce ca td wa kp la bf oo bo pw ow tr)) rfl rfl rfl (Nat.le_of_ble_eq_true rfl) rfl (ab_rvOf w65 rfl) (mo_piecesOf w_m I (by omega)) (by decide) rfl ?_
      refine E_callV (v := none) (As := [.ref 65, .int (nI (qPs t 99 (qN t)))]) (r0 := []) (cs2 := (ww im lf s d k ls rf rz ra rn rq lt m1 m2 m3 m4 bd fc hd sz el t (fUp (fUp (fUp g 43 (nI v)) 44 (nI h0)) 45 (nI m0)) fm hm so si sh ce ca td wa kp la (lsF (bst t (qPs t 99 (qN t)) (qN t) (2 ^ qN t))) oo bo pw ow tr)) rfl rfl rfl (Nat.le_of_ble_eq_true rfl) rfl (ab_rvOf w65 rfl) (w_best (m := qPs t 99 (qN t)) I (by omega) l_bf) (by decide) w_lens ?_
      refine E_aload_n rfl rfl ?_
      refine E_iload rfl rfl ?_
      have e1 : Ev ab_Z0 1 133 [.ref 65, .int (nI p)] (ww im lf s d k ls rf rz ra rn rq lt m1 m2 m3 m4 bd fc hd sz el t (fUp (fUp (fUp g 43 (nI v)) 44 (nI h0)) 45 (nI m0)) fm hm so si sh ce ca td wa kp la (lsF (bst t (qPs t 99 (qN t)) (qN t) (2 ^ qN t))) oo bo pw ow tr) (some (.int (nI 1)), (ww im lf s d k ls rf rz ra rn rq lt m1 m2 m3 m4 bd fc hd sz el t (fUp (fUp (fUp g 43 (nI v)) 44 (nI h0)) 45 (nI m0)) fm hm so si sh ce ca td wa kp la (lsF (bst t (qPs t 99 (qN t)) (qN t) (2 ^ qN t))) oo bo pw ow tr)) := by
        refine Ef.in (md := mX6_isOne) (L := [some (.ref 65), some (.int (nI p))]) rfl (Nat.le_of_ble_eq_true rfl) rfl ?_
        refine E_iload_n rfl rfl ?_
        refine E_if (t := 16) (b := false) rfl rfl ((cn_lt (nI_toInt (by omega)) (by decide : (0 : Int32).toInt = 0)).trans (decide_eq_false (by omega))) ?_
        refine E_iload_n rfl rfl ?_
        refine E_aload_n rfl rfl ?_
        refine E_getfield (v := .int (nI (qM t))) rfl w65 rfl (by decide) rfl ?_
        refine E_ic (t := 16) (b := false) rfl rfl ((cn_ge (nI_toInt (by omega)) (nI_toInt (by omega))).trans (decide_eq_false (by omega))) ?_
        refine E_iconst (x := nI 1) rfl (by decide) ?_
        refine E_goto (t := 17) rfl rfl ?_
        exact E_iret rfl rfl
      refine E_callV (v := some (.int (nI 1))) (As := [.ref 65, .int (nI p)]) (r0 := []) (cs2 := (ww im lf s d k ls rf rz ra rn rq lt m1 m2 m3 m4 bd fc hd sz el t (fUp (fUp (fUp g 43 (nI v)) 44 (nI h0)) 45 (nI m0)) fm hm so si sh ce ca td wa kp la (lsF (bst t (qPs t 99 (qN t)) (qN t) (2 ^ qN t))) oo bo pw ow tr)) rfl rfl rfl (Nat.le_of_ble_eq_true rfl) rfl (ab_rvOf w65 rfl) e1 (by decide) rfl ?_
      refine E_if (t := 86) (b := false) rfl rfl (by decide) ?_
      refine E_aload_n rfl rfl ?_
      refine E_iload rfl rfl ?_
      refine E_iconst (x := nI 0) rfl (by decide) ?_
      refine E_bipush (x := nI 99) rfl (by decide) ?_
      have e2 : Ev ab_Z0 1 134 [.ref 65, .int (nI u), .int (nI 0), .int (nI 99)] (ww im lf s d k ls rf rz ra rn rq lt m1 m2 m3 m4 bd fc hd sz el t (fUp (fUp (fUp g 43 (nI v)) 44 (nI h0)) 45 (nI m0)) fm hm so si sh ce ca td wa kp la (lsF (bst t (qPs t 99 (qN t)) (qN t) (2 ^ qN t))) oo bo pw ow tr) (some (.int (nI 1)), (ww im lf s d k ls rf rz ra rn rq lt m1 m2 m3 m4 bd fc hd sz el t (fUp (fUp (fUp g 43 (nI v)) 44 (nI h0)) 45 (nI m0)) fm hm so si sh ce ca td wa kp la (lsF (bst t (qPs t 99 (qN t)) (qN t) (2 ^ qN t))) oo bo pw ow tr)) := by
        refine Ef.in (md := mX6_isFrom) (L := [some (.ref 65), some (.int (nI u)), some (.int (nI 0)), some (.int (nI 99))]) rfl (Nat.le_of_ble_eq_true rfl) rfl ?_
        refine E_iload_n rfl rfl ?_
        refine E_iload_n rfl rfl ?_
        refine E_ic (t := 14) (b := false) rfl rfl ((cn_lt (nI_toInt (by omega)) (nI_toInt (by omega))).trans (decide_eq_false (by omega))) ?_
        refine E_iload_n rfl rfl ?_
        refine E_iload_n rfl rfl ?_
        refine E_ic (t := 14) (b := false) rfl rfl ((cn_gt (nI_toInt (by omega)) (nI_toInt (by omega))).trans (decide_eq_false (by omega))) ?_
        refine E_iconst (x := nI 1) rfl (by decide) ?_
        refine E_goto (t := 15) rfl rfl ?_
        exact E_iret rfl rfl
      refine E_callV (v := some (.int (nI 1))) (As := [.ref 65, .int (nI u), .int (nI 0), .int (nI 99)]) (r0 := []) (cs2 := (ww im lf s d k ls rf rz ra rn rq lt m1 m2 m3 m4 bd fc hd sz el t (fUp (fUp (fUp g 43 (nI v)) 44 (nI h0)) 45 (nI m0)) fm hm so si sh ce ca td wa kp la (lsF (bst t (qPs t 99 (qN t)) (qN t) (2 ^ qN t))) oo bo pw ow tr)) rfl rfl rfl (Nat.le_of_ble_eq_true rfl) rfl (ab_rvOf w65 rfl) e2 (by decide) rfl ?_
      refine E_if (t := 86) (b := false) rfl rfl (by decide) ?_
      refine E_aload_n rfl rfl ?_
      refine E_iload rfl rfl ?_
      refine E_iload rfl rfl ?_
      have e5 : Ev ab_Z0 4 176 [.ref 65, .int (nI p), .int (nI u)] (ww im lf s d k ls rf rz ra rn rq lt m1 m2 m3 m4 bd fc hd sz el t (fUp (fUp (fUp g 43 (nI v)) 44 (nI h0)) 45 (nI m0)) fm hm so si sh ce ca td wa kp la (lsF (bst t (qPs t 99 (qN t)) (qN t) (2 ^ qN t))) oo bo pw ow tr) (some (.int (nI gj0)), (ww im lf s d k ls rf rz ra rn rq lt m1 m2 m3 m4 bd fc hd sz el t (fUp (fUp (fUp g 43 (nI v)) 44 (nI h0)) 45 (nI m0)) fm hm so si sh ce ca td wa kp la (lsF (bst t (qPs t 99 (qN t)) (qN t) (2 ^ qN t))) oo bo pw ow tr)) := by
        refine Ef.in (md := mX6_thrown) (L := [some (.ref 65), some (.int (nI p)), some (.int (nI u)), none]) rfl (Nat.le_of_ble_eq_true rfl) rfl ?_
        refine E_iload_n rfl rfl ?_
        refine E_aload_n rfl rfl ?_
        refine E_iload_n rfl rfl ?_
        refine E_aload_n rfl rfl ?_
        refine E_getfield (v := .ref 73) rfl w65 rfl (by decide) rfl ?_
        refine E_iload_n rfl rfl ?_
        refine E_ialN (l := qW t) (v := (qW t).getD p 0) rfl w73 (by omega) (by omega) rfl ?_
        refine E_callV (v := some (.int (nI (qPr t p ((qW t).getD p 0))))) (As := [.ref 65, .int (nI p), .int (nI ((qW t).getD p 0))]) (r0 := [.int (nI u)]) (cs2 := (ww im lf s d k ls rf rz ra rn rq lt m1 m2 m3 m4 bd fc hd sz el t (fUp (fUp (fUp g 43 (nI v)) 44 (nI h0)) 45 (nI m0)) fm hm so si sh ce ca td wa kp la (lsF (bst t (qPs t 99 (qN t)) (qN t) (2 ^ qN t))) oo bo pw ow tr)) rfl rfl rfl (Nat.le_of_ble_eq_true rfl) rfl (ab_rvOf w65 rfl) (mo_priceFor w_m I (by omega) (by omega)) (by decide) rfl ?_
        refine E_isub (z := nI (u - (qPr t p ((qW t).getD p 0)))) rfl (pk_sub (by omega)) ?_
        refine E_istore_n (L2 := [some (.ref 65), some (.int (nI p)), some (.int (nI u)), some (.int (nI (u - (qPr t p ((qW t).getD p 0)))))]) rfl rfl ?_
        refine E_aload_n rfl rfl ?_
        refine E_iload_n rfl rfl ?_
        refine E_iconst (x := nI 0) rfl (by decide) ?_
        refine E_bipush (x := nI 99) rfl (by decide) ?_
        have e3 : Ev ab_Z0 1 134 [.ref 65, .int (nI u), .int (nI 0), .int (nI 99)] (ww im lf s d k ls rf rz ra rn rq lt m1 m2 m3 m4 bd fc hd sz el t (fUp (fUp (fUp g 43 (nI v)) 44 (nI h0)) 45 (nI m0)) fm hm so si sh ce ca td wa kp la (lsF (bst t (qPs t 99 (qN t)) (qN t) (2 ^ qN t))) oo bo pw ow tr) (some (.int (nI 1)), (ww im lf s d k ls rf rz ra rn rq lt m1 m2 m3 m4 bd fc hd sz el t (fUp (fUp (fUp g 43 (nI v)) 44 (nI h0)) 45 (nI m0)) fm hm so si sh ce ca td wa kp la (lsF (bst t (qPs t 99 (qN t)) (qN t) (2 ^ qN t))) oo bo pw ow tr)) := by
          refine Ef.in (md := mX6_isFrom) (L := [some (.ref 65), some (.int (nI u)), some (.int (nI 0)), some (.int (nI 99))]) rfl (Nat.le_of_ble_eq_true rfl) rfl ?_
          refine E_iload_n rfl rfl ?_
          refine E_iload_n rfl rfl ?_
          refine E_ic (t := 14) (b := false) rfl rfl ((cn_lt (nI_toInt (by omega)) (nI_toInt (by omega))).trans (decide_eq_false (by omega))) ?_
          refine E_iload_n rfl rfl ?_
          refine E_iload_n rfl rfl ?_
          refine E_ic (t := 14) (b := false) rfl rfl ((cn_gt (nI_toInt (by omega)) (nI_toInt (by omega))).trans (decide_eq_false (by omega))) ?_
          refine E_iconst (x := nI 1) rfl (by decide) ?_
          refine E_goto (t := 15) rfl rfl ?_
          exact E_iret rfl rfl
        refine E_callV (v := some (.int (nI 1))) (As := [.ref 65, .int (nI u), .int (nI 0), .int (nI 99)]) (r0 := []) (cs2 := (ww im lf s d k ls rf rz ra rn rq lt m1 m2 m3 m4 bd fc hd sz el t (fUp (fUp (fUp g 43 (nI v)) 44 (nI h0)) 45 (nI m0)) fm hm so si sh ce ca td wa kp la (lsF (bst t (qPs t 99 (qN t)) (qN t) (2 ^ qN t))) oo bo pw ow tr)) rfl rfl rfl (Nat.le_of_ble_eq_true rfl) rfl (ab_rvOf w65 rfl) e3 (by decide) rfl ?_
        refine E_if (t := 39) (b := false) rfl rfl (by decide) ?_
        refine E_iload_n rfl rfl ?_
        refine E_aload_n rfl rfl ?_
        refine E_getfield (v := .ref 71) rfl w65 rfl (by decide) rfl ?_
        refine E_iload_n rfl rfl ?_
        refine E_ialN (l := qU t) (v := (qU t).getD p 0) rfl w71 (by omega) (by omega) rfl ?_
        refine E_ic (t := 39) (b := false) rfl rfl ((cn_gt (nI_toInt (by omega)) (nI_toInt (by omega))).trans (decide_eq_false (by omega))) ?_
        refine E_iload_n rfl rfl ?_
        refine E_if (t := 43) (b := true) rfl rfl ((cn_ge (nI_toInt (by omega)) (by decide : (0 : Int32).toInt = 0)).trans (decide_eq_true (by omega))) ?_
        refine E_aload_n rfl rfl ?_
        refine E_iload_n rfl rfl ?_
        have e4 : Ev ab_Z0 3 172 [.ref 65, .int (nI (u - (qPr t p ((qW t).getD p 0))))] (ww im lf s d k ls rf rz ra rn rq lt m1 m2 m3 m4 bd fc hd sz el t (fUp (fUp (fUp g 43 (nI v)) 44 (nI h0)) 45 (nI m0)) fm hm so si sh ce ca td wa kp la (lsF (bst t (qPs t 99 (qN t)) (qN t) (2 ^ qN t))) oo bo pw ow tr) (some (.int (nI gj0)), (ww im lf s d k ls rf rz ra rn rq lt m1 m2 m3 m4 bd fc hd sz el t (fUp (fUp (fUp g 43 (nI v)) 44 (nI h0)) 45 (nI m0)) fm hm so si sh ce ca td wa kp la (lsF (bst t (qPs t 99 (qN t)) (qN t) (2 ^ qN t))) oo bo pw ow tr)) := by
          refine Ef.in (md := mX6_changeFor) (L := [some (.ref 65), some (.int (nI (u - (qPr t p ((qW t).getD p 0)))))]) rfl (Nat.le_of_ble_eq_true rfl) rfl ?_
          refine E_aload_n rfl rfl ?_
          refine E_getfield (v := .int (qR t)) rfl w65 rfl (by decide) rfl ?_
          refine E_if (t := 16) (b := true) rfl rfl ((cn_ne rfl (by decide : (0 : Int32).toInt = 0)).trans (decide_eq_true (by omega))) ?_
          refine E_aload_n rfl rfl ?_
          refine E_iload_n rfl rfl ?_
          refine E_callV (v := some (.int (nI gj0))) (As := [.ref 65, .int (nI (u - (qPr t p ((qW t).getD p 0))))]) (r0 := []) (cs2 := (ww im lf s d k ls rf rz ra rn rq lt m1 m2 m3 m4 bd fc hd sz el t (fUp (fUp (fUp g 43 (nI v)) 44 (nI h0)) 45 (nI m0)) fm hm so si sh ce ca td wa kp la (lsF (bst t (qPs t 99 (qN t)) (qN t) (2 ^ qN t))) oo bo pw ow tr)) rfl rfl rfl (Nat.le_of_ble_eq_true rfl) rfl (ab_rvOf w65 rfl) (Ev.g1 hg0 (mo_greedyFor w_m I (by omega))) (by decide) rfl ?_
          exact E_iret rfl rfl
        refine E_callV (v := some (.int (nI gj0))) (As := [.ref 65, .int (nI (u - (qPr t p ((qW t).getD p 0))))]) (r0 := []) (cs2 := (ww im lf s d k ls rf rz ra rn rq lt m1 m2 m3 m4 bd fc hd sz el t (fUp (fUp (fUp g 43 (nI v)) 44 (nI h0)) 45 (nI m0)) fm hm so si sh ce ca td wa kp la (lsF (bst t (qPs t 99 (qN t)) (qN t) (2 ^ qN t))) oo bo pw ow tr)) rfl rfl rfl (Nat.le_of_ble_eq_true rfl) rfl (ab_rvOf w65 rfl) e4 (by decide) rfl ?_
        exact E_iret rfl rfl
      refine E_callV (v := some (.int (nI gj0))) (As := [.ref 65, .int (nI p), .int (nI u)]) (r0 := []) (cs2 := (ww im lf s d k ls rf rz ra rn rq lt m1 m2 m3 m4 bd fc hd sz el t (fUp (fUp (fUp g 43 (nI v)) 44 (nI h0)) 45 (nI m0)) fm hm so si sh ce ca td wa kp la (lsF (bst t (qPs t 99 (qN t)) (qN t) (2 ^ qN t))) oo bo pw ow tr)) rfl rfl rfl (Nat.le_of_ble_eq_true rfl) rfl (ab_rvOf w65 rfl) e5 (by decide) rfl ?_
      refine E_goto (t := 87) rfl rfl ?_
      refine E_istore (L2 := [some (.ref 65), some (.int (nI j)), some (.int (nI n)), some (.int (nI v)), some (.int (nI p)), some (.int (nI u)), some (.int (nI gj0))]) rfl rfl ?_
      refine E_iload rfl rfl ?_
      refine E_iconst (x := (-1)) rfl (by decide) ?_
      refine E_ic (t := 97) (b := true) rfl rfl ((cn_ne (nI_toInt (by omega)) (by decide : (-1 : Int32).toInt = -1)).trans (decide_eq_true (by omega))) ?_
      refine E_aload_n rfl rfl ?_
      refine E_dup rfl rfl ?_
      refine E_getfield (v := .int (nI v)) rfl w65 rfl (by decide) rfl ?_
      refine E_iconst (x := nI 1) rfl (by decide) ?_
      refine E_iadd (z := nI (v + 1)) rfl (nI_add _ _) ?_
      refine E_putfield (cs2 := (ww im lf s d k ls rf rz ra rn rq lt m1 m2 m3 m4 bd fc hd sz el t (fUp (fUp (fUp (fUp g 43 (nI v)) 44 (nI h0)) 45 (nI m0)) 43 (nI (v + 1))) fm hm so si sh ce ca td wa kp la (lsF (bst t (qPs t 99 (qN t)) (qN t) (2 ^ qN t))) oo bo pw ow tr)) rfl w65 rfl (by decide) (Nat.le_of_ble_eq_true rfl) rfl rfl rfl w_pt65_43 ?_
      refine E_aload_n rfl rfl ?_
      refine E_dup rfl rfl ?_
      refine E_getfield (v := .int (nI h0)) rfl w65 rfl (by decide) rfl ?_
      refine E_aload_n rfl rfl ?_
      refine E_iload rfl rfl ?_
      refine E_callV (v := some (.int (nI (qHs t gj0 (qN t))))) (As := [.ref 65, .int (nI gj0)]) (r0 := [.int (nI h0), .ref 65]) (cs2 := (ww im lf s d k ls rf rz ra rn rq lt m1 m2 m3 m4 bd fc hd sz el t (fUp (fUp (fUp (fUp g 43 (nI v)) 44 (nI h0)) 45 (nI m0)) 43 (nI (v + 1))) fm hm so si sh ce ca td wa kp la (lsF (bst t (qPs t 99 (qN t)) (qN t) (2 ^ qN t))) oo bo pw ow tr)) rfl rfl rfl (Nat.le_of_ble_eq_true rfl) rfl (ab_rvOf w65 rfl) (mo_harmOf w_m I (by omega)) (by decide) rfl ?_
      refine E_iadd (z := nI (h0 + (qHs t gj0 (qN t)))) rfl (nI_add _ _) ?_
      refine E_putfield (cs2 := (ww im lf s d k ls rf rz ra rn rq lt m1 m2 m3 m4 bd fc hd sz el t (fUp (fUp (fUp (fUp (fUp g 43 (nI v)) 44 (nI h0)) 45 (nI m0)) 43 (nI (v + 1))) 44 (nI (h0 + (qHs t gj0 (qN t))))) fm hm so si sh ce ca td wa kp la (lsF (bst t (qPs t 99 (qN t)) (qN t) (2 ^ qN t))) oo bo pw ow tr)) rfl w65 rfl (by decide) (Nat.le_of_ble_eq_true rfl) rfl rfl rfl w_pt65_44 ?_
      refine E_aload_n rfl rfl ?_
      refine E_dup rfl rfl ?_
      refine E_getfield (v := .int (nI m0)) rfl w65 rfl (by decide) rfl ?_
      refine E_iload rfl rfl ?_
      refine E_iadd (z := nI (m0 + u)) rfl (nI_add _ _) ?_
      refine E_putfield (cs2 := (ww im lf s d k ls rf rz ra rn rq lt m1 m2 m3 m4 bd fc hd sz el t (fUp (fUp (fUp (fUp (fUp (fUp g 43 (nI v)) 44 (nI h0)) 45 (nI m0)) 43 (nI (v + 1))) 44 (nI (h0 + (qHs t gj0 (qN t))))) 45 (nI (m0 + u))) fm hm so si sh ce ca td wa kp la (lsF (bst t (qPs t 99 (qN t)) (qN t) (2 ^ qN t))) oo bo pw ow tr)) rfl w65 rfl (by decide) (Nat.le_of_ble_eq_true rfl) rfl rfl rfl w_pt65_45 ?_
      refine E_aload_n rfl rfl ?_
      refine E_iload rfl rfl ?_
      refine E_iload rfl rfl ?_
      refine E_iload rfl rfl ?_
      have e6 : Ev ab_Z0 1 183 [.ref 65, .int (nI p), .int (nI u), .int (nI gj0)] (ww im lf s d k ls rf rz ra rn rq lt m1 m2 m3 m4 bd fc hd sz el t (fUp (fUp (fUp (fUp (fUp (fUp g 43 (nI v)) 44 (nI h0)) 45 (nI m0)) 43 (nI (v + 1))) 44 (nI (h0 + (qHs t gj0 (qN t))))) 45 (nI (m0 + u))) fm hm so si sh ce ca td wa kp la (lsF (bst t (qPs t 99 (qN t)) (qN t) (2 ^ qN t))) oo bo pw ow tr) (none, (ww im lf s d k ls rf rz ra rn rq lt m1 m2 m3 m4 bd fc hd sz el (qs_P (qs_Y (qs_G (qs_U t ((qU t).set p (((qU t).getD p 0) - u))) ((qG t).set p (((qG t).getD p 0) + (nI 1)))) ((qY t) + (nI u))) (qGP (qP t) p gj0 (qN t))) (fUp (fUp (fUp (fUp (fUp (fUp g 43 (nI v)) 44 (nI h0)) 45 (nI m0)) 43 (nI (v + 1))) 44 (nI (h0 + (qHs t gj0 (qN t))))) 45 (nI (m0 + u))) fm hm so si sh ce ca td wa kp la (lsF (bst t (qPs t 99 (qN t)) (qN t) (2 ^ qN t))) oo bo pw ow tr)) := by
        refine Ef.in (md := mX6_throwsIn) (L := [some (.ref 65), some (.int (nI p)), some (.int (nI u)), some (.int (nI gj0)), none]) rfl (Nat.le_of_ble_eq_true rfl) rfl ?_
        refine E_aload_n rfl rfl ?_
        refine E_getfield (v := .ref 71) rfl w65 rfl (by decide) rfl ?_
        refine E_iload_n rfl rfl ?_
        refine E_dup2 rfl ⟨rfl, rfl⟩ ?_
        refine E_ialN (l := qU t) (v := (qU t).getD p 0) rfl w71 (by omega) (by omega) rfl ?_
        refine E_iload_n rfl rfl ?_
        refine E_isub (z := nI (((qU t).getD p 0) - u)) rfl (pk_sub (by omega)) ?_
        refine E_iasN (l := qU t) (cs2 := (ww im lf s d k ls rf rz ra rn rq lt m1 m2 m3 m4 bd fc hd sz el (qs_U t ((qU t).set p (((qU t).getD p 0) - u))) (fUp (fUp (fUp (fUp (fUp (fUp g 43 (nI v)) 44 (nI h0)) 45 (nI m0)) 43 (nI (v + 1))) 44 (nI (h0 + (qHs t gj0 (qN t))))) 45 (nI (m0 + u))) fm hm so si sh ce ca td wa kp la (lsF (bst t (qPs t 99 (qN t)) (qN t) (2 ^ qN t))) oo bo pw ow tr)) rfl w71 (by omega) (by omega) w_pt65_U ?_
        refine E_aload_n rfl rfl ?_
        refine E_getfield (v := .ref 74) rfl w65 rfl (by decide) rfl ?_
        refine E_iload_n rfl rfl ?_
        refine E_dup2 rfl ⟨rfl, rfl⟩ ?_
        refine E_ialI (l := qG t) (v := (qG t).getD p 0) rfl (w74v qg_GU) (by omega) (by omega) rfl ?_
        refine E_iconst (x := nI 1) rfl (by decide) ?_
        refine E_iadd (z := ((qG t).getD p 0) + (nI 1)) rfl rfl ?_
        refine E_iasI (l := qG t) (cs2 := (ww im lf s d k ls rf rz ra rn rq lt m1 m2 m3 m4 bd fc hd sz el (qs_G (qs_U t ((qU t).set p (((qU t).getD p 0) - u))) ((qG t).set p (((qG t).getD p 0) + (nI 1)))) (fUp (fUp (fUp (fUp (fUp (fUp g 43 (nI v)) 44 (nI h0)) 45 (nI m0)) 43 (nI (v + 1))) 44 (nI (h0 + (qHs t gj0 (qN t))))) 45 (nI (m0 + u))) fm hm so si sh ce ca td wa kp la (lsF (bst t (qPs t 99 (qN t)) (qN t) (2 ^ qN t))) oo bo pw ow tr)) rfl (w74v qg_GU) (by omega) (by omega) w_pt65_G ?_
        refine E_aload_n rfl rfl ?_
        refine E_dup rfl rfl ?_
        refine E_getfield (v := .int (qY t)) rfl w65 rfl (by decide) (congrArg (fun z => some (Value.int z)) (qg_YG.trans qg_YU)) ?_
        refine E_iload_n rfl rfl ?_
        refine E_iadd (z := (qY t) + (nI u)) rfl rfl ?_
        refine E_putfield (cs2 := (ww im lf s d k ls rf rz ra rn rq lt m1 m2 m3 m4 bd fc hd sz el (qs_Y (qs_G (qs_U t ((qU t).set p (((qU t).getD p 0) - u))) ((qG t).set p (((qG t).getD p 0) + (nI 1)))) ((qY t) + (nI u))) (fUp (fUp (fUp (fUp (fUp (fUp g 43 (nI v)) 44 (nI h0)) 45 (nI m0)) 43 (nI (v + 1))) 44 (nI (h0 + (qHs t gj0 (qN t))))) 45 (nI (m0 + u))) fm hm so si sh ce ca td wa kp la (lsF (bst t (qPs t 99 (qN t)) (qN t) (2 ^ qN t))) oo bo pw ow tr)) rfl w65 rfl (by decide) (Nat.le_of_ble_eq_true rfl) rfl rfl rfl w_pt65_Y ?_
        refine E_iconst (x := nI 0) rfl (by decide) ?_
        refine E_istore (L2 := [some (.ref 65), some (.int (nI p)), some (.int (nI u)), some (.int (nI gj0)), some (.int (nI 0))]) rfl rfl ?_
        exact grant_s65 (t := (qs_Y (qs_G (qs_U t ((qU t).set p (((qU t).getD p 0) - u))) ((qG t).set p (((qG t).getD p 0) + (nI 1)))) ((qY t) + (nI u)))) (p := p) (n := u) (m := gj0) (l := qP t) (n1 := qN t) ((congrArg (qs_P _) (Eq.symm (qg_PY.trans (qg_PG.trans qg_PU)))).trans qs_Pself) (qg_NY.trans (qg_NG.trans qg_NU)) (by omega) (I).1.2.2.2 (by omega) (by omega)
      refine E_callV (v := none) (As := [.ref 65, .int (nI p), .int (nI u), .int (nI gj0)]) (r0 := []) (cs2 := (ww im lf s d k ls rf rz ra rn rq lt m1 m2 m3 m4 bd fc hd sz el (qs_P (qs_Y (qs_G (qs_U t ((qU t).set p (((qU t).getD p 0) - u))) ((qG t).set p (((qG t).getD p 0) + (nI 1)))) ((qY t) + (nI u))) (qGP (qP t) p gj0 (qN t))) (fUp (fUp (fUp (fUp (fUp (fUp g 43 (nI v)) 44 (nI h0)) 45 (nI m0)) 43 (nI (v + 1))) 44 (nI (h0 + (qHs t gj0 (qN t))))) 45 (nI (m0 + u))) fm hm so si sh ce ca td wa kp la (lsF (bst t (qPs t 99 (qN t)) (qN t) (2 ^ qN t))) oo bo pw ow tr)) rfl rfl rfl (Nat.le_of_ble_eq_true rfl) rfl (ab_rvOf w65 rfl) e6 (by decide) w_lens ?_
      refine E_iinc (y := nI (v + 1)) (L2 := [some (.ref 65), some (.int (nI j)), some (.int (nI n)), some (.int (nI (v + 1))), some (.int (nI p)), some (.int (nI u)), some (.int (nI gj0))]) rfl rfl (nI_1 _) rfl ?_
      refine E_goto (t := 17) rfl rfl ?_
      rw [g3_up]
      unfold grQ at K
      exact K (some (.int (nI p))) (some (.int (nI u))) (some (.int (nI gj0)))
set_option maxHeartbeats 2000000 in
theorem dy_m0 {j n1 : Nat} (hj : j < 8) (hz : sz j = nI n1) (hn1 : n1 ≤ 160) (le : (el j).length = 160) (l_ce : ce.length = 1280) (hce : ∀ q, q < 160 → (el j).getD q 0 = ce.getD (160 * j + q) 0) {h0 m0 : Nat} {n v : Nat} (hn : 2 * n ≤ n1) (hn20 : n ≤ 20) (hv : v < n) (I : qI t) (hno : thr t (tw (el j) (2 * v)) (tw (el j) (2 * v + 1)) = 0) (l_bf : bf.length = 100) : ∃ bf2 : List Int32, bf2.length = 100 ∧ ∀ x4 x5 x6 : Option Value, Ef ab_Z0 4 mX6_goes (17, [some (.ref 65), some (.int (nI j)), some (.int (nI n)), some (.int (nI v)), x4, x5, x6], [], (ww im lf s d k ls rf rz ra rn rq lt m1 m2 m3 m4 bd fc hd sz el t (fUp (fUp (fUp g 43 (nI v)) 44 (nI h0)) 45 (nI m0)) fm hm so si sh ce ca td wa kp la bf oo bo pw ow tr)) (some (.int (nI v)), (ww im lf s d k ls rf rz ra rn rq lt m1 m2 m3 m4 bd fc hd sz el t (fUp (fUp (fUp g 43 (nI v)) 44 (nI h0)) 45 (nI m0)) fm hm so si sh ce ca td wa kp la bf2 oo bo pw ow tr)) := by
  have lU_ : (qU t).length = 6 := I.2.1.1
  have lL_ : (qL t).length = 6 := I.2.1.2.1
  have lW_ : (qW t).length = 6 := I.2.1.2.2.1
  have lG_ : (qG t).length = 6 := I.2.1.2.2.2.1
  have lP_ : (qP t).length = 9 := I.1.2.2.2
  have h9 := I.2.2.1.1
  have h6 := I.2.2.1.2
  have w9 : 2 ^ qN t ≤ 2 ^ 9 := Nat.pow_le_pow_right (by decide) (by omega)
  rcases ab_int (tw (el j) (2 * v)) with ⟨p, hp9, ec⟩ | hp9
  · rcases ab_int (tw (el j) (2 * v + 1)) with ⟨u, hu9, eu⟩ | hu9
    · by_cases f2 : p < (qM t)
      · by_cases f3 : 99 < u
        · have := qPs_in t 99 (i := qN t) (by omega)
          refine ⟨(lsF (bst t (qPs t 99 (qN t)) (qN t) (2 ^ qN t))), (lsF_len _), fun x4 x5 x6 => ?_⟩
          refine E_iload_n rfl rfl ?_
          refine E_iload_n rfl rfl ?_
          refine E_ic (t := 149) (b := false) rfl rfl ((cn_ge (nI_toInt (by omega)) (nI_toInt (by omega))).trans (decide_eq_false (by omega))) ?_
          refine E_aload_n rfl rfl ?_
          refine E_iload_n rfl rfl ?_
          refine E_iconst (x := nI 2) rfl (by decide) ?_
          refine E_iload_n rfl rfl ?_
          refine E_imul (z := nI (2 * v)) rfl (pk_mul _ _) ?_
          refine E_callV (v := some (.int (nI p))) (As := [.ref 65, .int (nI j), .int (nI (2 * v))]) (r0 := []) (cs2 := (ww im lf s d k ls rf rz ra rn rq lt m1 m2 m3 m4 bd fc hd sz el t (fUp (fUp (fUp g 43 (nI v)) 44 (nI h0)) 45 (nI m0)) fm hm so si sh ce ca td wa kp la bf oo bo pw ow tr)) rfl rfl rfl (Nat.le_of_ble_eq_true rfl) rfl (ab_rvOf w65 rfl) (Ev.vi ec (m_intAt (q := 2 * v) hj (by omega) l_ce hce)) (by decide) rfl ?_
          refine E_istore (L2 := [some (.ref 65), some (.int (nI j)), some (.int (nI n)), some (.int (nI v)), some (.int (nI p)), x5, x6]) rfl rfl ?_
          refine E_aload_n rfl rfl ?_
          refine E_iload_n rfl rfl ?_
          refine E_iconst (x := nI 2) rfl (by decide) ?_
          refine E_iload_n rfl rfl ?_
          refine E_imul (z := nI (2 * v)) rfl (pk_mul _ _) ?_
          refine E_iconst (x := nI 1) rfl (by decide) ?_
          refine E_iadd (z := nI ((2 * v) + 1)) rfl (nI_add _ _) ?_
          refine E_callV (v := some (.int (nI u))) (As := [.ref 65, .int (nI j), .int (nI ((2 * v) + 1))]) (r0 := []) (cs2 := (ww im lf s d k ls rf rz ra rn rq lt m1 m2 m3 m4 bd fc hd sz el t (fUp (fUp (fUp g 43 (nI v)) 44 (nI h0)) 45 (nI m0)) fm hm so si sh ce ca td wa kp la bf oo bo pw ow tr)) rfl rfl rfl (Nat.le_of_ble_eq_true rfl) rfl (ab_rvOf w65 rfl) (Ev.vi eu (m_intAt (q := (2 * v) + 1) hj (by omega) l_ce hce)) (by decide) rfl ?_
          refine E_istore (L2 := [some (.ref 65), some (.int (nI j)), some (.int (nI n)), some (.int (nI v)), some (.int (nI p)), some (.int (nI u)), x6]) rfl rfl ?_
          refine E_aload_n rfl rfl ?_
          refine E_aload_n rfl rfl ?_
          refine E_bipush (x := nI 99) rfl (by decide) ?_
          refine E_callV (v := some (.int (nI (qPs t 99 (qN t))))) (As := [.ref 65, .int (nI 99)]) (r0 := [.ref 65]) (cs2 := (ww im lf s d k ls rf rz ra rn rq lt m1 m2 m3 m4 bd fc hd sz el t (fUp (fUp (fUp g 43 (nI v)) 44 (nI h0)) 45 (nI m0)) fm hm so si sh ce ca td wa kp la bf oo bo pw ow tr)) rfl rfl rfl (Nat.le_of_ble_eq_true rfl) rfl (ab_rvOf w65 rfl) (mo_piecesOf w_m I (by omega)) (by decide) rfl ?_
          refine E_callV (v := none) (As := [.ref 65, .int (nI (qPs t 99 (qN t)))]) (r0 := []) (cs2 := (ww im lf s d k ls rf rz ra rn rq lt m1 m2 m3 m4 bd fc hd sz el t (fUp (fUp (fUp g 43 (nI v)) 44 (nI h0)) 45 (nI m0)) fm hm so si sh ce ca td wa kp la (lsF (bst t (qPs t 99 (qN t)) (qN t) (2 ^ qN t))) oo bo pw ow tr)) rfl rfl rfl (Nat.le_of_ble_eq_true rfl) rfl (ab_rvOf w65 rfl) (w_best (m := qPs t 99 (qN t)) I (by omega) l_bf) (by decide) w_lens ?_
          refine E_aload_n rfl rfl ?_
          refine E_iload rfl rfl ?_
          have e1 : Ev ab_Z0 1 133 [.ref 65, .int (nI p)] (ww im lf s d k ls rf rz ra rn rq lt m1 m2 m3 m4 bd fc hd sz el t (fUp (fUp (fUp g 43 (nI v)) 44 (nI h0)) 45 (nI m0)) fm hm so si sh ce ca td wa kp la (lsF (bst t (qPs t 99 (qN t)) (qN t) (2 ^ qN t))) oo bo pw ow tr) (some (.int (nI 1)), (ww im lf s d k ls rf rz ra rn rq lt m1 m2 m3 m4 bd fc hd sz el t (fUp (fUp (fUp g 43 (nI v)) 44 (nI h0)) 45 (nI m0)) fm hm so si sh ce ca td wa kp la (lsF (bst t (qPs t 99 (qN t)) (qN t) (2 ^ qN t))) oo bo pw ow tr)) := by
            refine Ef.in (md := mX6_isOne) (L := [some (.ref 65), some (.int (nI p))]) rfl (Nat.le_of_ble_eq_true rfl) rfl ?_
            refine E_iload_n rfl rfl ?_
            refine E_if (t := 16) (b := false) rfl rfl ((cn_lt (nI_toInt (by omega)) (by decide : (0 : Int32).toInt = 0)).trans (decide_eq_false (by omega))) ?_
            refine E_iload_n rfl rfl ?_
            refine E_aload_n rfl rfl ?_
            refine E_getfield (v := .int (nI (qM t))) rfl w65 rfl (by decide) rfl ?_
            refine E_ic (t := 16) (b := false) rfl rfl ((cn_ge (nI_toInt (by omega)) (nI_toInt (by omega))).trans (decide_eq_false (by omega))) ?_
            refine E_iconst (x := nI 1) rfl (by decide) ?_
            refine E_goto (t := 17) rfl rfl ?_
            exact E_iret rfl rfl
          refine E_callV (v := some (.int (nI 1))) (As := [.ref 65, .int (nI p)]) (r0 := []) (cs2 := (ww im lf s d k ls rf rz ra rn rq lt m1 m2 m3 m4 bd fc hd sz el t (fUp (fUp (fUp g 43 (nI v)) 44 (nI h0)) 45 (nI m0)) fm hm so si sh ce ca td wa kp la (lsF (bst t (qPs t 99 (qN t)) (qN t) (2 ^ qN t))) oo bo pw ow tr)) rfl rfl rfl (Nat.le_of_ble_eq_true rfl) rfl (ab_rvOf w65 rfl) e1 (by decide) rfl ?_
          refine E_if (t := 86) (b := false) rfl rfl (by decide) ?_
          refine E_aload_n rfl rfl ?_
          refine E_iload rfl rfl ?_
          refine E_iconst (x := nI 0) rfl (by decide) ?_
          refine E_bipush (x := nI 99) rfl (by decide) ?_
          have e2 : Ev ab_Z0 1 134 [.ref 65, .int (nI u), .int (nI 0), .int (nI 99)] (ww im lf s d k ls rf rz ra rn rq lt m1 m2 m3 m4 bd fc hd sz el t (fUp (fUp (fUp g 43 (nI v)) 44 (nI h0)) 45 (nI m0)) fm hm so si sh ce ca td wa kp la (lsF (bst t (qPs t 99 (qN t)) (qN t) (2 ^ qN t))) oo bo pw ow tr) (some (.int (nI 0)), (ww im lf s d k ls rf rz ra rn rq lt m1 m2 m3 m4 bd fc hd sz el t (fUp (fUp (fUp g 43 (nI v)) 44 (nI h0)) 45 (nI m0)) fm hm so si sh ce ca td wa kp la (lsF (bst t (qPs t 99 (qN t)) (qN t) (2 ^ qN t))) oo bo pw ow tr)) := by
            refine Ef.in (md := mX6_isFrom) (L := [some (.ref 65), some (.int (nI u)), some (.int (nI 0)), some (.int (nI 99))]) rfl (Nat.le_of_ble_eq_true rfl) rfl ?_
            refine E_iload_n rfl rfl ?_
            refine E_iload_n rfl rfl ?_
            refine E_ic (t := 14) (b := false) rfl rfl ((cn_lt (nI_toInt (by omega)) (nI_toInt (by omega))).trans (decide_eq_false (by omega))) ?_
            refine E_iload_n rfl rfl ?_
            refine E_iload_n rfl rfl ?_
            refine E_ic (t := 14) (b := true) rfl rfl ((cn_gt (nI_toInt (by omega)) (nI_toInt (by omega))).trans (decide_eq_true (by omega))) ?_
            refine E_iconst (x := nI 0) rfl (by decide) ?_
            exact E_iret rfl rfl
          refine E_callV (v := some (.int (nI 0))) (As := [.ref 65, .int (nI u), .int (nI 0), .int (nI 99)]) (r0 := []) (cs2 := (ww im lf s d k ls rf rz ra rn rq lt m1 m2 m3 m4 bd fc hd sz el t (fUp (fUp (fUp g 43 (nI v)) 44 (nI h0)) 45 (nI m0)) fm hm so si sh ce ca td wa kp la (lsF (bst t (qPs t 99 (qN t)) (qN t) (2 ^ qN t))) oo bo pw ow tr)) rfl rfl rfl (Nat.le_of_ble_eq_true rfl) rfl (ab_rvOf w65 rfl) e2 (by decide) rfl ?_
          refine E_if (t := 86) (b := true) rfl rfl (by decide) ?_
          refine E_iconst (x := (-1)) rfl (by decide) ?_
          refine E_istore (L2 := [some (.ref 65), some (.int (nI j)), some (.int (nI n)), some (.int (nI v)), some (.int (nI p)), some (.int (nI u)), some (.int (-1))]) rfl rfl ?_
          refine E_iload rfl rfl ?_
          refine E_iconst (x := (-1)) rfl (by decide) ?_
          refine E_ic (t := 97) (b := false) rfl rfl (by decide) ?_
          refine E_iload_n rfl rfl ?_
          exact E_iret rfl rfl
        · by_cases f4 : ((qU t).getD p 0) < u
          · have := qPs_in t 99 (i := qN t) (by omega)
            have hU := I.2.2.2.2.1 p (by omega)
            have : (qW t).length = 6 := by first | omega | (simp only [List.length_set]; omega)
            have := qPr_in I p (w := ((qW t).getD p 0)) (by omega)
            have : (qU t).length = 6 := by first | omega | (simp only [List.length_set]; omega)
            refine ⟨(lsF (bst t (qPs t 99 (qN t)) (qN t) (2 ^ qN t))), (lsF_len _), fun x4 x5 x6 => ?_⟩
            refine E_iload_n rfl rfl ?_
            refine E_iload_n rfl rfl ?_
            refine E_ic (t := 149) (b := false) rfl rfl ((cn_ge (nI_toInt (by omega)) (nI_toInt (by omega))).trans (decide_eq_false (by omega))) ?_
            refine E_aload_n rfl rfl ?_
            refine E_iload_n rfl rfl ?_
            refine E_iconst (x := nI 2) rfl (by decide) ?_
            refine E_iload_n rfl rfl ?_
            refine E_imul (z := nI (2 * v)) rfl (pk_mul _ _) ?_
            refine E_callV (v := some (.int (nI p))) (As := [.ref 65, .int (nI j), .int (nI (2 * v))]) (r0 := []) (cs2 := (ww im lf s d k ls rf rz ra rn rq lt m1 m2 m3 m4 bd fc hd sz el t (fUp (fUp (fUp g 43 (nI v)) 44 (nI h0)) 45 (nI m0)) fm hm so si sh ce ca td wa kp la bf oo bo pw ow tr)) rfl rfl rfl (Nat.le_of_ble_eq_true rfl) rfl (ab_rvOf w65 rfl) (Ev.vi ec (m_intAt (q := 2 * v) hj (by omega) l_ce hce)) (by decide) rfl ?_
            refine E_istore (L2 := [some (.ref 65), some (.int (nI j)), some (.int (nI n)), some (.int (nI v)), some (.int (nI p)), x5, x6]) rfl rfl ?_
            refine E_aload_n rfl rfl ?_
            refine E_iload_n rfl rfl ?_
            refine E_iconst (x := nI 2) rfl (by decide) ?_
            refine E_iload_n rfl rfl ?_
            refine E_imul (z := nI (2 * v)) rfl (pk_mul _ _) ?_
            refine E_iconst (x := nI 1) rfl (by decide) ?_
            refine E_iadd (z := nI ((2 * v) + 1)) rfl (nI_add _ _) ?_
            refine E_callV (v := some (.int (nI u))) (As := [.ref 65, .int (nI j), .int (nI ((2 * v) + 1))]) (r0 := []) (cs2 := (ww im lf s d k ls rf rz ra rn rq lt m1 m2 m3 m4 bd fc hd sz el t (fUp (fUp (fUp g 43 (nI v)) 44 (nI h0)) 45 (nI m0)) fm hm so si sh ce ca td wa kp la bf oo bo pw ow tr)) rfl rfl rfl (Nat.le_of_ble_eq_true rfl) rfl (ab_rvOf w65 rfl) (Ev.vi eu (m_intAt (q := (2 * v) + 1) hj (by omega) l_ce hce)) (by decide) rfl ?_
            refine E_istore (L2 := [some (.ref 65), some (.int (nI j)), some (.int (nI n)), some (.int (nI v)), some (.int (nI p)), some (.int (nI u)), x6]) rfl rfl ?_
            refine E_aload_n rfl rfl ?_
            refine E_aload_n rfl rfl ?_
            refine E_bipush (x := nI 99) rfl (by decide) ?_
            refine E_callV (v := some (.int (nI (qPs t 99 (qN t))))) (As := [.ref 65, .int (nI 99)]) (r0 := [.ref 65]) (cs2 := (ww im lf s d k ls rf rz ra rn rq lt m1 m2 m3 m4 bd fc hd sz el t (fUp (fUp (fUp g 43 (nI v)) 44 (nI h0)) 45 (nI m0)) fm hm so si sh ce ca td wa kp la bf oo bo pw ow tr)) rfl rfl rfl (Nat.le_of_ble_eq_true rfl) rfl (ab_rvOf w65 rfl) (mo_piecesOf w_m I (by omega)) (by decide) rfl ?_
            refine E_callV (v := none) (As := [.ref 65, .int (nI (qPs t 99 (qN t)))]) (r0 := []) (cs2 := (ww im lf s d k ls rf rz ra rn rq lt m1 m2 m3 m4 bd fc hd sz el t (fUp (fUp (fUp g 43 (nI v)) 44 (nI h0)) 45 (nI m0)) fm hm so si sh ce ca td wa kp la (lsF (bst t (qPs t 99 (qN t)) (qN t) (2 ^ qN t))) oo bo pw ow tr)) rfl rfl rfl (Nat.le_of_ble_eq_true rfl) rfl (ab_rvOf w65 rfl) (w_best (m := qPs t 99 (qN t)) I (by omega) l_bf) (by decide) w_lens ?_
            refine E_aload_n rfl rfl ?_
            refine E_iload rfl rfl ?_
            have e1 : Ev ab_Z0 1 133 [.ref 65, .int (nI p)] (ww im lf s d k ls rf rz ra rn rq lt m1 m2 m3 m4 bd fc hd sz el t (fUp (fUp (fUp g 43 (nI v)) 44 (nI h0)) 45 (nI m0)) fm hm so si sh ce ca td wa kp la (lsF (bst t (qPs t 99 (qN t)) (qN t) (2 ^ qN t))) oo bo pw ow tr) (some (.int (nI 1)), (ww im lf s d k ls rf rz ra rn rq lt m1 m2 m3 m4 bd fc hd sz el t (fUp (fUp (fUp g 43 (nI v)) 44 (nI h0)) 45 (nI m0)) fm hm so si sh ce ca td wa kp la (lsF (bst t (qPs t 99 (qN t)) (qN t) (2 ^ qN t))) oo bo pw ow tr)) := by
              refine Ef.in (md := mX6_isOne) (L := [some (.ref 65), some (.int (nI p))]) rfl (Nat.le_of_ble_eq_true rfl) rfl ?_
              refine E_iload_n rfl rfl ?_
              refine E_if (t := 16) (b := false) rfl rfl ((cn_lt (nI_toInt (by omega)) (by decide : (0 : Int32).toInt = 0)).trans (decide_eq_false (by omega))) ?_
              refine E_iload_n rfl rfl ?_
              refine E_aload_n rfl rfl ?_
              refine E_getfield (v := .int (nI (qM t))) rfl w65 rfl (by decide) rfl ?_
              refine E_ic (t := 16) (b := false) rfl rfl ((cn_ge (nI_toInt (by omega)) (nI_toInt (by omega))).trans (decide_eq_false (by omega))) ?_
              refine E_iconst (x := nI 1) rfl (by decide) ?_
              refine E_goto (t := 17) rfl rfl ?_
              exact E_iret rfl rfl
            refine E_callV (v := some (.int (nI 1))) (As := [.ref 65, .int (nI p)]) (r0 := []) (cs2 := (ww im lf s d k ls rf rz ra rn rq lt m1 m2 m3 m4 bd fc hd sz el t (fUp (fUp (fUp g 43 (nI v)) 44 (nI h0)) 45 (nI m0)) fm hm so si sh ce ca td wa kp la (lsF (bst t (qPs t 99 (qN t)) (qN t) (2 ^ qN t))) oo bo pw ow tr)) rfl rfl rfl (Nat.le_of_ble_eq_true rfl) rfl (ab_rvOf w65 rfl) e1 (by decide) rfl ?_
            refine E_if (t := 86) (b := false) rfl rfl (by decide) ?_
            refine E_aload_n rfl rfl ?_
            refine E_iload rfl rfl ?_
            refine E_iconst (x := nI 0) rfl (by decide) ?_
            refine E_bipush (x := nI 99) rfl (by decide) ?_
            have e2 : Ev ab_Z0 1 134 [.ref 65, .int (nI u), .int (nI 0), .int (nI 99)] (ww im lf s d k ls rf rz ra rn rq lt m1 m2 m3 m4 bd fc hd sz el t (fUp (fUp (fUp g 43 (nI v)) 44 (nI h0)) 45 (nI m0)) fm hm so si sh ce ca td wa kp la (lsF (bst t (qPs t 99 (qN t)) (qN t) (2 ^ qN t))) oo bo pw ow tr) (some (.int (nI 1)), (ww im lf s d k ls rf rz ra rn rq lt m1 m2 m3 m4 bd fc hd sz el t (fUp (fUp (fUp g 43 (nI v)) 44 (nI h0)) 45 (nI m0)) fm hm so si sh ce ca td wa kp la (lsF (bst t (qPs t 99 (qN t)) (qN t) (2 ^ qN t))) oo bo pw ow tr)) := by
              refine Ef.in (md := mX6_isFrom) (L := [some (.ref 65), some (.int (nI u)), some (.int (nI 0)), some (.int (nI 99))]) rfl (Nat.le_of_ble_eq_true rfl) rfl ?_
              refine E_iload_n rfl rfl ?_
              refine E_iload_n rfl rfl ?_
              refine E_ic (t := 14) (b := false) rfl rfl ((cn_lt (nI_toInt (by omega)) (nI_toInt (by omega))).trans (decide_eq_false (by omega))) ?_
              refine E_iload_n rfl rfl ?_
              refine E_iload_n rfl rfl ?_
              refine E_ic (t := 14) (b := false) rfl rfl ((cn_gt (nI_toInt (by omega)) (nI_toInt (by omega))).trans (decide_eq_false (by omega))) ?_
              refine E_iconst (x := nI 1) rfl (by decide) ?_
              refine E_goto (t := 15) rfl rfl ?_
              exact E_iret rfl rfl
            refine E_callV (v := some (.int (nI 1))) (As := [.ref 65, .int (nI u), .int (nI 0), .int (nI 99)]) (r0 := []) (cs2 := (ww im lf s d k ls rf rz ra rn rq lt m1 m2 m3 m4 bd fc hd sz el t (fUp (fUp (fUp g 43 (nI v)) 44 (nI h0)) 45 (nI m0)) fm hm so si sh ce ca td wa kp la (lsF (bst t (qPs t 99 (qN t)) (qN t) (2 ^ qN t))) oo bo pw ow tr)) rfl rfl rfl (Nat.le_of_ble_eq_true rfl) rfl (ab_rvOf w65 rfl) e2 (by decide) rfl ?_
            refine E_if (t := 86) (b := false) rfl rfl (by decide) ?_
            refine E_aload_n rfl rfl ?_
            refine E_iload rfl rfl ?_
            refine E_iload rfl rfl ?_
            have e4 : Ev ab_Z0 2 176 [.ref 65, .int (nI p), .int (nI u)] (ww im lf s d k ls rf rz ra rn rq lt m1 m2 m3 m4 bd fc hd sz el t (fUp (fUp (fUp g 43 (nI v)) 44 (nI h0)) 45 (nI m0)) fm hm so si sh ce ca td wa kp la (lsF (bst t (qPs t 99 (qN t)) (qN t) (2 ^ qN t))) oo bo pw ow tr) (some (.int (-1)), (ww im lf s d k ls rf rz ra rn rq lt m1 m2 m3 m4 bd fc hd sz el t (fUp (fUp (fUp g 43 (nI v)) 44 (nI h0)) 45 (nI m0)) fm hm so si sh ce ca td wa kp la (lsF (bst t (qPs t 99 (qN t)) (qN t) (2 ^ qN t))) oo bo pw ow tr)) := by
              refine Ef.in (md := mX6_thrown) (L := [some (.ref 65), some (.int (nI p)), some (.int (nI u)), none]) rfl (Nat.le_of_ble_eq_true rfl) rfl ?_
              refine E_iload_n rfl rfl ?_
              refine E_aload_n rfl rfl ?_
              refine E_iload_n rfl rfl ?_
              refine E_aload_n rfl rfl ?_
              refine E_getfield (v := .ref 73) rfl w65 rfl (by decide) rfl ?_
              refine E_iload_n rfl rfl ?_
              refine E_ialN (l := qW t) (v := (qW t).getD p 0) rfl w73 (by omega) (by omega) rfl ?_
              refine E_callV (v := some (.int (nI (qPr t p ((qW t).getD p 0))))) (As := [.ref 65, .int (nI p), .int (nI ((qW t).getD p 0))]) (r0 := [.int (nI u)]) (cs2 := (ww im lf s d k ls rf rz ra rn rq lt m1 m2 m3 m4 bd fc hd sz el t (fUp (fUp (fUp g 43 (nI v)) 44 (nI h0)) 45 (nI m0)) fm hm so si sh ce ca td wa kp la (lsF (bst t (qPs t 99 (qN t)) (qN t) (2 ^ qN t))) oo bo pw ow tr)) rfl rfl rfl (Nat.le_of_ble_eq_true rfl) rfl (ab_rvOf w65 rfl) (mo_priceFor w_m I (by omega) (by omega)) (by decide) rfl ?_
              refine E_isub (z := nI u - nI (qPr t p ((qW t).getD p 0))) rfl rfl ?_
              refine E_istore_n (L2 := [some (.ref 65), some (.int (nI p)), some (.int (nI u)), some (.int (nI u - nI (qPr t p ((qW t).getD p 0))))]) rfl rfl ?_
              refine E_aload_n rfl rfl ?_
              refine E_iload_n rfl rfl ?_
              refine E_iconst (x := nI 0) rfl (by decide) ?_
              refine E_bipush (x := nI 99) rfl (by decide) ?_
              have e3 : Ev ab_Z0 1 134 [.ref 65, .int (nI u), .int (nI 0), .int (nI 99)] (ww im lf s d k ls rf rz ra rn rq lt m1 m2 m3 m4 bd fc hd sz el t (fUp (fUp (fUp g 43 (nI v)) 44 (nI h0)) 45 (nI m0)) fm hm so si sh ce ca td wa kp la (lsF (bst t (qPs t 99 (qN t)) (qN t) (2 ^ qN t))) oo bo pw ow tr) (some (.int (nI 1)), (ww im lf s d k ls rf rz ra rn rq lt m1 m2 m3 m4 bd fc hd sz el t (fUp (fUp (fUp g 43 (nI v)) 44 (nI h0)) 45 (nI m0)) fm hm so si sh ce ca td wa kp la (lsF (bst t (qPs t 99 (qN t)) (qN t) (2 ^ qN t))) oo bo pw ow tr)) := by
                refine Ef.in (md := mX6_isFrom) (L := [some (.ref 65), some (.int (nI u)), some (.int (nI 0)), some (.int (nI 99))]) rfl (Nat.le_of_ble_eq_true rfl) rfl ?_
                refine E_iload_n rfl rfl ?_
                refine E_iload_n rfl rfl ?_
                refine E_ic (t := 14) (b := false) rfl rfl ((cn_lt (nI_toInt (by omega)) (nI_toInt (by omega))).trans (decide_eq_false (by omega))) ?_
                refine E_iload_n rfl rfl ?_
                refine E_iload_n rfl rfl ?_
                refine E_ic (t := 14) (b := false) rfl rfl ((cn_gt (nI_toInt (by omega)) (nI_toInt (by omega))).trans (decide_eq_false (by omega))) ?_
                refine E_iconst (x := nI 1) rfl (by decide) ?_
                refine E_goto (t := 15) rfl rfl ?_
                exact E_iret rfl rfl
              refine E_callV (v := some (.int (nI 1))) (As := [.ref 65, .int (nI u), .int (nI 0), .int (nI 99)]) (r0 := []) (cs2 := (ww im lf s d k ls rf rz ra rn rq lt m1 m2 m3 m4 bd fc hd sz el t (fUp (fUp (fUp g 43 (nI v)) 44 (nI h0)) 45 (nI m0)) fm hm so si sh ce ca td wa kp la (lsF (bst t (qPs t 99 (qN t)) (qN t) (2 ^ qN t))) oo bo pw ow tr)) rfl rfl rfl (Nat.le_of_ble_eq_true rfl) rfl (ab_rvOf w65 rfl) e3 (by decide) rfl ?_
              refine E_if (t := 39) (b := false) rfl rfl (by decide) ?_
              refine E_iload_n rfl rfl ?_
              refine E_aload_n rfl rfl ?_
              refine E_getfield (v := .ref 71) rfl w65 rfl (by decide) rfl ?_
              refine E_iload_n rfl rfl ?_
              refine E_ialN (l := qU t) (v := (qU t).getD p 0) rfl w71 (by omega) (by omega) rfl ?_
              refine E_ic (t := 39) (b := true) rfl rfl ((cn_gt (nI_toInt (by omega)) (nI_toInt (by omega))).trans (decide_eq_true (by omega))) ?_
              refine E_iconst (x := (-1)) rfl (by decide) ?_
              refine E_goto (t := 48) rfl rfl ?_
              exact E_iret rfl rfl
            refine E_callV (v := some (.int (-1))) (As := [.ref 65, .int (nI p), .int (nI u)]) (r0 := []) (cs2 := (ww im lf s d k ls rf rz ra rn rq lt m1 m2 m3 m4 bd fc hd sz el t (fUp (fUp (fUp g 43 (nI v)) 44 (nI h0)) 45 (nI m0)) fm hm so si sh ce ca td wa kp la (lsF (bst t (qPs t 99 (qN t)) (qN t) (2 ^ qN t))) oo bo pw ow tr)) rfl rfl rfl (Nat.le_of_ble_eq_true rfl) rfl (ab_rvOf w65 rfl) e4 (by decide) rfl ?_
            refine E_goto (t := 87) rfl rfl ?_
            refine E_istore (L2 := [some (.ref 65), some (.int (nI j)), some (.int (nI n)), some (.int (nI v)), some (.int (nI p)), some (.int (nI u)), some (.int (-1))]) rfl rfl ?_
            refine E_iload rfl rfl ?_
            refine E_iconst (x := (-1)) rfl (by decide) ?_
            refine E_ic (t := 97) (b := false) rfl rfl (by decide) ?_
            refine E_iload_n rfl rfl ?_
            exact E_iret rfl rfl
          · by_cases f5 : u < (qPr t p ((qW t).getD p 0))
            · have := qPs_in t 99 (i := qN t) (by omega)
              have hU := I.2.2.2.2.1 p (by omega)
              have : (qW t).length = 6 := by first | omega | (simp only [List.length_set]; omega)
              have := qPr_in I p (w := ((qW t).getD p 0)) (by omega)
              have : (qU t).length = 6 := by first | omega | (simp only [List.length_set]; omega)
              refine ⟨(lsF (bst t (qPs t 99 (qN t)) (qN t) (2 ^ qN t))), (lsF_len _), fun x4 x5 x6 => ?_⟩
              refine E_iload_n rfl rfl ?_
              refine E_iload_n rfl rfl ?_
              refine E_ic (t := 149) (b := false) rfl rfl ((cn_ge (nI_toInt (by omega)) (nI_toInt (by omega))).trans (decide_eq_false (by omega))) ?_
              refine E_aload_n rfl rfl ?_
              refine E_iload_n rfl rfl ?_
              refine E_iconst (x := nI 2) rfl (by decide) ?_
              refine E_iload_n rfl rfl ?_
              refine E_imul (z := nI (2 * v)) rfl (pk_mul _ _) ?_
              refine E_callV (v := some (.int (nI p))) (As := [.ref 65, .int (nI j), .int (nI (2 * v))]) (r0 := []) (cs2 := (ww im lf s d k ls rf rz ra rn rq lt m1 m2 m3 m4 bd fc hd sz el t (fUp (fUp (fUp g 43 (nI v)) 44 (nI h0)) 45 (nI m0)) fm hm so si sh ce ca td wa kp la bf oo bo pw ow tr)) rfl rfl rfl (Nat.le_of_ble_eq_true rfl) rfl (ab_rvOf w65 rfl) (Ev.vi ec (m_intAt (q := 2 * v) hj (by omega) l_ce hce)) (by decide) rfl ?_
              refine E_istore (L2 := [some (.ref 65), some (.int (nI j)), some (.int (nI n)), some (.int (nI v)), some (.int (nI p)), x5, x6]) rfl rfl ?_
              refine E_aload_n rfl rfl ?_
              refine E_iload_n rfl rfl ?_
              refine E_iconst (x := nI 2) rfl (by decide) ?_
              refine E_iload_n rfl rfl ?_
              refine E_imul (z := nI (2 * v)) rfl (pk_mul _ _) ?_
              refine E_iconst (x := nI 1) rfl (by decide) ?_
              refine E_iadd (z := nI ((2 * v) + 1)) rfl (nI_add _ _) ?_
              refine E_callV (v := some (.int (nI u))) (As := [.ref 65, .int (nI j), .int (nI ((2 * v) + 1))]) (r0 := []) (cs2 := (ww im lf s d k ls rf rz ra rn rq lt m1 m2 m3 m4 bd fc hd sz el t (fUp (fUp (fUp g 43 (nI v)) 44 (nI h0)) 45 (nI m0)) fm hm so si sh ce ca td wa kp la bf oo bo pw ow tr)) rfl rfl rfl (Nat.le_of_ble_eq_true rfl) rfl (ab_rvOf w65 rfl) (Ev.vi eu (m_intAt (q := (2 * v) + 1) hj (by omega) l_ce hce)) (by decide) rfl ?_
              refine E_istore (L2 := [some (.ref 65), some (.int (nI j)), some (.int (nI n)), some (.int (nI v)), some (.int (nI p)), some (.int (nI u)), x6]) rfl rfl ?_
              refine E_aload_n rfl rfl ?_
              refine E_aload_n rfl rfl ?_
              refine E_bipush (x := nI 99) rfl (by decide) ?_
              refine E_callV (v := some (.int (nI (qPs t 99 (qN t))))) (As := [.ref 65, .int (nI 99)]) (r0 := [.ref 65]) (cs2 := (ww im lf s d k ls rf rz ra rn rq lt m1 m2 m3 m4 bd fc hd sz el t (fUp (fUp (fUp g 43 (nI v)) 44 (nI h0)) 45 (nI m0)) fm hm so si sh ce ca td wa kp la bf oo bo pw ow tr)) rfl rfl rfl (Nat.le_of_ble_eq_true rfl) rfl (ab_rvOf w65 rfl) (mo_piecesOf w_m I (by omega)) (by decide) rfl ?_
              refine E_callV (v := none) (As := [.ref 65, .int (nI (qPs t 99 (qN t)))]) (r0 := []) (cs2 := (ww im lf s d k ls rf rz ra rn rq lt m1 m2 m3 m4 bd fc hd sz el t (fUp (fUp (fUp g 43 (nI v)) 44 (nI h0)) 45 (nI m0)) fm hm so si sh ce ca td wa kp la (lsF (bst t (qPs t 99 (qN t)) (qN t) (2 ^ qN t))) oo bo pw ow tr)) rfl rfl rfl (Nat.le_of_ble_eq_true rfl) rfl (ab_rvOf w65 rfl) (w_best (m := qPs t 99 (qN t)) I (by omega) l_bf) (by decide) w_lens ?_
              refine E_aload_n rfl rfl ?_
              refine E_iload rfl rfl ?_
              have e1 : Ev ab_Z0 1 133 [.ref 65, .int (nI p)] (ww im lf s d k ls rf rz ra rn rq lt m1 m2 m3 m4 bd fc hd sz el t (fUp (fUp (fUp g 43 (nI v)) 44 (nI h0)) 45 (nI m0)) fm hm so si sh ce ca td wa kp la (lsF (bst t (qPs t 99 (qN t)) (qN t) (2 ^ qN t))) oo bo pw ow tr) (some (.int (nI 1)), (ww im lf s d k ls rf rz ra rn rq lt m1 m2 m3 m4 bd fc hd sz el t (fUp (fUp (fUp g 43 (nI v)) 44 (nI h0)) 45 (nI m0)) fm hm so si sh ce ca td wa kp la (lsF (bst t (qPs t 99 (qN t)) (qN t) (2 ^ qN t))) oo bo pw ow tr)) := by
                refine Ef.in (md := mX6_isOne) (L := [some (.ref 65), some (.int (nI p))]) rfl (Nat.le_of_ble_eq_true rfl) rfl ?_
                refine E_iload_n rfl rfl ?_
                refine E_if (t := 16) (b := false) rfl rfl ((cn_lt (nI_toInt (by omega)) (by decide : (0 : Int32).toInt = 0)).trans (decide_eq_false (by omega))) ?_
                refine E_iload_n rfl rfl ?_
                refine E_aload_n rfl rfl ?_
                refine E_getfield (v := .int (nI (qM t))) rfl w65 rfl (by decide) rfl ?_
                refine E_ic (t := 16) (b := false) rfl rfl ((cn_ge (nI_toInt (by omega)) (nI_toInt (by omega))).trans (decide_eq_false (by omega))) ?_
                refine E_iconst (x := nI 1) rfl (by decide) ?_
                refine E_goto (t := 17) rfl rfl ?_
                exact E_iret rfl rfl
              refine E_callV (v := some (.int (nI 1))) (As := [.ref 65, .int (nI p)]) (r0 := []) (cs2 := (ww im lf s d k ls rf rz ra rn rq lt m1 m2 m3 m4 bd fc hd sz el t (fUp (fUp (fUp g 43 (nI v)) 44 (nI h0)) 45 (nI m0)) fm hm so si sh ce ca td wa kp la (lsF (bst t (qPs t 99 (qN t)) (qN t) (2 ^ qN t))) oo bo pw ow tr)) rfl rfl rfl (Nat.le_of_ble_eq_true rfl) rfl (ab_rvOf w65 rfl) e1 (by decide) rfl ?_
              refine E_if (t := 86) (b := false) rfl rfl (by decide) ?_
              refine E_aload_n rfl rfl ?_
              refine E_iload rfl rfl ?_
              refine E_iconst (x := nI 0) rfl (by decide) ?_
              refine E_bipush (x := nI 99) rfl (by decide) ?_
              have e2 : Ev ab_Z0 1 134 [.ref 65, .int (nI u), .int (nI 0), .int (nI 99)] (ww im lf s d k ls rf rz ra rn rq lt m1 m2 m3 m4 bd fc hd sz el t (fUp (fUp (fUp g 43 (nI v)) 44 (nI h0)) 45 (nI m0)) fm hm so si sh ce ca td wa kp la (lsF (bst t (qPs t 99 (qN t)) (qN t) (2 ^ qN t))) oo bo pw ow tr) (some (.int (nI 1)), (ww im lf s d k ls rf rz ra rn rq lt m1 m2 m3 m4 bd fc hd sz el t (fUp (fUp (fUp g 43 (nI v)) 44 (nI h0)) 45 (nI m0)) fm hm so si sh ce ca td wa kp la (lsF (bst t (qPs t 99 (qN t)) (qN t) (2 ^ qN t))) oo bo pw ow tr)) := by
                refine Ef.in (md := mX6_isFrom) (L := [some (.ref 65), some (.int (nI u)), some (.int (nI 0)), some (.int (nI 99))]) rfl (Nat.le_of_ble_eq_true rfl) rfl ?_
                refine E_iload_n rfl rfl ?_
                refine E_iload_n rfl rfl ?_
                refine E_ic (t := 14) (b := false) rfl rfl ((cn_lt (nI_toInt (by omega)) (nI_toInt (by omega))).trans (decide_eq_false (by omega))) ?_
                refine E_iload_n rfl rfl ?_
                refine E_iload_n rfl rfl ?_
                refine E_ic (t := 14) (b := false) rfl rfl ((cn_gt (nI_toInt (by omega)) (nI_toInt (by omega))).trans (decide_eq_false (by omega))) ?_
                refine E_iconst (x := nI 1) rfl (by decide) ?_
                refine E_goto (t := 15) rfl rfl ?_
                exact E_iret rfl rfl
              refine E_callV (v := some (.int (nI 1))) (As := [.ref 65, .int (nI u), .int (nI 0), .int (nI 99)]) (r0 := []) (cs2 := (ww im lf s d k ls rf rz ra rn rq lt m1 m2 m3 m4 bd fc hd sz el t (fUp (fUp (fUp g 43 (nI v)) 44 (nI h0)) 45 (nI m0)) fm hm so si sh ce ca td wa kp la (lsF (bst t (qPs t 99 (qN t)) (qN t) (2 ^ qN t))) oo bo pw ow tr)) rfl rfl rfl (Nat.le_of_ble_eq_true rfl) rfl (ab_rvOf w65 rfl) e2 (by decide) rfl ?_
              refine E_if (t := 86) (b := false) rfl rfl (by decide) ?_
              refine E_aload_n rfl rfl ?_
              refine E_iload rfl rfl ?_
              refine E_iload rfl rfl ?_
              have e4 : Ev ab_Z0 2 176 [.ref 65, .int (nI p), .int (nI u)] (ww im lf s d k ls rf rz ra rn rq lt m1 m2 m3 m4 bd fc hd sz el t (fUp (fUp (fUp g 43 (nI v)) 44 (nI h0)) 45 (nI m0)) fm hm so si sh ce ca td wa kp la (lsF (bst t (qPs t 99 (qN t)) (qN t) (2 ^ qN t))) oo bo pw ow tr) (some (.int (-1)), (ww im lf s d k ls rf rz ra rn rq lt m1 m2 m3 m4 bd fc hd sz el t (fUp (fUp (fUp g 43 (nI v)) 44 (nI h0)) 45 (nI m0)) fm hm so si sh ce ca td wa kp la (lsF (bst t (qPs t 99 (qN t)) (qN t) (2 ^ qN t))) oo bo pw ow tr)) := by
                refine Ef.in (md := mX6_thrown) (L := [some (.ref 65), some (.int (nI p)), some (.int (nI u)), none]) rfl (Nat.le_of_ble_eq_true rfl) rfl ?_
                refine E_iload_n rfl rfl ?_
                refine E_aload_n rfl rfl ?_
                refine E_iload_n rfl rfl ?_
                refine E_aload_n rfl rfl ?_
                refine E_getfield (v := .ref 73) rfl w65 rfl (by decide) rfl ?_
                refine E_iload_n rfl rfl ?_
                refine E_ialN (l := qW t) (v := (qW t).getD p 0) rfl w73 (by omega) (by omega) rfl ?_
                refine E_callV (v := some (.int (nI (qPr t p ((qW t).getD p 0))))) (As := [.ref 65, .int (nI p), .int (nI ((qW t).getD p 0))]) (r0 := [.int (nI u)]) (cs2 := (ww im lf s d k ls rf rz ra rn rq lt m1 m2 m3 m4 bd fc hd sz el t (fUp (fUp (fUp g 43 (nI v)) 44 (nI h0)) 45 (nI m0)) fm hm so si sh ce ca td wa kp la (lsF (bst t (qPs t 99 (qN t)) (qN t) (2 ^ qN t))) oo bo pw ow tr)) rfl rfl rfl (Nat.le_of_ble_eq_true rfl) rfl (ab_rvOf w65 rfl) (mo_priceFor w_m I (by omega) (by omega)) (by decide) rfl ?_
                refine E_isub (z := nI u - nI (qPr t p ((qW t).getD p 0))) rfl rfl ?_
                refine E_istore_n (L2 := [some (.ref 65), some (.int (nI p)), some (.int (nI u)), some (.int (nI u - nI (qPr t p ((qW t).getD p 0))))]) rfl rfl ?_
                refine E_aload_n rfl rfl ?_
                refine E_iload_n rfl rfl ?_
                refine E_iconst (x := nI 0) rfl (by decide) ?_
                refine E_bipush (x := nI 99) rfl (by decide) ?_
                have e3 : Ev ab_Z0 1 134 [.ref 65, .int (nI u), .int (nI 0), .int (nI 99)] (ww im lf s d k ls rf rz ra rn rq lt m1 m2 m3 m4 bd fc hd sz el t (fUp (fUp (fUp g 43 (nI v)) 44 (nI h0)) 45 (nI m0)) fm hm so si sh ce ca td wa kp la (lsF (bst t (qPs t 99 (qN t)) (qN t) (2 ^ qN t))) oo bo pw ow tr) (some (.int (nI 1)), (ww im lf s d k ls rf rz ra rn rq lt m1 m2 m3 m4 bd fc hd sz el t (fUp (fUp (fUp g 43 (nI v)) 44 (nI h0)) 45 (nI m0)) fm hm so si sh ce ca td wa kp la (lsF (bst t (qPs t 99 (qN t)) (qN t) (2 ^ qN t))) oo bo pw ow tr)) := by
                  refine Ef.in (md := mX6_isFrom) (L := [some (.ref 65), some (.int (nI u)), some (.int (nI 0)), some (.int (nI 99))]) rfl (Nat.le_of_ble_eq_true rfl) rfl ?_
                  refine E_iload_n rfl rfl ?_
                  refine E_iload_n rfl rfl ?_
                  refine E_ic (t := 14) (b := false) rfl rfl ((cn_lt (nI_toInt (by omega)) (nI_toInt (by omega))).trans (decide_eq_false (by omega))) ?_
                  refine E_iload_n rfl rfl ?_
                  refine E_iload_n rfl rfl ?_
                  refine E_ic (t := 14) (b := false) rfl rfl ((cn_gt (nI_toInt (by omega)) (nI_toInt (by omega))).trans (decide_eq_false (by omega))) ?_
                  refine E_iconst (x := nI 1) rfl (by decide) ?_
                  refine E_goto (t := 15) rfl rfl ?_
                  exact E_iret rfl rfl
                refine E_callV (v := some (.int (nI 1))) (As := [.ref 65, .int (nI u), .int (nI 0), .int (nI 99)]) (r0 := []) (cs2 := (ww im lf s d k ls rf rz ra rn rq lt m1 m2 m3 m4 bd fc hd sz el t (fUp (fUp (fUp g 43 (nI v)) 44 (nI h0)) 45 (nI m0)) fm hm so si sh ce ca td wa kp la (lsF (bst t (qPs t 99 (qN t)) (qN t) (2 ^ qN t))) oo bo pw ow tr)) rfl rfl rfl (Nat.le_of_ble_eq_true rfl) rfl (ab_rvOf w65 rfl) e3 (by decide) rfl ?_
                refine E_if (t := 39) (b := false) rfl rfl (by decide) ?_
                refine E_iload_n rfl rfl ?_
                refine E_aload_n rfl rfl ?_
                refine E_getfield (v := .ref 71) rfl w65 rfl (by decide) rfl ?_
                refine E_iload_n rfl rfl ?_
                refine E_ialN (l := qU t) (v := (qU t).getD p 0) rfl w71 (by omega) (by omega) rfl ?_
                refine E_ic (t := 39) (b := false) rfl rfl ((cn_gt (nI_toInt (by omega)) (nI_toInt (by omega))).trans (decide_eq_false (by omega))) ?_
                refine E_iload_n rfl rfl ?_
                refine E_if (t := 43) (b := false) rfl rfl ((cn_ge (ab_subI (by omega) (by omega)) (by decide : (0 : Int32).toInt = 0)).trans (decide_eq_false (by omega))) ?_
                refine E_iconst (x := (-1)) rfl (by decide) ?_
                refine E_goto (t := 48) rfl rfl ?_
                exact E_iret rfl rfl
              refine E_callV (v := some (.int (-1))) (As := [.ref 65, .int (nI p), .int (nI u)]) (r0 := []) (cs2 := (ww im lf s d k ls rf rz ra rn rq lt m1 m2 m3 m4 bd fc hd sz el t (fUp (fUp (fUp g 43 (nI v)) 44 (nI h0)) 45 (nI m0)) fm hm so si sh ce ca td wa kp la (lsF (bst t (qPs t 99 (qN t)) (qN t) (2 ^ qN t))) oo bo pw ow tr)) rfl rfl rfl (Nat.le_of_ble_eq_true rfl) rfl (ab_rvOf w65 rfl) e4 (by decide) rfl ?_
              refine E_goto (t := 87) rfl rfl ?_
              refine E_istore (L2 := [some (.ref 65), some (.int (nI j)), some (.int (nI n)), some (.int (nI v)), some (.int (nI p)), some (.int (nI u)), some (.int (-1))]) rfl rfl ?_
              refine E_iload rfl rfl ?_
              refine E_iconst (x := (-1)) rfl (by decide) ?_
              refine E_ic (t := 97) (b := false) rfl rfl (by decide) ?_
              refine E_iload_n rfl rfl ?_
              exact E_iret rfl rfl
            · rcases I.2.2.2.2.2.2 with er | er
              · rcases wgh_bst t (qPs t 99 (qN t)) (qN t) (u - (qPr t p ((qW t).getD p 0))) with ⟨eb0, fb0⟩ | ⟨B0, hB0, hs0, hw0, hb0, hk0⟩
                · have := qPs_in t 99 (i := qN t) (by omega)
                  have hU := I.2.2.2.2.1 p (by omega)
                  have : (qW t).length = 6 := by first | omega | (simp only [List.length_set]; omega)
                  have := qPr_in I p (w := ((qW t).getD p 0)) (by omega)
                  have : (qU t).length = 6 := by first | omega | (simp only [List.length_set]; omega)
                  have er2 : (qR t).toInt = 0 := by rw [er]; rfl
                  have := lsF_len (bst t (qPs t 99 (qN t)) (qN t) (2 ^ qN t))
                  refine ⟨(lsF (bst t (qPs t 99 (qN t)) (qN t) (2 ^ qN t))), (lsF_len _), fun x4 x5 x6 => ?_⟩
                  refine E_iload_n rfl rfl ?_
                  refine E_iload_n rfl rfl ?_
                  refine E_ic (t := 149) (b := false) rfl rfl ((cn_ge (nI_toInt (by omega)) (nI_toInt (by omega))).trans (decide_eq_false (by omega))) ?_
                  refine E_aload_n rfl rfl ?_
                  refine E_iload_n rfl rfl ?_
                  refine E_iconst (x := nI 2) rfl (by decide) ?_
                  refine E_iload_n rfl rfl ?_
                  refine E_imul (z := nI (2 * v)) rfl (pk_mul _ _) ?_
                  refine E_callV (v := some (.int (nI p))) (As := [.ref 65, .int (nI j), .int (nI (2 * v))]) (r0 := []) (cs2 := (ww im lf s d k ls rf rz ra rn rq lt m1 m2 m3 m4 bd fc hd sz el t (fUp (fUp (fUp g 43 (nI v)) 44 (nI h0)) 45 (nI m0)) fm hm so si sh ce ca td wa kp la bf oo bo pw ow tr)) rfl rfl rfl (Nat.le_of_ble_eq_true rfl) rfl (ab_rvOf w65 rfl) (Ev.vi ec (m_intAt (q := 2 * v) hj (by omega) l_ce hce)) (by decide) rfl ?_
                  refine E_istore (L2 := [some (.ref 65), some (.int (nI j)), some (.int (nI n)), some (.int (nI v)), some (.int (nI p)), x5, x6]) rfl rfl ?_
                  refine E_aload_n rfl rfl ?_
                  refine E_iload_n rfl rfl ?_
                  refine E_iconst (x := nI 2) rfl (by decide) ?_
                  refine E_iload_n rfl rfl ?_
                  refine E_imul (z := nI (2 * v)) rfl (pk_mul _ _) ?_
                  refine E_iconst (x := nI 1) rfl (by decide) ?_
                  refine E_iadd (z := nI ((2 * v) + 1)) rfl (nI_add _ _) ?_
                  refine E_callV (v := some (.int (nI u))) (As := [.ref 65, .int (nI j), .int (nI ((2 * v) + 1))]) (r0 := []) (cs2 := (ww im lf s d k ls rf rz ra rn rq lt m1 m2 m3 m4 bd fc hd sz el t (fUp (fUp (fUp g 43 (nI v)) 44 (nI h0)) 45 (nI m0)) fm hm so si sh ce ca td wa kp la bf oo bo pw ow tr)) rfl rfl rfl (Nat.le_of_ble_eq_true rfl) rfl (ab_rvOf w65 rfl) (Ev.vi eu (m_intAt (q := (2 * v) + 1) hj (by omega) l_ce hce)) (by decide) rfl ?_
                  refine E_istore (L2 := [some (.ref 65), some (.int (nI j)), some (.int (nI n)), some (.int (nI v)), some (.int (nI p)), some (.int (nI u)), x6]) rfl rfl ?_
                  refine E_aload_n rfl rfl ?_
                  refine E_aload_n rfl rfl ?_
                  refine E_bipush (x := nI 99) rfl (by decide) ?_
                  refine E_callV (v := some (.int (nI (qPs t 99 (qN t))))) (As := [.ref 65, .int (nI 99)]) (r0 := [.ref 65]) (cs2 := (ww im lf s d k ls rf rz ra rn rq lt m1 m2 m3 m4 bd fc hd sz el t (fUp (fUp (fUp g 43 (nI v)) 44 (nI h0)) 45 (nI m0)) fm hm so si sh ce ca td wa kp la bf oo bo pw ow tr)) rfl rfl rfl (Nat.le_of_ble_eq_true rfl) rfl (ab_rvOf w65 rfl) (mo_piecesOf w_m I (by omega)) (by decide) rfl ?_
                  refine E_callV (v := none) (As := [.ref 65, .int (nI (qPs t 99 (qN t)))]) (r0 := []) (cs2 := (ww im lf s d k ls rf rz ra rn rq lt m1 m2 m3 m4 bd fc hd sz el t (fUp (fUp (fUp g 43 (nI v)) 44 (nI h0)) 45 (nI m0)) fm hm so si sh ce ca td wa kp la (lsF (bst t (qPs t 99 (qN t)) (qN t) (2 ^ qN t))) oo bo pw ow tr)) rfl rfl rfl (Nat.le_of_ble_eq_true rfl) rfl (ab_rvOf w65 rfl) (w_best (m := qPs t 99 (qN t)) I (by omega) l_bf) (by decide) w_lens ?_
                  refine E_aload_n rfl rfl ?_
                  refine E_iload rfl rfl ?_
                  have e1 : Ev ab_Z0 1 133 [.ref 65, .int (nI p)] (ww im lf s d k ls rf rz ra rn rq lt m1 m2 m3 m4 bd fc hd sz el t (fUp (fUp (fUp g 43 (nI v)) 44 (nI h0)) 45 (nI m0)) fm hm so si sh ce ca td wa kp la (lsF (bst t (qPs t 99 (qN t)) (qN t) (2 ^ qN t))) oo bo pw ow tr) (some (.int (nI 1)), (ww im lf s d k ls rf rz ra rn rq lt m1 m2 m3 m4 bd fc hd sz el t (fUp (fUp (fUp g 43 (nI v)) 44 (nI h0)) 45 (nI m0)) fm hm so si sh ce ca td wa kp la (lsF (bst t (qPs t 99 (qN t)) (qN t) (2 ^ qN t))) oo bo pw ow tr)) := by
                    refine Ef.in (md := mX6_isOne) (L := [some (.ref 65), some (.int (nI p))]) rfl (Nat.le_of_ble_eq_true rfl) rfl ?_
                    refine E_iload_n rfl rfl ?_
                    refine E_if (t := 16) (b := false) rfl rfl ((cn_lt (nI_toInt (by omega)) (by decide : (0 : Int32).toInt = 0)).trans (decide_eq_false (by omega))) ?_
                    refine E_iload_n rfl rfl ?_
                    refine E_aload_n rfl rfl ?_
                    refine E_getfield (v := .int (nI (qM t))) rfl w65 rfl (by decide) rfl ?_
                    refine E_ic (t := 16) (b := false) rfl rfl ((cn_ge (nI_toInt (by omega)) (nI_toInt (by omega))).trans (decide_eq_false (by omega))) ?_
                    refine E_iconst (x := nI 1) rfl (by decide) ?_
                    refine E_goto (t := 17) rfl rfl ?_
                    exact E_iret rfl rfl
                  refine E_callV (v := some (.int (nI 1))) (As := [.ref 65, .int (nI p)]) (r0 := []) (cs2 := (ww im lf s d k ls rf rz ra rn rq lt m1 m2 m3 m4 bd fc hd sz el t (fUp (fUp (fUp g 43 (nI v)) 44 (nI h0)) 45 (nI m0)) fm hm so si sh ce ca td wa kp la (lsF (bst t (qPs t 99 (qN t)) (qN t) (2 ^ qN t))) oo bo pw ow tr)) rfl rfl rfl (Nat.le_of_ble_eq_true rfl) rfl (ab_rvOf w65 rfl) e1 (by decide) rfl ?_
                  refine E_if (t := 86) (b := false) rfl rfl (by decide) ?_
                  refine E_aload_n rfl rfl ?_
                  refine E_iload rfl rfl ?_
                  refine E_iconst (x := nI 0) rfl (by decide) ?_
                  refine E_bipush (x := nI 99) rfl (by decide) ?_
                  have e2 : Ev ab_Z0 1 134 [.ref 65, .int (nI u), .int (nI 0), .int (nI 99)] (ww im lf s d k ls rf rz ra rn rq lt m1 m2 m3 m4 bd fc hd sz el t (fUp (fUp (fUp g 43 (nI v)) 44 (nI h0)) 45 (nI m0)) fm hm so si sh ce ca td wa kp la (lsF (bst t (qPs t 99 (qN t)) (qN t) (2 ^ qN t))) oo bo pw ow tr) (some (.int (nI 1)), (ww im lf s d k ls rf rz ra rn rq lt m1 m2 m3 m4 bd fc hd sz el t (fUp (fUp (fUp g 43 (nI v)) 44 (nI h0)) 45 (nI m0)) fm hm so si sh ce ca td wa kp la (lsF (bst t (qPs t 99 (qN t)) (qN t) (2 ^ qN t))) oo bo pw ow tr)) := by
                    refine Ef.in (md := mX6_isFrom) (L := [some (.ref 65), some (.int (nI u)), some (.int (nI 0)), some (.int (nI 99))]) rfl (Nat.le_of_ble_eq_true rfl) rfl ?_
                    refine E_iload_n rfl rfl ?_
                    refine E_iload_n rfl rfl ?_
                    refine E_ic (t := 14) (b := false) rfl rfl ((cn_lt (nI_toInt (by omega)) (nI_toInt (by omega))).trans (decide_eq_false (by omega))) ?_
                    refine E_iload_n rfl rfl ?_
                    refine E_iload_n rfl rfl ?_
                    refine E_ic (t := 14) (b := false) rfl rfl ((cn_gt (nI_toInt (by omega)) (nI_toInt (by omega))).trans (decide_eq_false (by omega))) ?_
                    refine E_iconst (x := nI 1) rfl (by decide) ?_
                    refine E_goto (t := 15) rfl rfl ?_
                    exact E_iret rfl rfl
                  refine E_callV (v := some (.int (nI 1))) (As := [.ref 65, .int (nI u), .int (nI 0), .int (nI 99)]) (r0 := []) (cs2 := (ww im lf s d k ls rf rz ra rn rq lt m1 m2 m3 m4 bd fc hd sz el t (fUp (fUp (fUp g 43 (nI v)) 44 (nI h0)) 45 (nI m0)) fm hm so si sh ce ca td wa kp la (lsF (bst t (qPs t 99 (qN t)) (qN t) (2 ^ qN t))) oo bo pw ow tr)) rfl rfl rfl (Nat.le_of_ble_eq_true rfl) rfl (ab_rvOf w65 rfl) e2 (by decide) rfl ?_
                  refine E_if (t := 86) (b := false) rfl rfl (by decide) ?_
                  refine E_aload_n rfl rfl ?_
                  refine E_iload rfl rfl ?_
                  refine E_iload rfl rfl ?_
                  have e5 : Ev ab_Z0 2 176 [.ref 65, .int (nI p), .int (nI u)] (ww im lf s d k ls rf rz ra rn rq lt m1 m2 m3 m4 bd fc hd sz el t (fUp (fUp (fUp g 43 (nI v)) 44 (nI h0)) 45 (nI m0)) fm hm so si sh ce ca td wa kp la (lsF (bst t (qPs t 99 (qN t)) (qN t) (2 ^ qN t))) oo bo pw ow tr) (some (.int (-1)), (ww im lf s d k ls rf rz ra rn rq lt m1 m2 m3 m4 bd fc hd sz el t (fUp (fUp (fUp g 43 (nI v)) 44 (nI h0)) 45 (nI m0)) fm hm so si sh ce ca td wa kp la (lsF (bst t (qPs t 99 (qN t)) (qN t) (2 ^ qN t))) oo bo pw ow tr)) := by
                    refine Ef.in (md := mX6_thrown) (L := [some (.ref 65), some (.int (nI p)), some (.int (nI u)), none]) rfl (Nat.le_of_ble_eq_true rfl) rfl ?_
                    refine E_iload_n rfl rfl ?_
                    refine E_aload_n rfl rfl ?_
                    refine E_iload_n rfl rfl ?_
                    refine E_aload_n rfl rfl ?_
                    refine E_getfield (v := .ref 73) rfl w65 rfl (by decide) rfl ?_
                    refine E_iload_n rfl rfl ?_
                    refine E_ialN (l := qW t) (v := (qW t).getD p 0) rfl w73 (by omega) (by omega) rfl ?_
                    refine E_callV (v := some (.int (nI (qPr t p ((qW t).getD p 0))))) (As := [.ref 65, .int (nI p), .int (nI ((qW t).getD p 0))]) (r0 := [.int (nI u)]) (cs2 := (ww im lf s d k ls rf rz ra rn rq lt m1 m2 m3 m4 bd fc hd sz el t (fUp (fUp (fUp g 43 (nI v)) 44 (nI h0)) 45 (nI m0)) fm hm so si sh ce ca td wa kp la (lsF (bst t (qPs t 99 (qN t)) (qN t) (2 ^ qN t))) oo bo pw ow tr)) rfl rfl rfl (Nat.le_of_ble_eq_true rfl) rfl (ab_rvOf w65 rfl) (mo_priceFor w_m I (by omega) (by omega)) (by decide) rfl ?_
                    refine E_isub (z := nI (u - (qPr t p ((qW t).getD p 0)))) rfl (pk_sub (by omega)) ?_
                    refine E_istore_n (L2 := [some (.ref 65), some (.int (nI p)), some (.int (nI u)), some (.int (nI (u - (qPr t p ((qW t).getD p 0)))))]) rfl rfl ?_
                    refine E_aload_n rfl rfl ?_
                    refine E_iload_n rfl rfl ?_
                    refine E_iconst (x := nI 0) rfl (by decide) ?_
                    refine E_bipush (x := nI 99) rfl (by decide) ?_
                    have e3 : Ev ab_Z0 1 134 [.ref 65, .int (nI u), .int (nI 0), .int (nI 99)] (ww im lf s d k ls rf rz ra rn rq lt m1 m2 m3 m4 bd fc hd sz el t (fUp (fUp (fUp g 43 (nI v)) 44 (nI h0)) 45 (nI m0)) fm hm so si sh ce ca td wa kp la (lsF (bst t (qPs t 99 (qN t)) (qN t) (2 ^ qN t))) oo bo pw ow tr) (some (.int (nI 1)), (ww im lf s d k ls rf rz ra rn rq lt m1 m2 m3 m4 bd fc hd sz el t (fUp (fUp (fUp g 43 (nI v)) 44 (nI h0)) 45 (nI m0)) fm hm so si sh ce ca td wa kp la (lsF (bst t (qPs t 99 (qN t)) (qN t) (2 ^ qN t))) oo bo pw ow tr)) := by
                      refine Ef.in (md := mX6_isFrom) (L := [some (.ref 65), some (.int (nI u)), some (.int (nI 0)), some (.int (nI 99))]) rfl (Nat.le_of_ble_eq_true rfl) rfl ?_
                      refine E_iload_n rfl rfl ?_
                      refine E_iload_n rfl rfl ?_
                      refine E_ic (t := 14) (b := false) rfl rfl ((cn_lt (nI_toInt (by omega)) (nI_toInt (by omega))).trans (decide_eq_false (by omega))) ?_
                      refine E_iload_n rfl rfl ?_
                      refine E_iload_n rfl rfl ?_
                      refine E_ic (t := 14) (b := false) rfl rfl ((cn_gt (nI_toInt (by omega)) (nI_toInt (by omega))).trans (decide_eq_false (by omega))) ?_
                      refine E_iconst (x := nI 1) rfl (by decide) ?_
                      refine E_goto (t := 15) rfl rfl ?_
                      exact E_iret rfl rfl
                    refine E_callV (v := some (.int (nI 1))) (As := [.ref 65, .int (nI u), .int (nI 0), .int (nI 99)]) (r0 := []) (cs2 := (ww im lf s d k ls rf rz ra rn rq lt m1 m2 m3 m4 bd fc hd sz el t (fUp (fUp (fUp g 43 (nI v)) 44 (nI h0)) 45 (nI m0)) fm hm so si sh ce ca td wa kp la (lsF (bst t (qPs t 99 (qN t)) (qN t) (2 ^ qN t))) oo bo pw ow tr)) rfl rfl rfl (Nat.le_of_ble_eq_true rfl) rfl (ab_rvOf w65 rfl) e3 (by decide) rfl ?_
                    refine E_if (t := 39) (b := false) rfl rfl (by decide) ?_
                    refine E_iload_n rfl rfl ?_
                    refine E_aload_n rfl rfl ?_
                    refine E_getfield (v := .ref 71) rfl w65 rfl (by decide) rfl ?_
                    refine E_iload_n rfl rfl ?_
                    refine E_ialN (l := qU t) (v := (qU t).getD p 0) rfl w71 (by omega) (by omega) rfl ?_
                    refine E_ic (t := 39) (b := false) rfl rfl ((cn_gt (nI_toInt (by omega)) (nI_toInt (by omega))).trans (decide_eq_false (by omega))) ?_
                    refine E_iload_n rfl rfl ?_
                    refine E_if (t := 43) (b := true) rfl rfl ((cn_ge (nI_toInt (by omega)) (by decide : (0 : Int32).toInt = 0)).trans (decide_eq_true (by omega))) ?_
                    refine E_aload_n rfl rfl ?_
                    refine E_iload_n rfl rfl ?_
                    have e4 : Ev ab_Z0 1 172 [.ref 65, .int (nI (u - (qPr t p ((qW t).getD p 0))))] (ww im lf s d k ls rf rz ra rn rq lt m1 m2 m3 m4 bd fc hd sz el t (fUp (fUp (fUp g 43 (nI v)) 44 (nI h0)) 45 (nI m0)) fm hm so si sh ce ca td wa kp la (lsF (bst t (qPs t 99 (qN t)) (qN t) (2 ^ qN t))) oo bo pw ow tr) (some (.int (-1)), (ww im lf s d k ls rf rz ra rn rq lt m1 m2 m3 m4 bd fc hd sz el t (fUp (fUp (fUp g 43 (nI v)) 44 (nI h0)) 45 (nI m0)) fm hm so si sh ce ca td wa kp la (lsF (bst t (qPs t 99 (qN t)) (qN t) (2 ^ qN t))) oo bo pw ow tr)) := by
                      refine Ef.in (md := mX6_changeFor) (L := [some (.ref 65), some (.int (nI (u - (qPr t p ((qW t).getD p 0)))))]) rfl (Nat.le_of_ble_eq_true rfl) rfl ?_
                      refine E_aload_n rfl rfl ?_
                      refine E_getfield (v := .int (qR t)) rfl w65 rfl (by decide) rfl ?_
                      refine E_if (t := 16) (b := false) rfl rfl ((cn_ne rfl (by decide : (0 : Int32).toInt = 0)).trans (decide_eq_false (by omega))) ?_
                      refine E_aload_n rfl rfl ?_
                      refine E_getfield (v := .ref 89) rfl w65 rfl (by decide) rfl ?_
                      refine E_iload_n rfl rfl ?_
                      refine E_ialI (l := (lsF (bst t (qPs t 99 (qN t)) (qN t) (2 ^ qN t)))) (v := (-1)) rfl w89 (by omega) (by omega) (by rw [lsF_get (by omega), fb0]; rfl) ?_
                      refine E_goto (t := 21) rfl rfl ?_
                      exact E_iret rfl rfl
                    refine E_callV (v := some (.int (-1))) (As := [.ref 65, .int (nI (u - (qPr t p ((qW t).getD p 0))))]) (r0 := []) (cs2 := (ww im lf s d k ls rf rz ra rn rq lt m1 m2 m3 m4 bd fc hd sz el t (fUp (fUp (fUp g 43 (nI v)) 44 (nI h0)) 45 (nI m0)) fm hm so si sh ce ca td wa kp la (lsF (bst t (qPs t 99 (qN t)) (qN t) (2 ^ qN t))) oo bo pw ow tr)) rfl rfl rfl (Nat.le_of_ble_eq_true rfl) rfl (ab_rvOf w65 rfl) e4 (by decide) rfl ?_
                    exact E_iret rfl rfl
                  refine E_callV (v := some (.int (-1))) (As := [.ref 65, .int (nI p), .int (nI u)]) (r0 := []) (cs2 := (ww im lf s d k ls rf rz ra rn rq lt m1 m2 m3 m4 bd fc hd sz el t (fUp (fUp (fUp g 43 (nI v)) 44 (nI h0)) 45 (nI m0)) fm hm so si sh ce ca td wa kp la (lsF (bst t (qPs t 99 (qN t)) (qN t) (2 ^ qN t))) oo bo pw ow tr)) rfl rfl rfl (Nat.le_of_ble_eq_true rfl) rfl (ab_rvOf w65 rfl) e5 (by decide) rfl ?_
                  refine E_goto (t := 87) rfl rfl ?_
                  refine E_istore (L2 := [some (.ref 65), some (.int (nI j)), some (.int (nI n)), some (.int (nI v)), some (.int (nI p)), some (.int (nI u)), some (.int (-1))]) rfl rfl ?_
                  refine E_iload rfl rfl ?_
                  refine E_iconst (x := (-1)) rfl (by decide) ?_
                  refine E_ic (t := 97) (b := false) rfl rfl (by decide) ?_
                  refine E_iload_n rfl rfl ?_
                  exact E_iret rfl rfl
                · have := qPs_in t 99 (i := qN t) (by omega)
                  have hU := I.2.2.2.2.1 p (by omega)
                  have : (qW t).length = 6 := by first | omega | (simp only [List.length_set]; omega)
                  have := qPr_in I p (w := ((qW t).getD p 0)) (by omega)
                  have : (qU t).length = 6 := by first | omega | (simp only [List.length_set]; omega)
                  have er2 : (qR t).toInt = 0 := by rw [er]; rfl
                  have := lsF_len (bst t (qPs t 99 (qN t)) (qN t) (2 ^ qN t))
                  have w9 : 2 ^ qN t ≤ 2 ^ 9 := Nat.pow_le_pow_right (by decide) (by omega)
                  have e := thr_of (q := t) ec eu (by omega) (by omega) (by omega) (by omega) (by omega)
                  rw [hno] at e
                  unfold chg at e
                  rw [if_pos er, hb0] at e
                  omega
              · rcases hg0 : qGreedy t (u - (qPr t p ((qW t).getD p 0))) with _ | gj0
                · have := qPs_in t 99 (i := qN t) (by omega)
                  have hU := I.2.2.2.2.1 p (by omega)
                  have : (qW t).length = 6 := by first | omega | (simp only [List.length_set]; omega)
                  have := qPr_in I p (w := ((qW t).getD p 0)) (by omega)
                  have : (qU t).length = 6 := by first | omega | (simp only [List.length_set]; omega)
                  have er2 : (qR t).toInt = 1 := by rw [er]; rfl
                  refine ⟨(lsF (bst t (qPs t 99 (qN t)) (qN t) (2 ^ qN t))), (lsF_len _), fun x4 x5 x6 => ?_⟩
                  refine E_iload_n rfl rfl ?_
                  refine E_iload_n rfl rfl ?_
                  refine E_ic (t := 149) (b := false) rfl rfl ((cn_ge (nI_toInt (by omega)) (nI_toInt (by omega))).trans (decide_eq_false (by omega))) ?_
                  refine E_aload_n rfl rfl ?_
                  refine E_iload_n rfl rfl ?_
                  refine E_iconst (x := nI 2) rfl (by decide) ?_
                  refine E_iload_n rfl rfl ?_
                  refine E_imul (z := nI (2 * v)) rfl (pk_mul _ _) ?_
                  refine E_callV (v := some (.int (nI p))) (As := [.ref 65, .int (nI j), .int (nI (2 * v))]) (r0 := []) (cs2 := (ww im lf s d k ls rf rz ra rn rq lt m1 m2 m3 m4 bd fc hd sz el t (fUp (fUp (fUp g 43 (nI v)) 44 (nI h0)) 45 (nI m0)) fm hm so si sh ce ca td wa kp la bf oo bo pw ow tr)) rfl rfl rfl (Nat.le_of_ble_eq_true rfl) rfl (ab_rvOf w65 rfl) (Ev.vi ec (m_intAt (q := 2 * v) hj (by omega) l_ce hce)) (by decide) rfl ?_
                  refine E_istore (L2 := [some (.ref 65), some (.int (nI j)), some (.int (nI n)), some (.int (nI v)), some (.int (nI p)), x5, x6]) rfl rfl ?_
                  refine E_aload_n rfl rfl ?_
                  refine E_iload_n rfl rfl ?_
                  refine E_iconst (x := nI 2) rfl (by decide) ?_
                  refine E_iload_n rfl rfl ?_
                  refine E_imul (z := nI (2 * v)) rfl (pk_mul _ _) ?_
                  refine E_iconst (x := nI 1) rfl (by decide) ?_
                  refine E_iadd (z := nI ((2 * v) + 1)) rfl (nI_add _ _) ?_
                  refine E_callV (v := some (.int (nI u))) (As := [.ref 65, .int (nI j), .int (nI ((2 * v) + 1))]) (r0 := []) (cs2 := (ww im lf s d k ls rf rz ra rn rq lt m1 m2 m3 m4 bd fc hd sz el t (fUp (fUp (fUp g 43 (nI v)) 44 (nI h0)) 45 (nI m0)) fm hm so si sh ce ca td wa kp la bf oo bo pw ow tr)) rfl rfl rfl (Nat.le_of_ble_eq_true rfl) rfl (ab_rvOf w65 rfl) (Ev.vi eu (m_intAt (q := (2 * v) + 1) hj (by omega) l_ce hce)) (by decide) rfl ?_
                  refine E_istore (L2 := [some (.ref 65), some (.int (nI j)), some (.int (nI n)), some (.int (nI v)), some (.int (nI p)), some (.int (nI u)), x6]) rfl rfl ?_
                  refine E_aload_n rfl rfl ?_
                  refine E_aload_n rfl rfl ?_
                  refine E_bipush (x := nI 99) rfl (by decide) ?_
                  refine E_callV (v := some (.int (nI (qPs t 99 (qN t))))) (As := [.ref 65, .int (nI 99)]) (r0 := [.ref 65]) (cs2 := (ww im lf s d k ls rf rz ra rn rq lt m1 m2 m3 m4 bd fc hd sz el t (fUp (fUp (fUp g 43 (nI v)) 44 (nI h0)) 45 (nI m0)) fm hm so si sh ce ca td wa kp la bf oo bo pw ow tr)) rfl rfl rfl (Nat.le_of_ble_eq_true rfl) rfl (ab_rvOf w65 rfl) (mo_piecesOf w_m I (by omega)) (by decide) rfl ?_
                  refine E_callV (v := none) (As := [.ref 65, .int (nI (qPs t 99 (qN t)))]) (r0 := []) (cs2 := (ww im lf s d k ls rf rz ra rn rq lt m1 m2 m3 m4 bd fc hd sz el t (fUp (fUp (fUp g 43 (nI v)) 44 (nI h0)) 45 (nI m0)) fm hm so si sh ce ca td wa kp la (lsF (bst t (qPs t 99 (qN t)) (qN t) (2 ^ qN t))) oo bo pw ow tr)) rfl rfl rfl (Nat.le_of_ble_eq_true rfl) rfl (ab_rvOf w65 rfl) (w_best (m := qPs t 99 (qN t)) I (by omega) l_bf) (by decide) w_lens ?_
                  refine E_aload_n rfl rfl ?_
                  refine E_iload rfl rfl ?_
                  have e1 : Ev ab_Z0 1 133 [.ref 65, .int (nI p)] (ww im lf s d k ls rf rz ra rn rq lt m1 m2 m3 m4 bd fc hd sz el t (fUp (fUp (fUp g 43 (nI v)) 44 (nI h0)) 45 (nI m0)) fm hm so si sh ce ca td wa kp la (lsF (bst t (qPs t 99 (qN t)) (qN t) (2 ^ qN t))) oo bo pw ow tr) (some (.int (nI 1)), (ww im lf s d k ls rf rz ra rn rq lt m1 m2 m3 m4 bd fc hd sz el t (fUp (fUp (fUp g 43 (nI v)) 44 (nI h0)) 45 (nI m0)) fm hm so si sh ce ca td wa kp la (lsF (bst t (qPs t 99 (qN t)) (qN t) (2 ^ qN t))) oo bo pw ow tr)) := by
                    refine Ef.in (md := mX6_isOne) (L := [some (.ref 65), some (.int (nI p))]) rfl (Nat.le_of_ble_eq_true rfl) rfl ?_
                    refine E_iload_n rfl rfl ?_
                    refine E_if (t := 16) (b := false) rfl rfl ((cn_lt (nI_toInt (by omega)) (by decide : (0 : Int32).toInt = 0)).trans (decide_eq_false (by omega))) ?_
                    refine E_iload_n rfl rfl ?_
                    refine E_aload_n rfl rfl ?_
                    refine E_getfield (v := .int (nI (qM t))) rfl w65 rfl (by decide) rfl ?_
                    refine E_ic (t := 16) (b := false) rfl rfl ((cn_ge (nI_toInt (by omega)) (nI_toInt (by omega))).trans (decide_eq_false (by omega))) ?_
                    refine E_iconst (x := nI 1) rfl (by decide) ?_
                    refine E_goto (t := 17) rfl rfl ?_
                    exact E_iret rfl rfl
                  refine E_callV (v := some (.int (nI 1))) (As := [.ref 65, .int (nI p)]) (r0 := []) (cs2 := (ww im lf s d k ls rf rz ra rn rq lt m1 m2 m3 m4 bd fc hd sz el t (fUp (fUp (fUp g 43 (nI v)) 44 (nI h0)) 45 (nI m0)) fm hm so si sh ce ca td wa kp la (lsF (bst t (qPs t 99 (qN t)) (qN t) (2 ^ qN t))) oo bo pw ow tr)) rfl rfl rfl (Nat.le_of_ble_eq_true rfl) rfl (ab_rvOf w65 rfl) e1 (by decide) rfl ?_
                  refine E_if (t := 86) (b := false) rfl rfl (by decide) ?_
                  refine E_aload_n rfl rfl ?_
                  refine E_iload rfl rfl ?_
                  refine E_iconst (x := nI 0) rfl (by decide) ?_
                  refine E_bipush (x := nI 99) rfl (by decide) ?_
                  have e2 : Ev ab_Z0 1 134 [.ref 65, .int (nI u), .int (nI 0), .int (nI 99)] (ww im lf s d k ls rf rz ra rn rq lt m1 m2 m3 m4 bd fc hd sz el t (fUp (fUp (fUp g 43 (nI v)) 44 (nI h0)) 45 (nI m0)) fm hm so si sh ce ca td wa kp la (lsF (bst t (qPs t 99 (qN t)) (qN t) (2 ^ qN t))) oo bo pw ow tr) (some (.int (nI 1)), (ww im lf s d k ls rf rz ra rn rq lt m1 m2 m3 m4 bd fc hd sz el t (fUp (fUp (fUp g 43 (nI v)) 44 (nI h0)) 45 (nI m0)) fm hm so si sh ce ca td wa kp la (lsF (bst t (qPs t 99 (qN t)) (qN t) (2 ^ qN t))) oo bo pw ow tr)) := by
                    refine Ef.in (md := mX6_isFrom) (L := [some (.ref 65), some (.int (nI u)), some (.int (nI 0)), some (.int (nI 99))]) rfl (Nat.le_of_ble_eq_true rfl) rfl ?_
                    refine E_iload_n rfl rfl ?_
                    refine E_iload_n rfl rfl ?_
                    refine E_ic (t := 14) (b := false) rfl rfl ((cn_lt (nI_toInt (by omega)) (nI_toInt (by omega))).trans (decide_eq_false (by omega))) ?_
                    refine E_iload_n rfl rfl ?_
                    refine E_iload_n rfl rfl ?_
                    refine E_ic (t := 14) (b := false) rfl rfl ((cn_gt (nI_toInt (by omega)) (nI_toInt (by omega))).trans (decide_eq_false (by omega))) ?_
                    refine E_iconst (x := nI 1) rfl (by decide) ?_
                    refine E_goto (t := 15) rfl rfl ?_
                    exact E_iret rfl rfl
                  refine E_callV (v := some (.int (nI 1))) (As := [.ref 65, .int (nI u), .int (nI 0), .int (nI 99)]) (r0 := []) (cs2 := (ww im lf s d k ls rf rz ra rn rq lt m1 m2 m3 m4 bd fc hd sz el t (fUp (fUp (fUp g 43 (nI v)) 44 (nI h0)) 45 (nI m0)) fm hm so si sh ce ca td wa kp la (lsF (bst t (qPs t 99 (qN t)) (qN t) (2 ^ qN t))) oo bo pw ow tr)) rfl rfl rfl (Nat.le_of_ble_eq_true rfl) rfl (ab_rvOf w65 rfl) e2 (by decide) rfl ?_
                  refine E_if (t := 86) (b := false) rfl rfl (by decide) ?_
                  refine E_aload_n rfl rfl ?_
                  refine E_iload rfl rfl ?_
                  refine E_iload rfl rfl ?_
                  have e5 : Ev ab_Z0 4 176 [.ref 65, .int (nI p), .int (nI u)] (ww im lf s d k ls rf rz ra rn rq lt m1 m2 m3 m4 bd fc hd sz el t (fUp (fUp (fUp g 43 (nI v)) 44 (nI h0)) 45 (nI m0)) fm hm so si sh ce ca td wa kp la (lsF (bst t (qPs t 99 (qN t)) (qN t) (2 ^ qN t))) oo bo pw ow tr) (some (.int (-1)), (ww im lf s d k ls rf rz ra rn rq lt m1 m2 m3 m4 bd fc hd sz el t (fUp (fUp (fUp g 43 (nI v)) 44 (nI h0)) 45 (nI m0)) fm hm so si sh ce ca td wa kp la (lsF (bst t (qPs t 99 (qN t)) (qN t) (2 ^ qN t))) oo bo pw ow tr)) := by
                    refine Ef.in (md := mX6_thrown) (L := [some (.ref 65), some (.int (nI p)), some (.int (nI u)), none]) rfl (Nat.le_of_ble_eq_true rfl) rfl ?_
                    refine E_iload_n rfl rfl ?_
                    refine E_aload_n rfl rfl ?_
                    refine E_iload_n rfl rfl ?_
                    refine E_aload_n rfl rfl ?_
                    refine E_getfield (v := .ref 73) rfl w65 rfl (by decide) rfl ?_
                    refine E_iload_n rfl rfl ?_
                    refine E_ialN (l := qW t) (v := (qW t).getD p 0) rfl w73 (by omega) (by omega) rfl ?_
                    refine E_callV (v := some (.int (nI (qPr t p ((qW t).getD p 0))))) (As := [.ref 65, .int (nI p), .int (nI ((qW t).getD p 0))]) (r0 := [.int (nI u)]) (cs2 := (ww im lf s d k ls rf rz ra rn rq lt m1 m2 m3 m4 bd fc hd sz el t (fUp (fUp (fUp g 43 (nI v)) 44 (nI h0)) 45 (nI m0)) fm hm so si sh ce ca td wa kp la (lsF (bst t (qPs t 99 (qN t)) (qN t) (2 ^ qN t))) oo bo pw ow tr)) rfl rfl rfl (Nat.le_of_ble_eq_true rfl) rfl (ab_rvOf w65 rfl) (mo_priceFor w_m I (by omega) (by omega)) (by decide) rfl ?_
                    refine E_isub (z := nI (u - (qPr t p ((qW t).getD p 0)))) rfl (pk_sub (by omega)) ?_
                    refine E_istore_n (L2 := [some (.ref 65), some (.int (nI p)), some (.int (nI u)), some (.int (nI (u - (qPr t p ((qW t).getD p 0)))))]) rfl rfl ?_
                    refine E_aload_n rfl rfl ?_
                    refine E_iload_n rfl rfl ?_
                    refine E_iconst (x := nI 0) rfl (by decide) ?_
                    refine E_bipush (x := nI 99) rfl (by decide) ?_
                    have e3 : Ev ab_Z0 1 134 [.ref 65, .int (nI u), .int (nI 0), .int (nI 99)] (ww im lf s d k ls rf rz ra rn rq lt m1 m2 m3 m4 bd fc hd sz el t (fUp (fUp (fUp g 43 (nI v)) 44 (nI h0)) 45 (nI m0)) fm hm so si sh ce ca td wa kp la (lsF (bst t (qPs t 99 (qN t)) (qN t) (2 ^ qN t))) oo bo pw ow tr) (some (.int (nI 1)), (ww im lf s d k ls rf rz ra rn rq lt m1 m2 m3 m4 bd fc hd sz el t (fUp (fUp (fUp g 43 (nI v)) 44 (nI h0)) 45 (nI m0)) fm hm so si sh ce ca td wa kp la (lsF (bst t (qPs t 99 (qN t)) (qN t) (2 ^ qN t))) oo bo pw ow tr)) := by
                      refine Ef.in (md := mX6_isFrom) (L := [some (.ref 65), some (.int (nI u)), some (.int (nI 0)), some (.int (nI 99))]) rfl (Nat.le_of_ble_eq_true rfl) rfl ?_
                      refine E_iload_n rfl rfl ?_
                      refine E_iload_n rfl rfl ?_
                      refine E_ic (t := 14) (b := false) rfl rfl ((cn_lt (nI_toInt (by omega)) (nI_toInt (by omega))).trans (decide_eq_false (by omega))) ?_
                      refine E_iload_n rfl rfl ?_
                      refine E_iload_n rfl rfl ?_
                      refine E_ic (t := 14) (b := false) rfl rfl ((cn_gt (nI_toInt (by omega)) (nI_toInt (by omega))).trans (decide_eq_false (by omega))) ?_
                      refine E_iconst (x := nI 1) rfl (by decide) ?_
                      refine E_goto (t := 15) rfl rfl ?_
                      exact E_iret rfl rfl
                    refine E_callV (v := some (.int (nI 1))) (As := [.ref 65, .int (nI u), .int (nI 0), .int (nI 99)]) (r0 := []) (cs2 := (ww im lf s d k ls rf rz ra rn rq lt m1 m2 m3 m4 bd fc hd sz el t (fUp (fUp (fUp g 43 (nI v)) 44 (nI h0)) 45 (nI m0)) fm hm so si sh ce ca td wa kp la (lsF (bst t (qPs t 99 (qN t)) (qN t) (2 ^ qN t))) oo bo pw ow tr)) rfl rfl rfl (Nat.le_of_ble_eq_true rfl) rfl (ab_rvOf w65 rfl) e3 (by decide) rfl ?_
                    refine E_if (t := 39) (b := false) rfl rfl (by decide) ?_
                    refine E_iload_n rfl rfl ?_
                    refine E_aload_n rfl rfl ?_
                    refine E_getfield (v := .ref 71) rfl w65 rfl (by decide) rfl ?_
                    refine E_iload_n rfl rfl ?_
                    refine E_ialN (l := qU t) (v := (qU t).getD p 0) rfl w71 (by omega) (by omega) rfl ?_
                    refine E_ic (t := 39) (b := false) rfl rfl ((cn_gt (nI_toInt (by omega)) (nI_toInt (by omega))).trans (decide_eq_false (by omega))) ?_
                    refine E_iload_n rfl rfl ?_
                    refine E_if (t := 43) (b := true) rfl rfl ((cn_ge (nI_toInt (by omega)) (by decide : (0 : Int32).toInt = 0)).trans (decide_eq_true (by omega))) ?_
                    refine E_aload_n rfl rfl ?_
                    refine E_iload_n rfl rfl ?_
                    have e4 : Ev ab_Z0 3 172 [.ref 65, .int (nI (u - (qPr t p ((qW t).getD p 0))))] (ww im lf s d k ls rf rz ra rn rq lt m1 m2 m3 m4 bd fc hd sz el t (fUp (fUp (fUp g 43 (nI v)) 44 (nI h0)) 45 (nI m0)) fm hm so si sh ce ca td wa kp la (lsF (bst t (qPs t 99 (qN t)) (qN t) (2 ^ qN t))) oo bo pw ow tr) (some (.int (-1)), (ww im lf s d k ls rf rz ra rn rq lt m1 m2 m3 m4 bd fc hd sz el t (fUp (fUp (fUp g 43 (nI v)) 44 (nI h0)) 45 (nI m0)) fm hm so si sh ce ca td wa kp la (lsF (bst t (qPs t 99 (qN t)) (qN t) (2 ^ qN t))) oo bo pw ow tr)) := by
                      refine Ef.in (md := mX6_changeFor) (L := [some (.ref 65), some (.int (nI (u - (qPr t p ((qW t).getD p 0)))))]) rfl (Nat.le_of_ble_eq_true rfl) rfl ?_
                      refine E_aload_n rfl rfl ?_
                      refine E_getfield (v := .int (qR t)) rfl w65 rfl (by decide) rfl ?_
                      refine E_if (t := 16) (b := true) rfl rfl ((cn_ne rfl (by decide : (0 : Int32).toInt = 0)).trans (decide_eq_true (by omega))) ?_
                      refine E_aload_n rfl rfl ?_
                      refine E_iload_n rfl rfl ?_
                      refine E_callV (v := some (.int (-1))) (As := [.ref 65, .int (nI (u - (qPr t p ((qW t).getD p 0))))]) (r0 := []) (cs2 := (ww im lf s d k ls rf rz ra rn rq lt m1 m2 m3 m4 bd fc hd sz el t (fUp (fUp (fUp g 43 (nI v)) 44 (nI h0)) 45 (nI m0)) fm hm so si sh ce ca td wa kp la (lsF (bst t (qPs t 99 (qN t)) (qN t) (2 ^ qN t))) oo bo pw ow tr)) rfl rfl rfl (Nat.le_of_ble_eq_true rfl) rfl (ab_rvOf w65 rfl) (Ev.g0 hg0 (mo_greedyFor w_m I (by omega))) (by decide) rfl ?_
                      exact E_iret rfl rfl
                    refine E_callV (v := some (.int (-1))) (As := [.ref 65, .int (nI (u - (qPr t p ((qW t).getD p 0))))]) (r0 := []) (cs2 := (ww im lf s d k ls rf rz ra rn rq lt m1 m2 m3 m4 bd fc hd sz el t (fUp (fUp (fUp g 43 (nI v)) 44 (nI h0)) 45 (nI m0)) fm hm so si sh ce ca td wa kp la (lsF (bst t (qPs t 99 (qN t)) (qN t) (2 ^ qN t))) oo bo pw ow tr)) rfl rfl rfl (Nat.le_of_ble_eq_true rfl) rfl (ab_rvOf w65 rfl) e4 (by decide) rfl ?_
                    exact E_iret rfl rfl
                  refine E_callV (v := some (.int (-1))) (As := [.ref 65, .int (nI p), .int (nI u)]) (r0 := []) (cs2 := (ww im lf s d k ls rf rz ra rn rq lt m1 m2 m3 m4 bd fc hd sz el t (fUp (fUp (fUp g 43 (nI v)) 44 (nI h0)) 45 (nI m0)) fm hm so si sh ce ca td wa kp la (lsF (bst t (qPs t 99 (qN t)) (qN t) (2 ^ qN t))) oo bo pw ow tr)) rfl rfl rfl (Nat.le_of_ble_eq_true rfl) rfl (ab_rvOf w65 rfl) e5 (by decide) rfl ?_
                  refine E_goto (t := 87) rfl rfl ?_
                  refine E_istore (L2 := [some (.ref 65), some (.int (nI j)), some (.int (nI n)), some (.int (nI v)), some (.int (nI p)), some (.int (nI u)), some (.int (-1))]) rfl rfl ?_
                  refine E_iload rfl rfl ?_
                  refine E_iconst (x := (-1)) rfl (by decide) ?_
                  refine E_ic (t := 97) (b := false) rfl rfl (by decide) ?_
                  refine E_iload_n rfl rfl ?_
                  exact E_iret rfl rfl
                · have := qPs_in t 99 (i := qN t) (by omega)
                  have hU := I.2.2.2.2.1 p (by omega)
                  have : (qW t).length = 6 := by first | omega | (simp only [List.length_set]; omega)
                  have := qPr_in I p (w := ((qW t).getD p 0)) (by omega)
                  have : (qU t).length = 6 := by first | omega | (simp only [List.length_set]; omega)
                  have er2 : (qR t).toInt = 1 := by rw [er]; rfl
                  have hh0 : gj0 + 1 ≤ 512 := hg0 ▸ qGr_512 I (u - (qPr t p ((qW t).getD p 0)))
                  have e := thr_of (q := t) ec eu (by omega) (by omega) (by omega) (by omega) (by omega)
                  rw [hno] at e
                  unfold chg at e
                  rw [if_neg (by rw [er]; decide), hg0] at e
                  omega
      · have := qPs_in t 99 (i := qN t) (by omega)
        refine ⟨(lsF (bst t (qPs t 99 (qN t)) (qN t) (2 ^ qN t))), (lsF_len _), fun x4 x5 x6 => ?_⟩
        refine E_iload_n rfl rfl ?_
        refine E_iload_n rfl rfl ?_
        refine E_ic (t := 149) (b := false) rfl rfl ((cn_ge (nI_toInt (by omega)) (nI_toInt (by omega))).trans (decide_eq_false (by omega))) ?_
        refine E_aload_n rfl rfl ?_
        refine E_iload_n rfl rfl ?_
        refine E_iconst (x := nI 2) rfl (by decide) ?_
        refine E_iload_n rfl rfl ?_
        refine E_imul (z := nI (2 * v)) rfl (pk_mul _ _) ?_
        refine E_callV (v := some (.int (nI p))) (As := [.ref 65, .int (nI j), .int (nI (2 * v))]) (r0 := []) (cs2 := (ww im lf s d k ls rf rz ra rn rq lt m1 m2 m3 m4 bd fc hd sz el t (fUp (fUp (fUp g 43 (nI v)) 44 (nI h0)) 45 (nI m0)) fm hm so si sh ce ca td wa kp la bf oo bo pw ow tr)) rfl rfl rfl (Nat.le_of_ble_eq_true rfl) rfl (ab_rvOf w65 rfl) (Ev.vi ec (m_intAt (q := 2 * v) hj (by omega) l_ce hce)) (by decide) rfl ?_
        refine E_istore (L2 := [some (.ref 65), some (.int (nI j)), some (.int (nI n)), some (.int (nI v)), some (.int (nI p)), x5, x6]) rfl rfl ?_
        refine E_aload_n rfl rfl ?_
        refine E_iload_n rfl rfl ?_
        refine E_iconst (x := nI 2) rfl (by decide) ?_
        refine E_iload_n rfl rfl ?_
        refine E_imul (z := nI (2 * v)) rfl (pk_mul _ _) ?_
        refine E_iconst (x := nI 1) rfl (by decide) ?_
        refine E_iadd (z := nI ((2 * v) + 1)) rfl (nI_add _ _) ?_
        refine E_callV (v := some (.int (nI u))) (As := [.ref 65, .int (nI j), .int (nI ((2 * v) + 1))]) (r0 := []) (cs2 := (ww im lf s d k ls rf rz ra rn rq lt m1 m2 m3 m4 bd fc hd sz el t (fUp (fUp (fUp g 43 (nI v)) 44 (nI h0)) 45 (nI m0)) fm hm so si sh ce ca td wa kp la bf oo bo pw ow tr)) rfl rfl rfl (Nat.le_of_ble_eq_true rfl) rfl (ab_rvOf w65 rfl) (Ev.vi eu (m_intAt (q := (2 * v) + 1) hj (by omega) l_ce hce)) (by decide) rfl ?_
        refine E_istore (L2 := [some (.ref 65), some (.int (nI j)), some (.int (nI n)), some (.int (nI v)), some (.int (nI p)), some (.int (nI u)), x6]) rfl rfl ?_
        refine E_aload_n rfl rfl ?_
        refine E_aload_n rfl rfl ?_
        refine E_bipush (x := nI 99) rfl (by decide) ?_
        refine E_callV (v := some (.int (nI (qPs t 99 (qN t))))) (As := [.ref 65, .int (nI 99)]) (r0 := [.ref 65]) (cs2 := (ww im lf s d k ls rf rz ra rn rq lt m1 m2 m3 m4 bd fc hd sz el t (fUp (fUp (fUp g 43 (nI v)) 44 (nI h0)) 45 (nI m0)) fm hm so si sh ce ca td wa kp la bf oo bo pw ow tr)) rfl rfl rfl (Nat.le_of_ble_eq_true rfl) rfl (ab_rvOf w65 rfl) (mo_piecesOf w_m I (by omega)) (by decide) rfl ?_
        refine E_callV (v := none) (As := [.ref 65, .int (nI (qPs t 99 (qN t)))]) (r0 := []) (cs2 := (ww im lf s d k ls rf rz ra rn rq lt m1 m2 m3 m4 bd fc hd sz el t (fUp (fUp (fUp g 43 (nI v)) 44 (nI h0)) 45 (nI m0)) fm hm so si sh ce ca td wa kp la (lsF (bst t (qPs t 99 (qN t)) (qN t) (2 ^ qN t))) oo bo pw ow tr)) rfl rfl rfl (Nat.le_of_ble_eq_true rfl) rfl (ab_rvOf w65 rfl) (w_best (m := qPs t 99 (qN t)) I (by omega) l_bf) (by decide) w_lens ?_
        refine E_aload_n rfl rfl ?_
        refine E_iload rfl rfl ?_
        have e1 : Ev ab_Z0 1 133 [.ref 65, .int (nI p)] (ww im lf s d k ls rf rz ra rn rq lt m1 m2 m3 m4 bd fc hd sz el t (fUp (fUp (fUp g 43 (nI v)) 44 (nI h0)) 45 (nI m0)) fm hm so si sh ce ca td wa kp la (lsF (bst t (qPs t 99 (qN t)) (qN t) (2 ^ qN t))) oo bo pw ow tr) (some (.int (nI 0)), (ww im lf s d k ls rf rz ra rn rq lt m1 m2 m3 m4 bd fc hd sz el t (fUp (fUp (fUp g 43 (nI v)) 44 (nI h0)) 45 (nI m0)) fm hm so si sh ce ca td wa kp la (lsF (bst t (qPs t 99 (qN t)) (qN t) (2 ^ qN t))) oo bo pw ow tr)) := by
          refine Ef.in (md := mX6_isOne) (L := [some (.ref 65), some (.int (nI p))]) rfl (Nat.le_of_ble_eq_true rfl) rfl ?_
          refine E_iload_n rfl rfl ?_
          refine E_if (t := 16) (b := false) rfl rfl ((cn_lt (nI_toInt (by omega)) (by decide : (0 : Int32).toInt = 0)).trans (decide_eq_false (by omega))) ?_
          refine E_iload_n rfl rfl ?_
          refine E_aload_n rfl rfl ?_
          refine E_getfield (v := .int (nI (qM t))) rfl w65 rfl (by decide) rfl ?_
          refine E_ic (t := 16) (b := true) rfl rfl ((cn_ge (nI_toInt (by omega)) (nI_toInt (by omega))).trans (decide_eq_true (by omega))) ?_
          refine E_iconst (x := nI 0) rfl (by decide) ?_
          exact E_iret rfl rfl
        refine E_callV (v := some (.int (nI 0))) (As := [.ref 65, .int (nI p)]) (r0 := []) (cs2 := (ww im lf s d k ls rf rz ra rn rq lt m1 m2 m3 m4 bd fc hd sz el t (fUp (fUp (fUp g 43 (nI v)) 44 (nI h0)) 45 (nI m0)) fm hm so si sh ce ca td wa kp la (lsF (bst t (qPs t 99 (qN t)) (qN t) (2 ^ qN t))) oo bo pw ow tr)) rfl rfl rfl (Nat.le_of_ble_eq_true rfl) rfl (ab_rvOf w65 rfl) e1 (by decide) rfl ?_
        refine E_if (t := 86) (b := true) rfl rfl (by decide) ?_
        refine E_iconst (x := (-1)) rfl (by decide) ?_
        refine E_istore (L2 := [some (.ref 65), some (.int (nI j)), some (.int (nI n)), some (.int (nI v)), some (.int (nI p)), some (.int (nI u)), some (.int (-1))]) rfl rfl ?_
        refine E_iload rfl rfl ?_
        refine E_iconst (x := (-1)) rfl (by decide) ?_
        refine E_ic (t := 97) (b := false) rfl rfl (by decide) ?_
        refine E_iload_n rfl rfl ?_
        exact E_iret rfl rfl
    · by_cases f2 : p < (qM t)
      · have := qPs_in t 99 (i := qN t) (by omega)
        refine ⟨(lsF (bst t (qPs t 99 (qN t)) (qN t) (2 ^ qN t))), (lsF_len _), fun x4 x5 x6 => ?_⟩
        refine E_iload_n rfl rfl ?_
        refine E_iload_n rfl rfl ?_
        refine E_ic (t := 149) (b := false) rfl rfl ((cn_ge (nI_toInt (by omega)) (nI_toInt (by omega))).trans (decide_eq_false (by omega))) ?_
        refine E_aload_n rfl rfl ?_
        refine E_iload_n rfl rfl ?_
        refine E_iconst (x := nI 2) rfl (by decide) ?_
        refine E_iload_n rfl rfl ?_
        refine E_imul (z := nI (2 * v)) rfl (pk_mul _ _) ?_
        refine E_callV (v := some (.int (nI p))) (As := [.ref 65, .int (nI j), .int (nI (2 * v))]) (r0 := []) (cs2 := (ww im lf s d k ls rf rz ra rn rq lt m1 m2 m3 m4 bd fc hd sz el t (fUp (fUp (fUp g 43 (nI v)) 44 (nI h0)) 45 (nI m0)) fm hm so si sh ce ca td wa kp la bf oo bo pw ow tr)) rfl rfl rfl (Nat.le_of_ble_eq_true rfl) rfl (ab_rvOf w65 rfl) (Ev.vi ec (m_intAt (q := 2 * v) hj (by omega) l_ce hce)) (by decide) rfl ?_
        refine E_istore (L2 := [some (.ref 65), some (.int (nI j)), some (.int (nI n)), some (.int (nI v)), some (.int (nI p)), x5, x6]) rfl rfl ?_
        refine E_aload_n rfl rfl ?_
        refine E_iload_n rfl rfl ?_
        refine E_iconst (x := nI 2) rfl (by decide) ?_
        refine E_iload_n rfl rfl ?_
        refine E_imul (z := nI (2 * v)) rfl (pk_mul _ _) ?_
        refine E_iconst (x := nI 1) rfl (by decide) ?_
        refine E_iadd (z := nI ((2 * v) + 1)) rfl (nI_add _ _) ?_
        refine E_callV (v := some (.int (tw (el j) (2 * v + 1)))) (As := [.ref 65, .int (nI j), .int (nI ((2 * v) + 1))]) (r0 := []) (cs2 := (ww im lf s d k ls rf rz ra rn rq lt m1 m2 m3 m4 bd fc hd sz el t (fUp (fUp (fUp g 43 (nI v)) 44 (nI h0)) 45 (nI m0)) fm hm so si sh ce ca td wa kp la bf oo bo pw ow tr)) rfl rfl rfl (Nat.le_of_ble_eq_true rfl) rfl (ab_rvOf w65 rfl) (m_intAt (q := (2 * v) + 1) hj (by omega) l_ce hce) (by decide) rfl ?_
        refine E_istore (L2 := [some (.ref 65), some (.int (nI j)), some (.int (nI n)), some (.int (nI v)), some (.int (nI p)), some (.int (tw (el j) (2 * v + 1))), x6]) rfl rfl ?_
        refine E_aload_n rfl rfl ?_
        refine E_aload_n rfl rfl ?_
        refine E_bipush (x := nI 99) rfl (by decide) ?_
        refine E_callV (v := some (.int (nI (qPs t 99 (qN t))))) (As := [.ref 65, .int (nI 99)]) (r0 := [.ref 65]) (cs2 := (ww im lf s d k ls rf rz ra rn rq lt m1 m2 m3 m4 bd fc hd sz el t (fUp (fUp (fUp g 43 (nI v)) 44 (nI h0)) 45 (nI m0)) fm hm so si sh ce ca td wa kp la bf oo bo pw ow tr)) rfl rfl rfl (Nat.le_of_ble_eq_true rfl) rfl (ab_rvOf w65 rfl) (mo_piecesOf w_m I (by omega)) (by decide) rfl ?_
        refine E_callV (v := none) (As := [.ref 65, .int (nI (qPs t 99 (qN t)))]) (r0 := []) (cs2 := (ww im lf s d k ls rf rz ra rn rq lt m1 m2 m3 m4 bd fc hd sz el t (fUp (fUp (fUp g 43 (nI v)) 44 (nI h0)) 45 (nI m0)) fm hm so si sh ce ca td wa kp la (lsF (bst t (qPs t 99 (qN t)) (qN t) (2 ^ qN t))) oo bo pw ow tr)) rfl rfl rfl (Nat.le_of_ble_eq_true rfl) rfl (ab_rvOf w65 rfl) (w_best (m := qPs t 99 (qN t)) I (by omega) l_bf) (by decide) w_lens ?_
        refine E_aload_n rfl rfl ?_
        refine E_iload rfl rfl ?_
        have e1 : Ev ab_Z0 1 133 [.ref 65, .int (nI p)] (ww im lf s d k ls rf rz ra rn rq lt m1 m2 m3 m4 bd fc hd sz el t (fUp (fUp (fUp g 43 (nI v)) 44 (nI h0)) 45 (nI m0)) fm hm so si sh ce ca td wa kp la (lsF (bst t (qPs t 99 (qN t)) (qN t) (2 ^ qN t))) oo bo pw ow tr) (some (.int (nI 1)), (ww im lf s d k ls rf rz ra rn rq lt m1 m2 m3 m4 bd fc hd sz el t (fUp (fUp (fUp g 43 (nI v)) 44 (nI h0)) 45 (nI m0)) fm hm so si sh ce ca td wa kp la (lsF (bst t (qPs t 99 (qN t)) (qN t) (2 ^ qN t))) oo bo pw ow tr)) := by
          refine Ef.in (md := mX6_isOne) (L := [some (.ref 65), some (.int (nI p))]) rfl (Nat.le_of_ble_eq_true rfl) rfl ?_
          refine E_iload_n rfl rfl ?_
          refine E_if (t := 16) (b := false) rfl rfl ((cn_lt (nI_toInt (by omega)) (by decide : (0 : Int32).toInt = 0)).trans (decide_eq_false (by omega))) ?_
          refine E_iload_n rfl rfl ?_
          refine E_aload_n rfl rfl ?_
          refine E_getfield (v := .int (nI (qM t))) rfl w65 rfl (by decide) rfl ?_
          refine E_ic (t := 16) (b := false) rfl rfl ((cn_ge (nI_toInt (by omega)) (nI_toInt (by omega))).trans (decide_eq_false (by omega))) ?_
          refine E_iconst (x := nI 1) rfl (by decide) ?_
          refine E_goto (t := 17) rfl rfl ?_
          exact E_iret rfl rfl
        refine E_callV (v := some (.int (nI 1))) (As := [.ref 65, .int (nI p)]) (r0 := []) (cs2 := (ww im lf s d k ls rf rz ra rn rq lt m1 m2 m3 m4 bd fc hd sz el t (fUp (fUp (fUp g 43 (nI v)) 44 (nI h0)) 45 (nI m0)) fm hm so si sh ce ca td wa kp la (lsF (bst t (qPs t 99 (qN t)) (qN t) (2 ^ qN t))) oo bo pw ow tr)) rfl rfl rfl (Nat.le_of_ble_eq_true rfl) rfl (ab_rvOf w65 rfl) e1 (by decide) rfl ?_
        refine E_if (t := 86) (b := false) rfl rfl (by decide) ?_
        refine E_aload_n rfl rfl ?_
        refine E_iload rfl rfl ?_
        refine E_iconst (x := nI 0) rfl (by decide) ?_
        refine E_bipush (x := nI 99) rfl (by decide) ?_
        have e2 : Ev ab_Z0 1 134 [.ref 65, .int (tw (el j) (2 * v + 1)), .int (nI 0), .int (nI 99)] (ww im lf s d k ls rf rz ra rn rq lt m1 m2 m3 m4 bd fc hd sz el t (fUp (fUp (fUp g 43 (nI v)) 44 (nI h0)) 45 (nI m0)) fm hm so si sh ce ca td wa kp la (lsF (bst t (qPs t 99 (qN t)) (qN t) (2 ^ qN t))) oo bo pw ow tr) (some (.int (nI 0)), (ww im lf s d k ls rf rz ra rn rq lt m1 m2 m3 m4 bd fc hd sz el t (fUp (fUp (fUp g 43 (nI v)) 44 (nI h0)) 45 (nI m0)) fm hm so si sh ce ca td wa kp la (lsF (bst t (qPs t 99 (qN t)) (qN t) (2 ^ qN t))) oo bo pw ow tr)) := by
          refine Ef.in (md := mX6_isFrom) (L := [some (.ref 65), some (.int (tw (el j) (2 * v + 1))), some (.int (nI 0)), some (.int (nI 99))]) rfl (Nat.le_of_ble_eq_true rfl) rfl ?_
          refine E_iload_n rfl rfl ?_
          refine E_iload_n rfl rfl ?_
          refine E_ic (t := 14) (b := true) rfl rfl ((cn_lt rfl (nI_toInt (by omega))).trans (decide_eq_true (by omega))) ?_
          refine E_iconst (x := nI 0) rfl (by decide) ?_
          exact E_iret rfl rfl
        refine E_callV (v := some (.int (nI 0))) (As := [.ref 65, .int (tw (el j) (2 * v + 1)), .int (nI 0), .int (nI 99)]) (r0 := []) (cs2 := (ww im lf s d k ls rf rz ra rn rq lt m1 m2 m3 m4 bd fc hd sz el t (fUp (fUp (fUp g 43 (nI v)) 44 (nI h0)) 45 (nI m0)) fm hm so si sh ce ca td wa kp la (lsF (bst t (qPs t 99 (qN t)) (qN t) (2 ^ qN t))) oo bo pw ow tr)) rfl rfl rfl (Nat.le_of_ble_eq_true rfl) rfl (ab_rvOf w65 rfl) e2 (by decide) rfl ?_
        refine E_if (t := 86) (b := true) rfl rfl (by decide) ?_
        refine E_iconst (x := (-1)) rfl (by decide) ?_
        refine E_istore (L2 := [some (.ref 65), some (.int (nI j)), some (.int (nI n)), some (.int (nI v)), some (.int (nI p)), some (.int (tw (el j) (2 * v + 1))), some (.int (-1))]) rfl rfl ?_
        refine E_iload rfl rfl ?_
        refine E_iconst (x := (-1)) rfl (by decide) ?_
        refine E_ic (t := 97) (b := false) rfl rfl (by decide) ?_
        refine E_iload_n rfl rfl ?_
        exact E_iret rfl rfl
      · have := qPs_in t 99 (i := qN t) (by omega)
        refine ⟨(lsF (bst t (qPs t 99 (qN t)) (qN t) (2 ^ qN t))), (lsF_len _), fun x4 x5 x6 => ?_⟩
        refine E_iload_n rfl rfl ?_
        refine E_iload_n rfl rfl ?_
        refine E_ic (t := 149) (b := false) rfl rfl ((cn_ge (nI_toInt (by omega)) (nI_toInt (by omega))).trans (decide_eq_false (by omega))) ?_
        refine E_aload_n rfl rfl ?_
        refine E_iload_n rfl rfl ?_
        refine E_iconst (x := nI 2) rfl (by decide) ?_
        refine E_iload_n rfl rfl ?_
        refine E_imul (z := nI (2 * v)) rfl (pk_mul _ _) ?_
        refine E_callV (v := some (.int (nI p))) (As := [.ref 65, .int (nI j), .int (nI (2 * v))]) (r0 := []) (cs2 := (ww im lf s d k ls rf rz ra rn rq lt m1 m2 m3 m4 bd fc hd sz el t (fUp (fUp (fUp g 43 (nI v)) 44 (nI h0)) 45 (nI m0)) fm hm so si sh ce ca td wa kp la bf oo bo pw ow tr)) rfl rfl rfl (Nat.le_of_ble_eq_true rfl) rfl (ab_rvOf w65 rfl) (Ev.vi ec (m_intAt (q := 2 * v) hj (by omega) l_ce hce)) (by decide) rfl ?_
        refine E_istore (L2 := [some (.ref 65), some (.int (nI j)), some (.int (nI n)), some (.int (nI v)), some (.int (nI p)), x5, x6]) rfl rfl ?_
        refine E_aload_n rfl rfl ?_
        refine E_iload_n rfl rfl ?_
        refine E_iconst (x := nI 2) rfl (by decide) ?_
        refine E_iload_n rfl rfl ?_
        refine E_imul (z := nI (2 * v)) rfl (pk_mul _ _) ?_
        refine E_iconst (x := nI 1) rfl (by decide) ?_
        refine E_iadd (z := nI ((2 * v) + 1)) rfl (nI_add _ _) ?_
        refine E_callV (v := some (.int (tw (el j) (2 * v + 1)))) (As := [.ref 65, .int (nI j), .int (nI ((2 * v) + 1))]) (r0 := []) (cs2 := (ww im lf s d k ls rf rz ra rn rq lt m1 m2 m3 m4 bd fc hd sz el t (fUp (fUp (fUp g 43 (nI v)) 44 (nI h0)) 45 (nI m0)) fm hm so si sh ce ca td wa kp la bf oo bo pw ow tr)) rfl rfl rfl (Nat.le_of_ble_eq_true rfl) rfl (ab_rvOf w65 rfl) (m_intAt (q := (2 * v) + 1) hj (by omega) l_ce hce) (by decide) rfl ?_
        refine E_istore (L2 := [some (.ref 65), some (.int (nI j)), some (.int (nI n)), some (.int (nI v)), some (.int (nI p)), some (.int (tw (el j) (2 * v + 1))), x6]) rfl rfl ?_
        refine E_aload_n rfl rfl ?_
        refine E_aload_n rfl rfl ?_
        refine E_bipush (x := nI 99) rfl (by decide) ?_
        refine E_callV (v := some (.int (nI (qPs t 99 (qN t))))) (As := [.ref 65, .int (nI 99)]) (r0 := [.ref 65]) (cs2 := (ww im lf s d k ls rf rz ra rn rq lt m1 m2 m3 m4 bd fc hd sz el t (fUp (fUp (fUp g 43 (nI v)) 44 (nI h0)) 45 (nI m0)) fm hm so si sh ce ca td wa kp la bf oo bo pw ow tr)) rfl rfl rfl (Nat.le_of_ble_eq_true rfl) rfl (ab_rvOf w65 rfl) (mo_piecesOf w_m I (by omega)) (by decide) rfl ?_
        refine E_callV (v := none) (As := [.ref 65, .int (nI (qPs t 99 (qN t)))]) (r0 := []) (cs2 := (ww im lf s d k ls rf rz ra rn rq lt m1 m2 m3 m4 bd fc hd sz el t (fUp (fUp (fUp g 43 (nI v)) 44 (nI h0)) 45 (nI m0)) fm hm so si sh ce ca td wa kp la (lsF (bst t (qPs t 99 (qN t)) (qN t) (2 ^ qN t))) oo bo pw ow tr)) rfl rfl rfl (Nat.le_of_ble_eq_true rfl) rfl (ab_rvOf w65 rfl) (w_best (m := qPs t 99 (qN t)) I (by omega) l_bf) (by decide) w_lens ?_
        refine E_aload_n rfl rfl ?_
        refine E_iload rfl rfl ?_
        have e1 : Ev ab_Z0 1 133 [.ref 65, .int (nI p)] (ww im lf s d k ls rf rz ra rn rq lt m1 m2 m3 m4 bd fc hd sz el t (fUp (fUp (fUp g 43 (nI v)) 44 (nI h0)) 45 (nI m0)) fm hm so si sh ce ca td wa kp la (lsF (bst t (qPs t 99 (qN t)) (qN t) (2 ^ qN t))) oo bo pw ow tr) (some (.int (nI 0)), (ww im lf s d k ls rf rz ra rn rq lt m1 m2 m3 m4 bd fc hd sz el t (fUp (fUp (fUp g 43 (nI v)) 44 (nI h0)) 45 (nI m0)) fm hm so si sh ce ca td wa kp la (lsF (bst t (qPs t 99 (qN t)) (qN t) (2 ^ qN t))) oo bo pw ow tr)) := by
          refine Ef.in (md := mX6_isOne) (L := [some (.ref 65), some (.int (nI p))]) rfl (Nat.le_of_ble_eq_true rfl) rfl ?_
          refine E_iload_n rfl rfl ?_
          refine E_if (t := 16) (b := false) rfl rfl ((cn_lt (nI_toInt (by omega)) (by decide : (0 : Int32).toInt = 0)).trans (decide_eq_false (by omega))) ?_
          refine E_iload_n rfl rfl ?_
          refine E_aload_n rfl rfl ?_
          refine E_getfield (v := .int (nI (qM t))) rfl w65 rfl (by decide) rfl ?_
          refine E_ic (t := 16) (b := true) rfl rfl ((cn_ge (nI_toInt (by omega)) (nI_toInt (by omega))).trans (decide_eq_true (by omega))) ?_
          refine E_iconst (x := nI 0) rfl (by decide) ?_
          exact E_iret rfl rfl
        refine E_callV (v := some (.int (nI 0))) (As := [.ref 65, .int (nI p)]) (r0 := []) (cs2 := (ww im lf s d k ls rf rz ra rn rq lt m1 m2 m3 m4 bd fc hd sz el t (fUp (fUp (fUp g 43 (nI v)) 44 (nI h0)) 45 (nI m0)) fm hm so si sh ce ca td wa kp la (lsF (bst t (qPs t 99 (qN t)) (qN t) (2 ^ qN t))) oo bo pw ow tr)) rfl rfl rfl (Nat.le_of_ble_eq_true rfl) rfl (ab_rvOf w65 rfl) e1 (by decide) rfl ?_
        refine E_if (t := 86) (b := true) rfl rfl (by decide) ?_
        refine E_iconst (x := (-1)) rfl (by decide) ?_
        refine E_istore (L2 := [some (.ref 65), some (.int (nI j)), some (.int (nI n)), some (.int (nI v)), some (.int (nI p)), some (.int (tw (el j) (2 * v + 1))), some (.int (-1))]) rfl rfl ?_
        refine E_iload rfl rfl ?_
        refine E_iconst (x := (-1)) rfl (by decide) ?_
        refine E_ic (t := 97) (b := false) rfl rfl (by decide) ?_
        refine E_iload_n rfl rfl ?_
        exact E_iret rfl rfl
  · rcases ab_int (tw (el j) (2 * v + 1)) with ⟨u, hu9, eu⟩ | hu9
    · have := qPs_in t 99 (i := qN t) (by omega)
      refine ⟨(lsF (bst t (qPs t 99 (qN t)) (qN t) (2 ^ qN t))), (lsF_len _), fun x4 x5 x6 => ?_⟩
      refine E_iload_n rfl rfl ?_
      refine E_iload_n rfl rfl ?_
      refine E_ic (t := 149) (b := false) rfl rfl ((cn_ge (nI_toInt (by omega)) (nI_toInt (by omega))).trans (decide_eq_false (by omega))) ?_
      refine E_aload_n rfl rfl ?_
      refine E_iload_n rfl rfl ?_
      refine E_iconst (x := nI 2) rfl (by decide) ?_
      refine E_iload_n rfl rfl ?_
      refine E_imul (z := nI (2 * v)) rfl (pk_mul _ _) ?_
      refine E_callV (v := some (.int (tw (el j) (2 * v)))) (As := [.ref 65, .int (nI j), .int (nI (2 * v))]) (r0 := []) (cs2 := (ww im lf s d k ls rf rz ra rn rq lt m1 m2 m3 m4 bd fc hd sz el t (fUp (fUp (fUp g 43 (nI v)) 44 (nI h0)) 45 (nI m0)) fm hm so si sh ce ca td wa kp la bf oo bo pw ow tr)) rfl rfl rfl (Nat.le_of_ble_eq_true rfl) rfl (ab_rvOf w65 rfl) (m_intAt (q := 2 * v) hj (by omega) l_ce hce) (by decide) rfl ?_
      refine E_istore (L2 := [some (.ref 65), some (.int (nI j)), some (.int (nI n)), some (.int (nI v)), some (.int (tw (el j) (2 * v))), x5, x6]) rfl rfl ?_
      refine E_aload_n rfl rfl ?_
      refine E_iload_n rfl rfl ?_
      refine E_iconst (x := nI 2) rfl (by decide) ?_
      refine E_iload_n rfl rfl ?_
      refine E_imul (z := nI (2 * v)) rfl (pk_mul _ _) ?_
      refine E_iconst (x := nI 1) rfl (by decide) ?_
      refine E_iadd (z := nI ((2 * v) + 1)) rfl (nI_add _ _) ?_
      refine E_callV (v := some (.int (nI u))) (As := [.ref 65, .int (nI j), .int (nI ((2 * v) + 1))]) (r0 := []) (cs2 := (ww im lf s d k ls rf rz ra rn rq lt m1 m2 m3 m4 bd fc hd sz el t (fUp (fUp (fUp g 43 (nI v)) 44 (nI h0)) 45 (nI m0)) fm hm so si sh ce ca td wa kp la bf oo bo pw ow tr)) rfl rfl rfl (Nat.le_of_ble_eq_true rfl) rfl (ab_rvOf w65 rfl) (Ev.vi eu (m_intAt (q := (2 * v) + 1) hj (by omega) l_ce hce)) (by decide) rfl ?_
      refine E_istore (L2 := [some (.ref 65), some (.int (nI j)), some (.int (nI n)), some (.int (nI v)), some (.int (tw (el j) (2 * v))), some (.int (nI u)), x6]) rfl rfl ?_
      refine E_aload_n rfl rfl ?_
      refine E_aload_n rfl rfl ?_
      refine E_bipush (x := nI 99) rfl (by decide) ?_
      refine E_callV (v := some (.int (nI (qPs t 99 (qN t))))) (As := [.ref 65, .int (nI 99)]) (r0 := [.ref 65]) (cs2 := (ww im lf s d k ls rf rz ra rn rq lt m1 m2 m3 m4 bd fc hd sz el t (fUp (fUp (fUp g 43 (nI v)) 44 (nI h0)) 45 (nI m0)) fm hm so si sh ce ca td wa kp la bf oo bo pw ow tr)) rfl rfl rfl (Nat.le_of_ble_eq_true rfl) rfl (ab_rvOf w65 rfl) (mo_piecesOf w_m I (by omega)) (by decide) rfl ?_
      refine E_callV (v := none) (As := [.ref 65, .int (nI (qPs t 99 (qN t)))]) (r0 := []) (cs2 := (ww im lf s d k ls rf rz ra rn rq lt m1 m2 m3 m4 bd fc hd sz el t (fUp (fUp (fUp g 43 (nI v)) 44 (nI h0)) 45 (nI m0)) fm hm so si sh ce ca td wa kp la (lsF (bst t (qPs t 99 (qN t)) (qN t) (2 ^ qN t))) oo bo pw ow tr)) rfl rfl rfl (Nat.le_of_ble_eq_true rfl) rfl (ab_rvOf w65 rfl) (w_best (m := qPs t 99 (qN t)) I (by omega) l_bf) (by decide) w_lens ?_
      refine E_aload_n rfl rfl ?_
      refine E_iload rfl rfl ?_
      have e1 : Ev ab_Z0 1 133 [.ref 65, .int (tw (el j) (2 * v))] (ww im lf s d k ls rf rz ra rn rq lt m1 m2 m3 m4 bd fc hd sz el t (fUp (fUp (fUp g 43 (nI v)) 44 (nI h0)) 45 (nI m0)) fm hm so si sh ce ca td wa kp la (lsF (bst t (qPs t 99 (qN t)) (qN t) (2 ^ qN t))) oo bo pw ow tr) (some (.int (nI 0)), (ww im lf s d k ls rf rz ra rn rq lt m1 m2 m3 m4 bd fc hd sz el t (fUp (fUp (fUp g 43 (nI v)) 44 (nI h0)) 45 (nI m0)) fm hm so si sh ce ca td wa kp la (lsF (bst t (qPs t 99 (qN t)) (qN t) (2 ^ qN t))) oo bo pw ow tr)) := by
        refine Ef.in (md := mX6_isOne) (L := [some (.ref 65), some (.int (tw (el j) (2 * v)))]) rfl (Nat.le_of_ble_eq_true rfl) rfl ?_
        refine E_iload_n rfl rfl ?_
        refine E_if (t := 16) (b := true) rfl rfl ((cn_lt rfl (by decide : (0 : Int32).toInt = 0)).trans (decide_eq_true (by omega))) ?_
        refine E_iconst (x := nI 0) rfl (by decide) ?_
        exact E_iret rfl rfl
      refine E_callV (v := some (.int (nI 0))) (As := [.ref 65, .int (tw (el j) (2 * v))]) (r0 := []) (cs2 := (ww im lf s d k ls rf rz ra rn rq lt m1 m2 m3 m4 bd fc hd sz el t (fUp (fUp (fUp g 43 (nI v)) 44 (nI h0)) 45 (nI m0)) fm hm so si sh ce ca td wa kp la (lsF (bst t (qPs t 99 (qN t)) (qN t) (2 ^ qN t))) oo bo pw ow tr)) rfl rfl rfl (Nat.le_of_ble_eq_true rfl) rfl (ab_rvOf w65 rfl) e1 (by decide) rfl ?_
      refine E_if (t := 86) (b := true) rfl rfl (by decide) ?_
      refine E_iconst (x := (-1)) rfl (by decide) ?_
      refine E_istore (L2 := [some (.ref 65), some (.int (nI j)), some (.int (nI n)), some (.int (nI v)), some (.int (tw (el j) (2 * v))), some (.int (nI u)), some (.int (-1))]) rfl rfl ?_
      refine E_iload rfl rfl ?_
      refine E_iconst (x := (-1)) rfl (by decide) ?_
      refine E_ic (t := 97) (b := false) rfl rfl (by decide) ?_
      refine E_iload_n rfl rfl ?_
      exact E_iret rfl rfl
    · have := qPs_in t 99 (i := qN t) (by omega)
      refine ⟨(lsF (bst t (qPs t 99 (qN t)) (qN t) (2 ^ qN t))), (lsF_len _), fun x4 x5 x6 => ?_⟩
      refine E_iload_n rfl rfl ?_
      refine E_iload_n rfl rfl ?_
      refine E_ic (t := 149) (b := false) rfl rfl ((cn_ge (nI_toInt (by omega)) (nI_toInt (by omega))).trans (decide_eq_false (by omega))) ?_
      refine E_aload_n rfl rfl ?_
      refine E_iload_n rfl rfl ?_
      refine E_iconst (x := nI 2) rfl (by decide) ?_
      refine E_iload_n rfl rfl ?_
      refine E_imul (z := nI (2 * v)) rfl (pk_mul _ _) ?_
      refine E_callV (v := some (.int (tw (el j) (2 * v)))) (As := [.ref 65, .int (nI j), .int (nI (2 * v))]) (r0 := []) (cs2 := (ww im lf s d k ls rf rz ra rn rq lt m1 m2 m3 m4 bd fc hd sz el t (fUp (fUp (fUp g 43 (nI v)) 44 (nI h0)) 45 (nI m0)) fm hm so si sh ce ca td wa kp la bf oo bo pw ow tr)) rfl rfl rfl (Nat.le_of_ble_eq_true rfl) rfl (ab_rvOf w65 rfl) (m_intAt (q := 2 * v) hj (by omega) l_ce hce) (by decide) rfl ?_
      refine E_istore (L2 := [some (.ref 65), some (.int (nI j)), some (.int (nI n)), some (.int (nI v)), some (.int (tw (el j) (2 * v))), x5, x6]) rfl rfl ?_
      refine E_aload_n rfl rfl ?_
      refine E_iload_n rfl rfl ?_
      refine E_iconst (x := nI 2) rfl (by decide) ?_
      refine E_iload_n rfl rfl ?_
      refine E_imul (z := nI (2 * v)) rfl (pk_mul _ _) ?_
      refine E_iconst (x := nI 1) rfl (by decide) ?_
      refine E_iadd (z := nI ((2 * v) + 1)) rfl (nI_add _ _) ?_
      refine E_callV (v := some (.int (tw (el j) (2 * v + 1)))) (As := [.ref 65, .int (nI j), .int (nI ((2 * v) + 1))]) (r0 := []) (cs2 := (ww im lf s d k ls rf rz ra rn rq lt m1 m2 m3 m4 bd fc hd sz el t (fUp (fUp (fUp g 43 (nI v)) 44 (nI h0)) 45 (nI m0)) fm hm so si sh ce ca td wa kp la bf oo bo pw ow tr)) rfl rfl rfl (Nat.le_of_ble_eq_true rfl) rfl (ab_rvOf w65 rfl) (m_intAt (q := (2 * v) + 1) hj (by omega) l_ce hce) (by decide) rfl ?_
      refine E_istore (L2 := [some (.ref 65), some (.int (nI j)), some (.int (nI n)), some (.int (nI v)), some (.int (tw (el j) (2 * v))), some (.int (tw (el j) (2 * v + 1))), x6]) rfl rfl ?_
      refine E_aload_n rfl rfl ?_
      refine E_aload_n rfl rfl ?_
      refine E_bipush (x := nI 99) rfl (by decide) ?_
      refine E_callV (v := some (.int (nI (qPs t 99 (qN t))))) (As := [.ref 65, .int (nI 99)]) (r0 := [.ref 65]) (cs2 := (ww im lf s d k ls rf rz ra rn rq lt m1 m2 m3 m4 bd fc hd sz el t (fUp (fUp (fUp g 43 (nI v)) 44 (nI h0)) 45 (nI m0)) fm hm so si sh ce ca td wa kp la bf oo bo pw ow tr)) rfl rfl rfl (Nat.le_of_ble_eq_true rfl) rfl (ab_rvOf w65 rfl) (mo_piecesOf w_m I (by omega)) (by decide) rfl ?_
      refine E_callV (v := none) (As := [.ref 65, .int (nI (qPs t 99 (qN t)))]) (r0 := []) (cs2 := (ww im lf s d k ls rf rz ra rn rq lt m1 m2 m3 m4 bd fc hd sz el t (fUp (fUp (fUp g 43 (nI v)) 44 (nI h0)) 45 (nI m0)) fm hm so si sh ce ca td wa kp la (lsF (bst t (qPs t 99 (qN t)) (qN t) (2 ^ qN t))) oo bo pw ow tr)) rfl rfl rfl (Nat.le_of_ble_eq_true rfl) rfl (ab_rvOf w65 rfl) (w_best (m := qPs t 99 (qN t)) I (by omega) l_bf) (by decide) w_lens ?_
      refine E_aload_n rfl rfl ?_
      refine E_iload rfl rfl ?_
      have e1 : Ev ab_Z0 1 133 [.ref 65, .int (tw (el j) (2 * v))] (ww im lf s d k ls rf rz ra rn rq lt m1 m2 m3 m4 bd fc hd sz el t (fUp (fUp (fUp g 43 (nI v)) 44 (nI h0)) 45 (nI m0)) fm hm so si sh ce ca td wa kp la (lsF (bst t (qPs t 99 (qN t)) (qN t) (2 ^ qN t))) oo bo pw ow tr) (some (.int (nI 0)), (ww im lf s d k ls rf rz ra rn rq lt m1 m2 m3 m4 bd fc hd sz el t (fUp (fUp (fUp g 43 (nI v)) 44 (nI h0)) 45 (nI m0)) fm hm so si sh ce ca td wa kp la (lsF (bst t (qPs t 99 (qN t)) (qN t) (2 ^ qN t))) oo bo pw ow tr)) := by
        refine Ef.in (md := mX6_isOne) (L := [some (.ref 65), some (.int (tw (el j) (2 * v)))]) rfl (Nat.le_of_ble_eq_true rfl) rfl ?_
        refine E_iload_n rfl rfl ?_
        refine E_if (t := 16) (b := true) rfl rfl ((cn_lt rfl (by decide : (0 : Int32).toInt = 0)).trans (decide_eq_true (by omega))) ?_
        refine E_iconst (x := nI 0) rfl (by decide) ?_
        exact E_iret rfl rfl
      refine E_callV (v := some (.int (nI 0))) (As := [.ref 65, .int (tw (el j) (2 * v))]) (r0 := []) (cs2 := (ww im lf s d k ls rf rz ra rn rq lt m1 m2 m3 m4 bd fc hd sz el t (fUp (fUp (fUp g 43 (nI v)) 44 (nI h0)) 45 (nI m0)) fm hm so si sh ce ca td wa kp la (lsF (bst t (qPs t 99 (qN t)) (qN t) (2 ^ qN t))) oo bo pw ow tr)) rfl rfl rfl (Nat.le_of_ble_eq_true rfl) rfl (ab_rvOf w65 rfl) e1 (by decide) rfl ?_
      refine E_if (t := 86) (b := true) rfl rfl (by decide) ?_
      refine E_iconst (x := (-1)) rfl (by decide) ?_
      refine E_istore (L2 := [some (.ref 65), some (.int (nI j)), some (.int (nI n)), some (.int (nI v)), some (.int (tw (el j) (2 * v))), some (.int (tw (el j) (2 * v + 1))), some (.int (-1))]) rfl rfl ?_
      refine E_iload rfl rfl ?_
      refine E_iconst (x := (-1)) rfl (by decide) ?_
      refine E_ic (t := 97) (b := false) rfl rfl (by decide) ?_
      refine E_iload_n rfl rfl ?_
      exact E_iret rfl rfl
theorem dy_c {j n1 : Nat} (hj : j < 8) (hz : sz j = nI n1) (hn1 : n1 ≤ 160) (le : (el j).length = 160) {n N0 : Nat} (hn : 2 * n ≤ n1) (hn20 : n ≤ 20) (hN : N0 ≤ n) (I : qI s) (hok : ∀ i, i < N0 → thr (dyS (el j) s i) (tw (el j) (2 * i)) (tw (el j) (2 * i + 1)) ≠ 0) : ∀ n0 v (ls : List Int32), v + n0 = N0 → ls.length = 100 → ∃ ls2 : List Int32, ls2.length = 100 ∧ ∀ r, (∀ x4 x5 : Option Value, Ef ab_Z0 5 mX5_draftDay (13, [some (.ref 0), some (.ref (49 + 2 * j)), some (.int (nI n)), some (.int (nI N0)), x4, x5], [], (ww im lf s (dyS (el j) s N0) k ls2 rf rz ra rn rq lt m1 m2 m3 m4 bd fc hd sz el t g fm hm so si sh ce ca td wa kp la bf oo bo pw ow tr)) r) → ∀ x4 x5 : Option Value, Ef ab_Z0 5 mX5_draftDay (13, [some (.ref 0), some (.ref (49 + 2 * j)), some (.int (nI n)), some (.int (nI v)), x4, x5], [], (ww im lf s (dyS (el j) s v) k ls rf rz ra rn rq lt m1 m2 m3 m4 bd fc hd sz el t g fm hm so si sh ce ca td wa kp la bf oo bo pw ow tr)) r := by
  intro n0
  induction n0 with
  | zero =>
    intro v ls hi hl
    have hi : v = N0 := by omega
    rw [hi]
    exact ⟨ls, hl, fun r K => K⟩
  | succ n0 ih =>
    intro v ls hi hl
    obtain ⟨b, hb⟩ : ∃ b, thr (dyS (el j) s v) (tw (el j) (2 * v)) (tw (el j) (2 * v + 1)) = b + 1 := ⟨thr (dyS (el j) s v) (tw (el j) (2 * v)) (tw (el j) (2 * v + 1)) - 1, by have := hok v (by omega); omega⟩
    obtain ⟨p, u, ec, eu, hu31, hp, hu, hr, hc, e8, e9⟩ := thr_ex hb
    have e := dy_1 hb e8 e9
    have K1 : ∃ ls1 : List Int32, ls1.length = 100 ∧ ∀ r, (∀ x4 x5 : Option Value, Ef ab_Z0 5 mX5_draftDay (13, [some (.ref 0), some (.ref (49 + 2 * j)), some (.int (nI n)), some (.int (nI (v + 1))), x4, x5], [], (ww im lf s (dyS (el j) s (v + 1)) k ls1 rf rz ra rn rq lt m1 m2 m3 m4 bd fc hd sz el t g fm hm so si sh ce ca td wa kp la bf oo bo pw ow tr)) r) → ∀ x4 x5 : Option Value, Ef ab_Z0 5 mX5_draftDay (13, [some (.ref 0), some (.ref (49 + 2 * j)), some (.int (nI n)), some (.int (nI v)), x4, x5], [], (ww im lf s (dyS (el j) s v) k ls rf rz ra rn rq lt m1 m2 m3 m4 bd fc hd sz el t g fm hm so si sh ce ca td wa kp la bf oo bo pw ow tr)) r := by
      rw [e.1]
      exact dy_c1 hj hz hn1 le hn hn20 (by omega) (dyS_I I v) ec eu hp hu hr hc hl
    obtain ⟨ls1, l1, K1⟩ := K1
    obtain ⟨ls3, l3, K3⟩ := ih (v + 1) ls1 (by omega) l1
    exact ⟨ls3, l3, fun r K => K1 r (K3 r K)⟩
set_option maxHeartbeats 1000000 in
theorem w_draft0 {j n1 : Nat} (hj : j < 8) (hz : sz j = nI n1) (hn1 : n1 ≤ 160) (le : (el j).length = 160) {n : Nat} (hn : 2 * n ≤ n1) (hn20 : n ≤ 20) (I : qI s) (hok : ∀ i, i < n → thr (dyS (el j) s i) (tw (el j) (2 * i)) (tw (el j) (2 * i + 1)) ≠ 0) (l_ls : ls.length = 100) (hd1 : qLn d) : ∃ ls2 : List Int32, ls2.length = 100 ∧ Ev ab_Z0 6 123 [.ref 0, .ref (49 + 2 * j), .int (nI n)] (ww im lf s d k ls rf rz ra rn rq lt m1 m2 m3 m4 bd fc hd sz el t g fm hm so si sh ce ca td wa kp la bf oo bo pw ow tr) (some (.int (-1)), (ww im lf s (dyS (el j) s n) k ls2 rf rz ra rn rq lt m1 m2 m3 m4 bd fc hd sz el t g fm hm so si sh ce ca td wa kp la bf oo bo pw ow tr)) := by
  obtain ⟨ls3, l3, K⟩ : ∃ ls3 : List Int32, ls3.length = 100 ∧ ∀ r, (∀ x4 x5 : Option Value, Ef ab_Z0 5 mX5_draftDay (13, [some (.ref 0), some (.ref (49 + 2 * j)), some (.int (nI n)), some (.int (nI n)), x4, x5], [], (ww im lf s (dyS (el j) s n) k ls3 rf rz ra rn rq lt m1 m2 m3 m4 bd fc hd sz el t g fm hm so si sh ce ca td wa kp la bf oo bo pw ow tr)) r) → ∀ x4 x5 : Option Value, Ef ab_Z0 5 mX5_draftDay (13, [some (.ref 0), some (.ref (49 + 2 * j)), some (.int (nI n)), some (.int (nI 0)), x4, x5], [], (ww im lf s (dyS (el j) s 0) k ls rf rz ra rn rq lt m1 m2 m3 m4 bd fc hd sz el t g fm hm so si sh ce ca td wa kp la bf oo bo pw ow tr)) r := dy_c hj hz hn1 le (N0 := n) hn hn20 (by omega) I hok n 0 ls (Nat.zero_add _) l_ls
  refine ⟨ls3, l3, ?_⟩
  refine Ef.in (md := mX5_draftDay) (L := [some (.ref 0), some (.ref (49 + 2 * j)), some (.int (nI n)), none, none, none]) rfl (Nat.le_of_ble_eq_true rfl) rfl ?_
  refine E_aload_n rfl rfl ?_
  refine E_getfield (v := .ref 11) rfl w0 rfl (by decide) rfl ?_
  refine E_aload_n rfl rfl ?_
  refine E_getfield (v := .ref 1) rfl w0 rfl (by decide) rfl ?_
  refine E_callV (v := none) (As := [.ref 11, .ref 1]) (r0 := []) (cs2 := (ww im lf s s k ls rf rz ra rn rq lt m1 m2 m3 m4 bd fc hd sz el t g fm hm so si sh ce ca td wa kp la bf oo bo pw ow tr)) rfl rfl rfl (Nat.le_of_ble_eq_true rfl) rfl (ab_rvOf w11 rfl) (tk_11_1 hd1 I.ln) (by decide) w_lens ?_
  refine E_iconst (x := nI 0) rfl (by decide) ?_
  refine E_istore_n (L2 := [some (.ref 0), some (.ref (49 + 2 * j)), some (.int (nI n)), some (.int (nI 0)), none, none]) rfl rfl ?_
  refine K _ (fun x4 x5 => ?_) none none
  refine E_iload_n rfl rfl ?_
  refine E_iload_n rfl rfl ?_
  refine E_ic (t := 72) (b := true) rfl rfl ((cn_ge (nI_toInt (by omega)) (nI_toInt (by omega))).trans (decide_eq_true (by omega))) ?_
  refine E_iconst (x := (-1)) rfl (by decide) ?_
  exact E_iret rfl rfl
set_option maxHeartbeats 1000000 in
theorem w_draft1 {j n1 : Nat} (hj : j < 8) (hz : sz j = nI n1) (hn1 : n1 ≤ 160) (le : (el j).length = 160) {n v0 : Nat} (hn : 2 * n ≤ n1) (hn20 : n ≤ 20) (hv : v0 < n) (I : qI s) (hok : ∀ i, i < v0 → thr (dyS (el j) s i) (tw (el j) (2 * i)) (tw (el j) (2 * i + 1)) ≠ 0) (hno : thr (dyS (el j) s v0) (tw (el j) (2 * v0)) (tw (el j) (2 * v0 + 1)) = 0) (l_ls : ls.length = 100) (hd1 : qLn d) : ∃ ls2 : List Int32, ls2.length = 100 ∧ Ev ab_Z0 6 123 [.ref 0, .ref (49 + 2 * j), .int (nI n)] (ww im lf s d k ls rf rz ra rn rq lt m1 m2 m3 m4 bd fc hd sz el t g fm hm so si sh ce ca td wa kp la bf oo bo pw ow tr) (some (.int (nI v0)), (ww im lf s (dyS (el j) s v0) k ls2 rf rz ra rn rq lt m1 m2 m3 m4 bd fc hd sz el t g fm hm so si sh ce ca td wa kp la bf oo bo pw ow tr)) := by
  obtain ⟨ls3, l3, K⟩ : ∃ ls3 : List Int32, ls3.length = 100 ∧ ∀ r, (∀ x4 x5 : Option Value, Ef ab_Z0 5 mX5_draftDay (13, [some (.ref 0), some (.ref (49 + 2 * j)), some (.int (nI n)), some (.int (nI v0)), x4, x5], [], (ww im lf s (dyS (el j) s v0) k ls3 rf rz ra rn rq lt m1 m2 m3 m4 bd fc hd sz el t g fm hm so si sh ce ca td wa kp la bf oo bo pw ow tr)) r) → ∀ x4 x5 : Option Value, Ef ab_Z0 5 mX5_draftDay (13, [some (.ref 0), some (.ref (49 + 2 * j)), some (.int (nI n)), some (.int (nI 0)), x4, x5], [], (ww im lf s (dyS (el j) s 0) k ls rf rz ra rn rq lt m1 m2 m3 m4 bd fc hd sz el t g fm hm so si sh ce ca td wa kp la bf oo bo pw ow tr)) r := dy_c hj hz hn1 le (N0 := v0) hn hn20 (by omega) I hok v0 0 ls (Nat.zero_add _) l_ls
  obtain ⟨ls4, l4, K4⟩ : ∃ ls4 : List Int32, ls4.length = 100 ∧ ∀ x4 x5 : Option Value, Ef ab_Z0 5 mX5_draftDay (13, [some (.ref 0), some (.ref (49 + 2 * j)), some (.int (nI n)), some (.int (nI v0)), x4, x5], [], (ww im lf s (dyS (el j) s v0) k ls3 rf rz ra rn rq lt m1 m2 m3 m4 bd fc hd sz el t g fm hm so si sh ce ca td wa kp la bf oo bo pw ow tr)) (some (.int (nI v0)), (ww im lf s (dyS (el j) s v0) k ls4 rf rz ra rn rq lt m1 m2 m3 m4 bd fc hd sz el t g fm hm so si sh ce ca td wa kp la bf oo bo pw ow tr)) := dy_c0 hj hz hn1 le hn hn20 hv (dyS_I I v0) hno l3
  refine ⟨ls4, l4, ?_⟩
  refine Ef.in (md := mX5_draftDay) (L := [some (.ref 0), some (.ref (49 + 2 * j)), some (.int (nI n)), none, none, none]) rfl (Nat.le_of_ble_eq_true rfl) rfl ?_
  refine E_aload_n rfl rfl ?_
  refine E_getfield (v := .ref 11) rfl w0 rfl (by decide) rfl ?_
  refine E_aload_n rfl rfl ?_
  refine E_getfield (v := .ref 1) rfl w0 rfl (by decide) rfl ?_
  refine E_callV (v := none) (As := [.ref 11, .ref 1]) (r0 := []) (cs2 := (ww im lf s s k ls rf rz ra rn rq lt m1 m2 m3 m4 bd fc hd sz el t g fm hm so si sh ce ca td wa kp la bf oo bo pw ow tr)) rfl rfl rfl (Nat.le_of_ble_eq_true rfl) rfl (ab_rvOf w11 rfl) (tk_11_1 hd1 I.ln) (by decide) w_lens ?_
  refine E_iconst (x := nI 0) rfl (by decide) ?_
  refine E_istore_n (L2 := [some (.ref 0), some (.ref (49 + 2 * j)), some (.int (nI n)), some (.int (nI 0)), none, none]) rfl rfl ?_
  exact K _ K4 none none
theorem dy_m {j n1 : Nat} (hj : j < 8) (hz : sz j = nI n1) (hn1 : n1 ≤ 160) (le : (el j).length = 160) {q : ab_q} (l_ce : ce.length = 1280) (hce : ∀ q, q < 160 → (el j).getD q 0 = ce.getD (160 * j + q) 0) {n N0 : Nat} (hn : 2 * n ≤ n1) (hn20 : n ≤ 20) (hN : N0 ≤ n) (I : qI q) (hok : ∀ i, i < N0 → thr (dyS (el j) q i) (tw (el j) (2 * i)) (tw (el j) (2 * i + 1)) ≠ 0) : ∀ n0 v (bf : List Int32), v + n0 = N0 → bf.length = 100 → ∃ bf2 : List Int32, bf2.length = 100 ∧ ∀ r, (∀ x4 x5 x6 : Option Value, Ef ab_Z0 4 mX6_goes (17, [some (.ref 65), some (.int (nI j)), some (.int (nI n)), some (.int (nI N0)), x4, x5, x6], [], (ww im lf s d k ls rf rz ra rn rq lt m1 m2 m3 m4 bd fc hd sz el (dyS (el j) q N0) (fUp (fUp (fUp g 43 (nI N0)) 44 (nI (dyH (el j) q N0))) 45 (nI (dyM (el j) q N0))) fm hm so si sh ce ca td wa kp la bf2 oo bo pw ow tr)) r) → ∀ x4 x5 x6 : Option Value, Ef ab_Z0 4 mX6_goes (17, [some (.ref 65), some (.int (nI j)), some (.int (nI n)), some (.int (nI v)), x4, x5, x6], [], (ww im lf s d k ls rf rz ra rn rq lt m1 m2 m3 m4 bd fc hd sz el (dyS (el j) q v) (fUp (fUp (fUp g 43 (nI v)) 44 (nI (dyH (el j) q v))) 45 (nI (dyM (el j) q v))) fm hm so si sh ce ca td wa kp la bf oo bo pw ow tr)) r := by
  intro n0
  induction n0 with
  | zero =>
    intro v bf hi hl
    have hi : v = N0 := by omega
    rw [hi]
    exact ⟨bf, hl, fun r K => K⟩
  | succ n0 ih =>
    intro v bf hi hl
    obtain ⟨b, hb⟩ : ∃ b, thr (dyS (el j) q v) (tw (el j) (2 * v)) (tw (el j) (2 * v + 1)) = b + 1 := ⟨thr (dyS (el j) q v) (tw (el j) (2 * v)) (tw (el j) (2 * v + 1)) - 1, by have := hok v (by omega); omega⟩
    obtain ⟨p, u, ec, eu, hu31, hp, hu, hr, hc, e8, e9⟩ := thr_ex hb
    have e := dy_1 hb e8 e9
    have K1 : ∃ ls1 : List Int32, ls1.length = 100 ∧ ∀ r, (∀ x4 x5 x6 : Option Value, Ef ab_Z0 4 mX6_goes (17, [some (.ref 65), some (.int (nI j)), some (.int (nI n)), some (.int (nI (v + 1))), x4, x5, x6], [], (ww im lf s d k ls rf rz ra rn rq lt m1 m2 m3 m4 bd fc hd sz el (dyS (el j) q (v + 1)) (fUp (fUp (fUp g 43 (nI (v + 1))) 44 (nI (dyH (el j) q (v + 1)))) 45 (nI (dyM (el j) q (v + 1)))) fm hm so si sh ce ca td wa kp la ls1 oo bo pw ow tr)) r) → ∀ x4 x5 x6 : Option Value, Ef ab_Z0 4 mX6_goes (17, [some (.ref 65), some (.int (nI j)), some (.int (nI n)), some (.int (nI v)), x4, x5, x6], [], (ww im lf s d k ls rf rz ra rn rq lt m1 m2 m3 m4 bd fc hd sz el (dyS (el j) q v) (fUp (fUp (fUp g 43 (nI v)) 44 (nI (dyH (el j) q v))) 45 (nI (dyM (el j) q v))) fm hm so si sh ce ca td wa kp la bf oo bo pw ow tr)) r := by
      rw [e.1, e.2.1, e.2.2]
      exact dy_m1 hj hz hn1 le l_ce hce hn hn20 (by omega) (dyS_I I v) ec eu hp hu hr hc hl
    obtain ⟨ls1, l1, K1⟩ := K1
    obtain ⟨ls3, l3, K3⟩ := ih (v + 1) ls1 (by omega) l1
    exact ⟨ls3, l3, fun r K => K1 r (K3 r K)⟩
set_option maxHeartbeats 1000000 in
theorem w_goes0 {j n1 : Nat} (hj : j < 8) (hz : sz j = nI n1) (hn1 : n1 ≤ 160) (le : (el j).length = 160) {q : ab_q} (l_ce : ce.length = 1280) (hce : ∀ q, q < 160 → (el j).getD q 0 = ce.getD (160 * j + q) 0) {n : Nat} (hn : 2 * n ≤ n1) (hn20 : n ≤ 20) (I : qI q) (hok : ∀ i, i < n → thr (dyS (el j) q i) (tw (el j) (2 * i)) (tw (el j) (2 * i + 1)) ≠ 0) (l_bf : bf.length = 100) : ∃ bf2 : List Int32, bf2.length = 100 ∧ Ev ab_Z0 5 193 [.ref 65, .int (nI j), .int (nI n)] (ww im lf s d k ls rf rz ra rn rq lt m1 m2 m3 m4 bd fc hd sz el q g fm hm so si sh ce ca td wa kp la bf oo bo pw ow tr) (some (.int (-1)), (ww im lf s d k ls rf rz ra rn rq lt m1 m2 m3 m4 bd fc hd sz el (dyS (el j) q n) (fUp (fUp (fUp g 43 (nI n)) 44 (nI (dyH (el j) q n))) 45 (nI (dyM (el j) q n))) fm hm so si sh ce ca td wa kp la bf2 oo bo pw ow tr)) := by
  obtain ⟨ls3, l3, K⟩ : ∃ ls3 : List Int32, ls3.length = 100 ∧ ∀ r, (∀ x4 x5 x6 : Option Value, Ef ab_Z0 4 mX6_goes (17, [some (.ref 65), some (.int (nI j)), some (.int (nI n)), some (.int (nI n)), x4, x5, x6], [], (ww im lf s d k ls rf rz ra rn rq lt m1 m2 m3 m4 bd fc hd sz el (dyS (el j) q n) (fUp (fUp (fUp g 43 (nI n)) 44 (nI (dyH (el j) q n))) 45 (nI (dyM (el j) q n))) fm hm so si sh ce ca td wa kp la ls3 oo bo pw ow tr)) r) → ∀ x4 x5 x6 : Option Value, Ef ab_Z0 4 mX6_goes (17, [some (.ref 65), some (.int (nI j)), some (.int (nI n)), some (.int (nI 0)), x4, x5, x6], [], (ww im lf s d k ls rf rz ra rn rq lt m1 m2 m3 m4 bd fc hd sz el (dyS (el j) q 0) (fUp (fUp (fUp g 43 (nI 0)) 44 (nI (dyH (el j) q 0))) 45 (nI (dyM (el j) q 0))) fm hm so si sh ce ca td wa kp la bf oo bo pw ow tr)) r := dy_m hj hz hn1 le l_ce hce (N0 := n) hn hn20 (by omega) I hok n 0 bf (Nat.zero_add _) l_bf
  refine ⟨ls3, l3, ?_⟩
  refine Ef.in (md := mX6_goes) (L := [some (.ref 65), some (.int (nI j)), some (.int (nI n)), none, none, none, none]) rfl (Nat.le_of_ble_eq_true rfl) rfl ?_
  refine E_aload_n rfl rfl ?_
  refine E_iconst (x := nI 0) rfl (by decide) ?_
  refine E_putfield (cs2 := (ww im lf s d k ls rf rz ra rn rq lt m1 m2 m3 m4 bd fc hd sz el q (fUp g 43 (nI 0)) fm hm so si sh ce ca td wa kp la bf oo bo pw ow tr)) rfl w65 rfl (by decide) (Nat.le_of_ble_eq_true rfl) rfl rfl rfl w_pt65_43 ?_
  refine E_aload_n rfl rfl ?_
  refine E_iconst (x := nI 0) rfl (by decide) ?_
  refine E_putfield (cs2 := (ww im lf s d k ls rf rz ra rn rq lt m1 m2 m3 m4 bd fc hd sz el q (fUp (fUp g 43 (nI 0)) 44 (nI 0)) fm hm so si sh ce ca td wa kp la bf oo bo pw ow tr)) rfl w65 rfl (by decide) (Nat.le_of_ble_eq_true rfl) rfl rfl rfl w_pt65_44 ?_
  refine E_aload_n rfl rfl ?_
  refine E_iconst (x := nI 0) rfl (by decide) ?_
  refine E_putfield (cs2 := (ww im lf s d k ls rf rz ra rn rq lt m1 m2 m3 m4 bd fc hd sz el q (fUp (fUp (fUp g 43 (nI 0)) 44 (nI 0)) 45 (nI 0)) fm hm so si sh ce ca td wa kp la bf oo bo pw ow tr)) rfl w65 rfl (by decide) (Nat.le_of_ble_eq_true rfl) rfl rfl rfl w_pt65_45 ?_
  refine E_iconst (x := nI 0) rfl (by decide) ?_
  refine E_istore_n (L2 := [some (.ref 65), some (.int (nI j)), some (.int (nI n)), some (.int (nI 0)), none, none, none]) rfl rfl ?_
  refine K _ (fun x4 x5 x6 => ?_) none none none
  refine E_iload_n rfl rfl ?_
  refine E_iload_n rfl rfl ?_
  refine E_ic (t := 149) (b := true) rfl rfl ((cn_ge (nI_toInt (by omega)) (nI_toInt (by omega))).trans (decide_eq_true (by omega))) ?_
  refine E_iconst (x := (-1)) rfl (by decide) ?_
  exact E_iret rfl rfl
set_option maxHeartbeats 1000000 in
theorem w_goes1 {j n1 : Nat} (hj : j < 8) (hz : sz j = nI n1) (hn1 : n1 ≤ 160) (le : (el j).length = 160) {q : ab_q} (l_ce : ce.length = 1280) (hce : ∀ q, q < 160 → (el j).getD q 0 = ce.getD (160 * j + q) 0) {n v0 : Nat} (hn : 2 * n ≤ n1) (hn20 : n ≤ 20) (hv : v0 < n) (I : qI q) (hok : ∀ i, i < v0 → thr (dyS (el j) q i) (tw (el j) (2 * i)) (tw (el j) (2 * i + 1)) ≠ 0) (hno : thr (dyS (el j) q v0) (tw (el j) (2 * v0)) (tw (el j) (2 * v0 + 1)) = 0) (l_bf : bf.length = 100) : ∃ bf2 : List Int32, bf2.length = 100 ∧ Ev ab_Z0 5 193 [.ref 65, .int (nI j), .int (nI n)] (ww im lf s d k ls rf rz ra rn rq lt m1 m2 m3 m4 bd fc hd sz el q g fm hm so si sh ce ca td wa kp la bf oo bo pw ow tr) (some (.int (nI v0)), (ww im lf s d k ls rf rz ra rn rq lt m1 m2 m3 m4 bd fc hd sz el (dyS (el j) q v0) (fUp (fUp (fUp g 43 (nI v0)) 44 (nI (dyH (el j) q v0))) 45 (nI (dyM (el j) q v0))) fm hm so si sh ce ca td wa kp la bf2 oo bo pw ow tr)) := by
  obtain ⟨ls3, l3, K⟩ : ∃ ls3 : List Int32, ls3.length = 100 ∧ ∀ r, (∀ x4 x5 x6 : Option Value, Ef ab_Z0 4 mX6_goes (17, [some (.ref 65), some (.int (nI j)), some (.int (nI n)), some (.int (nI v0)), x4, x5, x6], [], (ww im lf s d k ls rf rz ra rn rq lt m1 m2 m3 m4 bd fc hd sz el (dyS (el j) q v0) (fUp (fUp (fUp g 43 (nI v0)) 44 (nI (dyH (el j) q v0))) 45 (nI (dyM (el j) q v0))) fm hm so si sh ce ca td wa kp la ls3 oo bo pw ow tr)) r) → ∀ x4 x5 x6 : Option Value, Ef ab_Z0 4 mX6_goes (17, [some (.ref 65), some (.int (nI j)), some (.int (nI n)), some (.int (nI 0)), x4, x5, x6], [], (ww im lf s d k ls rf rz ra rn rq lt m1 m2 m3 m4 bd fc hd sz el (dyS (el j) q 0) (fUp (fUp (fUp g 43 (nI 0)) 44 (nI (dyH (el j) q 0))) 45 (nI (dyM (el j) q 0))) fm hm so si sh ce ca td wa kp la bf oo bo pw ow tr)) r := dy_m hj hz hn1 le l_ce hce (N0 := v0) hn hn20 (by omega) I hok v0 0 bf (Nat.zero_add _) l_bf
  obtain ⟨ls4, l4, K4⟩ : ∃ ls4 : List Int32, ls4.length = 100 ∧ ∀ x4 x5 x6 : Option Value, Ef ab_Z0 4 mX6_goes (17, [some (.ref 65), some (.int (nI j)), some (.int (nI n)), some (.int (nI v0)), x4, x5, x6], [], (ww im lf s d k ls rf rz ra rn rq lt m1 m2 m3 m4 bd fc hd sz el (dyS (el j) q v0) (fUp (fUp (fUp g 43 (nI v0)) 44 (nI (dyH (el j) q v0))) 45 (nI (dyM (el j) q v0))) fm hm so si sh ce ca td wa kp la ls3 oo bo pw ow tr)) (some (.int (nI v0)), (ww im lf s d k ls rf rz ra rn rq lt m1 m2 m3 m4 bd fc hd sz el (dyS (el j) q v0) (fUp (fUp (fUp g 43 (nI v0)) 44 (nI (dyH (el j) q v0))) 45 (nI (dyM (el j) q v0))) fm hm so si sh ce ca td wa kp la ls4 oo bo pw ow tr)) := dy_m0 hj hz hn1 le l_ce hce hn hn20 hv (dyS_I I v0) hno l3
  refine ⟨ls4, l4, ?_⟩
  refine Ef.in (md := mX6_goes) (L := [some (.ref 65), some (.int (nI j)), some (.int (nI n)), none, none, none, none]) rfl (Nat.le_of_ble_eq_true rfl) rfl ?_
  refine E_aload_n rfl rfl ?_
  refine E_iconst (x := nI 0) rfl (by decide) ?_
  refine E_putfield (cs2 := (ww im lf s d k ls rf rz ra rn rq lt m1 m2 m3 m4 bd fc hd sz el q (fUp g 43 (nI 0)) fm hm so si sh ce ca td wa kp la bf oo bo pw ow tr)) rfl w65 rfl (by decide) (Nat.le_of_ble_eq_true rfl) rfl rfl rfl w_pt65_43 ?_
  refine E_aload_n rfl rfl ?_
  refine E_iconst (x := nI 0) rfl (by decide) ?_
  refine E_putfield (cs2 := (ww im lf s d k ls rf rz ra rn rq lt m1 m2 m3 m4 bd fc hd sz el q (fUp (fUp g 43 (nI 0)) 44 (nI 0)) fm hm so si sh ce ca td wa kp la bf oo bo pw ow tr)) rfl w65 rfl (by decide) (Nat.le_of_ble_eq_true rfl) rfl rfl rfl w_pt65_44 ?_
  refine E_aload_n rfl rfl ?_
  refine E_iconst (x := nI 0) rfl (by decide) ?_
  refine E_putfield (cs2 := (ww im lf s d k ls rf rz ra rn rq lt m1 m2 m3 m4 bd fc hd sz el q (fUp (fUp (fUp g 43 (nI 0)) 44 (nI 0)) 45 (nI 0)) fm hm so si sh ce ca td wa kp la bf oo bo pw ow tr)) rfl w65 rfl (by decide) (Nat.le_of_ble_eq_true rfl) rfl rfl rfl w_pt65_45 ?_
  refine E_iconst (x := nI 0) rfl (by decide) ?_
  refine E_istore_n (L2 := [some (.ref 65), some (.int (nI j)), some (.int (nI n)), some (.int (nI 0)), none, none, none]) rfl rfl ?_
  exact K _ K4 none none none
end TH
theorem qGP_at {l : List Nat} {p b : Nat} (hl : l.length = 9) : ∀ n x, x < n → n ≤ 9 → (qGP l p b n).getD x 0 = if qBit b x = 1 then p else l.getD x 0
  | 0, x, h, _ => absurd h (Nat.not_lt_zero x)
  | n + 1, x, h, h9 => by
    have hn : ∀ m, m ≤ 9 → ∀ y, m ≤ y → (qGP l p b m).getD y 0 = l.getD y 0 := by
      intro m
      induction m with
      | zero => intro _ y _; rfl
      | succ m ih =>
        intro hm y hy
        rcases qBit2 b m with c | c
        · rw [qGP_0 c]
          exact ih (by omega) y (by omega)
        · rw [qGP_1 c, ab_gs1 (by omega)]
          exact ih (by omega) y (by omega)
    by_cases z : x = n
    · rcases qBit2 b n with c | c
      · rw [qGP_0 c, z, hn n (by omega) n (Nat.le_refl n), if_neg (by omega)]
      · rw [qGP_1 c, z, ab_gs2 (by rw [qGP_len]; omega), if_pos c]
    · have ih := qGP_at (p := p) (b := b) hl n x (by omega) (by omega)
      rcases qBit2 b n with c | c
      · rw [qGP_0 c]
        exact ih
      · rw [qGP_1 c, ab_gs1 (by omega)]
        exact ih
theorem qGd_sub {s : ab_q} (I : qI s) : ∀ t l u m r, u < 512 → m < 512 → qGd s t l u m = r + 1 → ∀ x, x < 9 → qBit r x = 1 → qBit m x = 1 ∨ qBit u x = 1
  | 0, l, u, m, r, _, _, h, x, _, hx => by
    by_cases hl : l = 0
    · rw [hl, qGd_z] at h
      obtain rfl : m = r := by omega
      exact Or.inl hx
    · rw [qGd_n hl] at h
      omega
  | t + 1, l, u, m, r, hu, hm, h, x, hx9, hx => by
    by_cases hl : l = 0
    · rw [hl, qGd_z] at h
      obtain rfl : m = r := by omega
      exact Or.inl hx
    · rcases hp : qPk s l u (qN s) with _ | k
      · rw [qGd_0 hl hp] at h
        omega
      · rw [qGd_k hl hp] at h
        have hk := qPk_ok _ hp
        have h5 := ab_or512 hm (Nat.lt_of_lt_of_le hk.1 I.2.2.1.1)
        rcases qGd_sub I t _ _ _ r (Nat.lt_of_le_of_lt (qAn_le hu) hu) h5 h x hx9 hx with c | c
        · rcases qBit_or.mp c with c | c
          · exact Or.inl c
          · exact Or.inr (c ▸ hk.2.1)
        · exact Or.inr ((qAn_bit hu h5 hx9).mp c).1
theorem chg_sub {q : ab_q} {c b : Nat} (I : qI q) (h : chg q c = b + 1) : ∀ x, x < qN q → qBit b x = 1 → (qP q).getD x 0 = 99 := by
  intro x hx hb
  have h9 := I.2.2.1.1
  unfold chg at h
  split at h
  · have e := (bst_in _ _ _ h).2.1
    refine (qPs_bit (qN q) x hx).mp ((qBit_t _ _).mpr ?_)
    have t := (qBit_t _ _).mp hb
    rw [← e, Nat.testBit_and] at t
    exact (Bool.and_eq_true_iff.mp t).2
  · unfold qGreedy at h
    rcases qGd_sub I 9 c _ 0 b (qPs_in q 99 h9) (by decide) h x (by omega) hb with z | z
    · rw [qBit_none] at z
      omega
    · exact (qPs_bit (qN q) x hx).mp z
theorem gr_harm {q : ab_q} {p u b : Nat} (I : qI q) (hp : p < qM q) (hb : ∀ x, x < qN q → qBit b x = 1 → (qP q).getD x 0 = 99) : ∀ i, i ≤ qN q → qHs q (qPs q 99 (qN q)) i = qHs (grQ q p u b) (qPs (grQ q p u b) 99 (qN q)) i + qHs q b i
  | 0, _ => rfl
  | i + 1, hi => by
    have ih := gr_harm (u := u) I hp hb i (by omega)
    have h9 := I.2.2.1.1
    have h6 := I.2.2.1.2
    show qHs q (qPs q 99 (qN q)) i + (if qBit (qPs q 99 (qN q)) i = 1 then qHarm q i else 0) = qHs (grQ q p u b) (qPs (grQ q p u b) 99 (qN q)) i + (if qBit (qPs (grQ q p u b) 99 (qN q)) i = 1 then qHarm (grQ q p u b) i else 0) + (qHs q b i + (if qBit b i = 1 then qHarm q i else 0))
    rw [show qHarm (grQ q p u b) i = qHarm q i from rfl]
    have e1 := qPs_bit (s := q) (w := 99) (qN q) i (by omega)
    have e2 := qPs_bit (s := grQ q p u b) (w := 99) (qN q) i (by omega)
    rw [show (qP (grQ q p u b)) = qGP (qP q) p b (qN q) from rfl, qGP_at I.1.2.2.2 (qN q) i (by omega) h9] at e2
    by_cases c : qBit b i = 1
    · have c1 : qBit (qPs q 99 (qN q)) i = 1 := e1.mpr (hb i (by omega) c)
      rw [if_pos c] at e2
      have c2 : ¬ qBit (qPs (grQ q p u b) 99 (qN q)) i = 1 := fun z => by
        have := e2.mp z
        omega
      rw [if_pos c1, if_neg c2, if_pos c]
      omega
    · rw [if_neg c] at e2
      rw [if_neg c]
      by_cases c1 : qBit (qPs q 99 (qN q)) i = 1
      · rw [if_pos c1, if_pos (e2.mpr (e1.mp c1))]
        omega
      · rw [if_neg c1, if_neg (fun z => c1 (e1.mpr (e2.mp z)))]
        omega
theorem grQ_N {q : ab_q} {p u b : Nat} : qN (grQ q p u b) = qN q := rfl
theorem grQ_Y {q : ab_q} {p u b : Nat} : qY (grQ q p u b) = qY q + nI u := rfl
theorem dyS_N {e : List Int64} {s : ab_q} : ∀ v, qN (dyS e s v) = qN s
  | 0 => rfl
  | v + 1 => by
    rcases h : thr (dyS e s v) (tw e (2 * v)) (tw e (2 * v + 1)) with _ | b
    · have q : dyS e s (v + 1) = dyS e s v := by
        show (match thr (dyS e s v) (tw e (2 * v)) (tw e (2 * v + 1)) with | 0 => dyS e s v | b + 1 => grQ (dyS e s v) (tw e (2 * v)).toNatClampNeg (tw e (2 * v + 1)).toNatClampNeg b) = _
        rw [h]
      rw [q]
      exact dyS_N v
    · rw [(dy_1 h rfl rfl).1, grQ_N]
      exact dyS_N v
theorem dy_harm {e : List Int64} {s : ab_q} (I : qI s) : ∀ v, (∀ i, i < v → thr (dyS e s i) (tw e (2 * i)) (tw e (2 * i + 1)) ≠ 0) → qHs s (qPs s 99 (qN s)) (qN s) = qHs (dyS e s v) (qPs (dyS e s v) 99 (qN (dyS e s v))) (qN (dyS e s v)) + dyH e s v
  | 0, _ => rfl
  | v + 1, h => by
    have ih := dy_harm I v (fun i hi => h i (by omega))
    obtain ⟨b, hb⟩ : ∃ b, thr (dyS e s v) (tw e (2 * v)) (tw e (2 * v + 1)) = b + 1 := ⟨thr (dyS e s v) (tw e (2 * v)) (tw e (2 * v + 1)) - 1, by have := h v (by omega); omega⟩
    obtain ⟨p, u, -, -, -, hp, -, -, hc, e8, e9⟩ := thr_ex hb
    have g := gr_harm (u := u) (dyS_I I v) hp (chg_sub (dyS_I I v) hc) (qN (dyS e s v)) (Nat.le_refl _)
    have d1 := dy_1 hb e8 e9
    rw [d1.2.1, d1.1, grQ_N]
    omega
theorem dy_money {e : List Int64} {s : ab_q} (v : Nat) (h : ∀ i, i < v → thr (dyS e s i) (tw e (2 * i)) (tw e (2 * i + 1)) ≠ 0) : qY (dyS e s v) = qY s + nI (dyM e s v) := by
  induction v with
  | zero => exact (Int32.add_zero _).symm
  | succ v ih =>
    have ih := ih (fun i hi => h i (by omega))
    obtain ⟨b, hb⟩ : ∃ b, thr (dyS e s v) (tw e (2 * v)) (tw e (2 * v + 1)) = b + 1 := ⟨thr (dyS e s v) (tw e (2 * v)) (tw e (2 * v + 1)) - 1, by have := h v (by omega); omega⟩
    obtain ⟨p, u, -, -, -, hp, -, -, hc, e8, e9⟩ := thr_ex hb
    have d1 := dy_1 hb e8 e9
    rw [d1.2.2, d1.1, grQ_Y, ih, ← nI_add, Int32.add_assoc]
theorem dy_money2 {e : List Int64} {s : ab_q} {v : Nat} (h : ∀ i, i < v → thr (dyS e s i) (tw e (2 * i)) (tw e (2 * i + 1)) ≠ 0) : nI (dyM e s v) = qY (dyS e s v) - qY s := by
  rw [dy_money v h, Int32.add_comm, Int32.add_sub_cancel]
