/-! whole texts; by program (wip/tools/mksq.py) -/
theorem chB_end {e : List Int64} {n c : Nat} : chB e n n c = false := by
  rcases bo2 (chB e n n c) with h | h
  · exact h
  · have := (chB_t h).1
    omega
theorem mtc_end {e : List Int64} {n c : Nat} {r : List Nat} : mtc e n (c :: r) n = 0 := mtc_f chB_end
theorem itF_end {e : List Int64} {n : Nat} {q : ab_q} : itF e n q n = n + 1 := by
  have h0 : mj0 e n n = 0 := mtc_end
  have h1 : mj1 e n n = 0 := mtc_end
  have h2 : mj2 e n n = 0 := mtc_end
  have h3 : mj3 e n n = 0 := mtc_end
  have h4 : mj4 e n n = 0 := mtc_end
  have h5 : mj5 e n n = 0 := mtc_end
  have h6 : mj6 e n n = 0 := mtc_end
  have hw : wd e n n = 7 := by
    have := wd_c e n n
    omega
  have hm : mxL e n n = 0 := by
    unfold mxL
    rw [h0, h1, h2, h3, h4, h5, h6]
    rfl
  rw [(it_7 (q := q) hw).1, hm]
/-- a text from a on: 0 it stands, f + 1 the fault; the square; how many items -/
def sqR (e : List Int64) (n : Nat) : Nat → ab_q → Nat → Nat → Nat × (ab_q × Nat)
  | 0, q, a, i => (a + 1, q, i)
  | k + 1, q, a, i => if itF e n q a = 0 then (if itA e n a < n then (if chB e n (itA e n a) 59 = true then sqR e n k (itQ e n q a) (itA e n a + 1) (i + 1) else (itA e n a + 1, itQ e n q a, i)) else (0, itQ e n q a, i)) else (itF e n q a, q, i)
theorem sqR_f {e : List Int64} {n k : Nat} {q : ab_q} {a i f : Nat} (h : itF e n q a = f + 1) : sqR e n (k + 1) q a i = (f + 1, q, i) := by
  show (if itF e n q a = 0 then _ else _ : Nat × (ab_q × Nat)) = _
  rw [if_neg (by omega), h]
theorem sqR_e {e : List Int64} {n k : Nat} {q : ab_q} {a i : Nat} (h : itF e n q a = 0) (h2 : ¬ itA e n a < n) : sqR e n (k + 1) q a i = (0, itQ e n q a, i) := by
  show (if itF e n q a = 0 then _ else _ : Nat × (ab_q × Nat)) = _
  rw [if_pos h, if_neg h2]
theorem sqR_n {e : List Int64} {n k : Nat} {q : ab_q} {a i : Nat} (h : itF e n q a = 0) (h2 : itA e n a < n) (h3 : chB e n (itA e n a) 59 = false) : sqR e n (k + 1) q a i = (itA e n a + 1, itQ e n q a, i) := by
  show (if itF e n q a = 0 then _ else _ : Nat × (ab_q × Nat)) = _
  rw [if_pos h, if_pos h2, if_neg (by rw [h3]; decide)]
theorem sqR_s {e : List Int64} {n k : Nat} {q : ab_q} {a i : Nat} (h : itF e n q a = 0) (h2 : itA e n a < n) (h3 : chB e n (itA e n a) 59 = true) : sqR e n (k + 1) q a i = sqR e n k (itQ e n q a) (itA e n a + 1) (i + 1) := by
  show (if itF e n q a = 0 then _ else _ : Nat × (ab_q × Nat)) = _
  rw [if_pos h, if_pos h2, if_pos h3]
theorem sqR_i {e : List Int64} {n : Nat} : ∀ (k : Nat) (q : ab_q) (a i : Nat), (sqR e n k q a i).2.2 ≤ i + k
  | 0, _, _, _ => Nat.le_refl _
  | k + 1, q, a, i => by
    by_cases h : itF e n q a = 0
    · by_cases h2 : itA e n a < n
      · rcases bo2 (chB e n (itA e n a) 59) with h3 | h3
        · rw [sqR_n h h2 h3]
          exact Nat.le_add_right _ _
        · rw [sqR_s h h2 h3]
          have := sqR_i (e := e) (n := n) k (itQ e n q a) (itA e n a + 1) (i + 1)
          omega
      · rw [sqR_e h h2]
        exact Nat.le_add_right _ _
    · obtain ⟨f, hf⟩ : ∃ f, itF e n q a = f + 1 := ⟨itF e n q a - 1, by omega⟩
      rw [sqR_f hf]
      exact Nat.le_add_right _ _
def rdL (e : List Int64) (l : List Int32) : Nat → List Int32
  | 0 => l
  | v + 1 => (rdL e l v).set v (tw e v)
theorem rdL_len (e : List Int64) (l : List Int32) : ∀ v, (rdL e l v).length = l.length
  | 0 => rfl
  | v + 1 => by
    show ((rdL e l v).set v (tw e v)).length = _
    rw [List.length_set]
    exact rdL_len e l v
theorem rdL_at {e : List Int64} {l : List Int32} (h : l.length = 160) : ∀ v, v ≤ 160 → ∀ i, i < v → (rdL e l v).getD i 0 = tw e i
  | 0, _, i, hi => absurd hi (Nat.not_lt_zero i)
  | v + 1, hv, i, hi => by
    show ((rdL e l v).set v (tw e v)).getD i 0 = _
    by_cases z : v = i
    · rw [z]
      exact ab_gs2 (by rw [rdL_len]; omega)
    · rw [ab_gs1 z]
      exact rdL_at h v (by omega) i (by omega)
section SF
variable {im : Int32} {lf : Int32} {s : ab_q} {d : ab_q} {k : ab_q} {ls : List Int32} {rf : Int32} {rz : Int32} {ra : Int32} {rn : Int32} {rq : ab_q} {lt : List Int32} {m1 : Int32} {m2 : Int32} {m3 : Int32} {m4 : Int32} {bd : List Int32} {fc : List Int32} {hd : Nat → Int32} {sz : Nat → Int32} {el : Nat → List Int64} {t : ab_q} {g : Nat → Int32} {fm : List Int32} {hm : List Nat} {so : List Nat} {si : List Nat} {sh : List Int32} {ce : List Int64} {ca : List Int64} {td : List Int32} {wa : List Int32} {kp : List Int32} {la : List Int32} {bf : List Int32} {oo : List Int32} {bo : List Int32} {pw : List Int32} {ow : List Int32} {tr : List Int32}
theorem w_read {j x n1 : Nat} (hj : j < 8) (hz : sz j = nI n1) (hx : x < n1) (hn1 : n1 ≤ 160) (le : (el j).length = 160) : Ev ab_Z0 3 41 [.ref (49 + 2 * j), .int (nI x)] (ww im lf s d k ls rf rz ra rn rq lt m1 m2 m3 m4 bd fc hd sz el t g fm hm so si sh ce ca td wa kp la bf oo bo pw ow tr) (some (.int (tw (el j) x)), (ww im lf s d k ls rf rz ra rn rq lt m1 m2 m3 m4 bd fc hd sz el t g fm hm so si sh ce ca td wa kp la bf oo bo pw ow tr)) := by
  refine Ef.in (md := mX3_read) (L := [some (.ref (49 + 2 * j)), some (.int (nI x))]) rfl (Nat.le_of_ble_eq_true rfl) rfl ?_
  refine E_aload_n rfl rfl ?_
  refine E_iload_n rfl rfl ?_
  have e2 : Ev ab_Z0 2 40 [.ref (49 + 2 * j), .int (nI x)] (ww im lf s d k ls rf rz ra rn rq lt m1 m2 m3 m4 bd fc hd sz el t g fm hm so si sh ce ca td wa kp la bf oo bo pw ow tr) (some (.long ((el j).getD x 0)), (ww im lf s d k ls rf rz ra rn rq lt m1 m2 m3 m4 bd fc hd sz el t g fm hm so si sh ce ca td wa kp la bf oo bo pw ow tr)) := by
    refine Ef.in (md := mX3_whole) (L := [some (.ref (49 + 2 * j)), some (.int (nI x))]) rfl (Nat.le_of_ble_eq_true rfl) rfl ?_
    refine E_aload_n rfl rfl ?_
    refine E_iload_n rfl rfl ?_
    have e1 : Ev ab_Z0 1 35 [.ref (49 + 2 * j), .int (nI x)] (ww im lf s d k ls rf rz ra rn rq lt m1 m2 m3 m4 bd fc hd sz el t g fm hm so si sh ce ca td wa kp la bf oo bo pw ow tr) (some (.int (nI 1)), (ww im lf s d k ls rf rz ra rn rq lt m1 m2 m3 m4 bd fc hd sz el t g fm hm so si sh ce ca td wa kp la bf oo bo pw ow tr)) := by
      refine Ef.in (md := mX3_hasElement) (L := [some (.ref (49 + 2 * j)), some (.int (nI x))]) rfl (Nat.le_of_ble_eq_true rfl) rfl ?_
      refine E_iload_n rfl rfl ?_
      refine E_if (t := 16) (b := false) rfl rfl ((cn_lt (nI_toInt (by omega)) (by decide : (0 : Int32).toInt = 0)).trans (decide_eq_false (by omega))) ?_
      refine E_iload_n rfl rfl ?_
      refine E_aload_n rfl rfl ?_
      refine E_getfield (v := .int (nI n1)) rfl (w_shv (j := j) (by omega) rfl hz) rfl (by decide) rfl ?_
      refine E_ic (t := 16) (b := false) rfl rfl ((cn_ge (nI_toInt (by omega)) (nI_toInt (by omega))).trans (decide_eq_false (by omega))) ?_
      refine E_iconst (x := nI 1) rfl (by decide) ?_
      refine E_goto (t := 17) rfl rfl ?_
      exact E_iret rfl rfl
    refine E_callV (v := some (.int (nI 1))) (As := [.ref (49 + 2 * j), .int (nI x)]) (r0 := []) (cs2 := (ww im lf s d k ls rf rz ra rn rq lt m1 m2 m3 m4 bd fc hd sz el t g fm hm so si sh ce ca td wa kp la bf oo bo pw ow tr)) rfl rfl rfl (Nat.le_of_ble_eq_true rfl) rfl (ab_rvOf (w_shv (j := j) (by omega) rfl hz) rfl) e1 (by decide) rfl ?_
    refine E_if (t := 17) (b := false) rfl rfl (by decide) ?_
    refine E_aload_n rfl rfl ?_
    refine E_getfield (v := .ref (50 + 2 * j)) rfl (w_shv (j := j) (by omega) rfl hz) rfl (by decide) rfl ?_
    refine E_iload_n rfl rfl ?_
    refine E_lalL (l := el j) (v := (el j).getD x 0) rfl (w_el (j := j) (by omega)) (by omega) (by omega) rfl ?_
    refine E_goto (t := 18) rfl rfl ?_
    exact E_lret rfl rfl
  refine E_callV (v := some (.long ((el j).getD x 0))) (As := [.ref (49 + 2 * j), .int (nI x)]) (r0 := []) (cs2 := (ww im lf s d k ls rf rz ra rn rq lt m1 m2 m3 m4 bd fc hd sz el t g fm hm so si sh ce ca td wa kp la bf oo bo pw ow tr)) rfl rfl rfl (Nat.le_of_ble_eq_true rfl) rfl (ab_rvOf (w_shv (j := j) (by omega) rfl hz) rfl) e2 (by decide) rfl ?_
  refine E_l2i (z := ((el j).getD x 0).toInt32) rfl rfl ?_
  exact E_iret rfl rfl
set_option maxHeartbeats 1000000 in
theorem rda_l {j n1 : Nat} (hj : j < 8) (hz : sz j = nI n1) (hn1 : n1 ≤ 160) (le : (el j).length = 160) (l_lt : lt.length = 160) : ∀ n0 v , v + n0 = n1 → Ef ab_Z0 3 mX3_readAll (12, [some (.ref (49 + 2 * j)), some (.ref 45), some (.int (nI n1)), some (.int (nI v))], [], (ww im lf s d k ls rf rz ra rn rq (rdL (el j) lt v) m1 m2 m3 m4 bd fc hd sz el t g fm hm so si sh ce ca td wa kp la bf oo bo pw ow tr)) (some (.int (nI n1)), (ww im lf s d k ls rf rz ra rn rq (rdL (el j) lt n1) m1 m2 m3 m4 bd fc hd sz el t g fm hm so si sh ce ca td wa kp la bf oo bo pw ow tr)) := by
  intro n0
  induction n0 with
  | zero =>
    intro v  hi
    have hi : v = n1 := by omega
    rw [hi]
    refine E_iload_n rfl rfl ?_
    refine E_iload_n rfl rfl ?_
    refine E_ic (t := 31) (b := true) rfl rfl ((cn_ge (nI_toInt (by omega)) (nI_toInt (by omega))).trans (decide_eq_true (by omega))) ?_
    refine E_iload_n rfl rfl ?_
    exact E_iret rfl rfl
  | succ n0 ih =>
    intro v  hi
    have hll := (rdL_len (el j) lt v).trans l_lt
    have : (rdL (el j) lt v).length = 160 := by first | omega | (simp only [List.length_set]; omega)
    refine E_iload_n rfl rfl ?_
    refine E_iload_n rfl rfl ?_
    refine E_ic (t := 31) (b := false) rfl rfl ((cn_ge (nI_toInt (by omega)) (nI_toInt (by omega))).trans (decide_eq_false (by omega))) ?_
    refine E_aload_n rfl rfl ?_
    refine E_iload_n rfl rfl ?_
    refine E_aload_n rfl rfl ?_
    refine E_iload_n rfl rfl ?_
    refine E_callV (v := some (.int (tw (el j) v))) (As := [.ref (49 + 2 * j), .int (nI v)]) (r0 := [.int (nI v), .ref 45]) (cs2 := (ww im lf s d k ls rf rz ra rn rq (rdL (el j) lt v) m1 m2 m3 m4 bd fc hd sz el t g fm hm so si sh ce ca td wa kp la bf oo bo pw ow tr)) rfl rfl rfl (Nat.le_of_ble_eq_true rfl) rfl (ab_rvOf (w_shv (j := j) (by omega) rfl hz) rfl) (w_read hj hz (by omega) hn1 le) (by decide) rfl ?_
    refine E_iasI (l := (rdL (el j) lt v)) (cs2 := (ww im lf s d k ls rf rz ra rn rq ((rdL (el j) lt v).set v (tw (el j) v)) m1 m2 m3 m4 bd fc hd sz el t g fm hm so si sh ce ca td wa kp la bf oo bo pw ow tr)) rfl w45 (by omega) (by omega) rfl ?_
    refine E_iinc (y := nI (v + 1)) (L2 := [some (.ref (49 + 2 * j)), some (.ref 45), some (.int (nI n1)), some (.int (nI (v + 1)))]) rfl rfl (nI_1 _) rfl ?_
    refine E_goto (t := 12) rfl rfl ?_
    exact ih (v + 1) (by omega)
theorem w_readAll {j n1 : Nat} (hj : j < 8) (hz : sz j = nI n1) (hn1 : n1 ≤ 160) (le : (el j).length = 160) (l_lt : lt.length = 160) : Ev ab_Z0 4 42 [.ref (49 + 2 * j), .ref 45] (ww im lf s d k ls rf rz ra rn rq lt m1 m2 m3 m4 bd fc hd sz el t g fm hm so si sh ce ca td wa kp la bf oo bo pw ow tr) (some (.int (nI n1)), (ww im lf s d k ls rf rz ra rn rq (rdL (el j) lt n1) m1 m2 m3 m4 bd fc hd sz el t g fm hm so si sh ce ca td wa kp la bf oo bo pw ow tr)) := by
  refine Ef.in (md := mX3_readAll) (L := [some (.ref (49 + 2 * j)), some (.ref 45), none, none]) rfl (Nat.le_of_ble_eq_true rfl) rfl ?_
  refine E_aload_n rfl rfl ?_
  refine E_getfield (v := .int (nI n1)) rfl (w_shv (j := j) (by omega) rfl hz) rfl (by decide) rfl ?_
  refine E_aload_n rfl rfl ?_
  refine E_alI (l := lt) (z := nI 160) rfl w45 (by rw [l_lt]; rfl) ?_
  refine E_min (z := nI n1) rfl (Nat.le_of_ble_eq_true rfl) (ab_ite_f (ab_nltI (nI_toInt (by omega)) (nI_toInt (by omega)) (by omega))) ?_
  refine E_istore_n (L2 := [some (.ref (49 + 2 * j)), some (.ref 45), some (.int (nI n1)), none]) rfl rfl ?_
  refine E_iconst (x := nI 0) rfl (by decide) ?_
  refine E_istore_n (L2 := [some (.ref (49 + 2 * j)), some (.ref 45), some (.int (nI n1)), some (.int (nI 0))]) rfl rfl ?_
  exact rda_l hj hz hn1 le l_lt n1 0 (Nat.zero_add _)
set_option maxHeartbeats 2000000 in
theorem rd_l {e : List Int64} {n rA rB : Nat} (hn : n ≤ 160) (l_lt : lt.length = 160) (hlt : ∀ i, i < n → lt.getD i 0 = tw e i) : ∀ (k0 : Nat) (q : ab_q) (a i : Nat) (rn0 : Int32), n + 1 ≤ a + k0 → a ≤ n → i ≤ a + 1 → qI q → ∃ (rq2 : ab_q) (rf2 ra2 rn2 res : Int32), Ef ab_Z0 5 mX2_read (32, [some (.ref 34), some (.ref rA), some (.ref rB), some (.int (nI i))], [], (ww im lf s d k ls (-1) (nI n) (nI a) rn0 q lt m1 m2 m3 m4 bd fc hd sz el t g fm hm so si sh ce ca td wa kp la bf oo bo pw ow tr)) (some (.int res), (ww im lf s d k ls rf2 (nI n) ra2 rn2 rq2 lt m1 m2 m3 m4 bd fc hd sz el t g fm hm so si sh ce ca td wa kp la bf oo bo pw ow tr)) ∧ (((sqR e n k0 q a i).1 = 0 ∧ res = nI (sqR e n k0 q a i).2.2 ∧ rf2 = -1 ∧ rq2 = (sqR e n k0 q a i).2.1 ∧ qI rq2 ∧ qN q ≤ qN rq2) ∨ ∃ f, (sqR e n k0 q a i).1 = f + 1 ∧ res = -1 ∧ rf2 = nI f ∧ qI rq2) := by
  intro k0
  induction k0 with
  | zero =>
    intro q a i rn0 hk ha hi Iq
    omega
  | succ k0 ih =>
    intro q a i rn0 hk ha hi Iq
    by_cases hin : n < i
    · have e9 : itF e n q a = n + 1 := by
        obtain rfl : a = n := by omega
        exact itF_end
      refine ⟨q, nI n, nI a, rn0, -1, ?_, Or.inr ⟨n, by rw [sqR_f e9], rfl, rfl, Iq⟩⟩
      refine E_iload_n rfl rfl ?_
      refine E_aload_n rfl rfl ?_
      refine E_getfield (v := .int (nI n)) rfl w34 rfl (by decide) rfl ?_
      refine E_ic (t := 87) (b := true) rfl rfl ((cn_gt (nI_toInt (by omega)) (nI_toInt (by omega))).trans (decide_eq_true (by omega))) ?_
      refine E_aload_n rfl rfl ?_
      refine E_aload_n rfl rfl ?_
      refine E_getfield (v := .int (nI n)) rfl w34 rfl (by decide) rfl ?_
      refine E_putfield (cs2 := (ww im lf s d k ls (nI n) (nI n) (nI a) rn0 q lt m1 m2 m3 m4 bd fc hd sz el t g fm hm so si sh ce ca td wa kp la bf oo bo pw ow tr)) rfl w34 rfl (by decide) (Nat.le_of_ble_eq_true rfl) rfl rfl rfl rfl ?_
      refine E_iconst (x := (-1)) rfl (by decide) ?_
      exact E_iret rfl rfl
    · obtain ⟨rq1, rf1, ra1, rn1, E1, hcase⟩ : ∃ (rq2 : ab_q) (rf2 ra2 rn2 : Int32), Ev ab_Z0 5 15 [.ref 34] (ww im lf s d k ls (-1) (nI n) (nI a) rn0 q lt m1 m2 m3 m4 bd fc hd sz el t g fm hm so si sh ce ca td wa kp la bf oo bo pw ow tr) (none, (ww im lf s d k ls rf2 (nI n) ra2 rn2 rq2 lt m1 m2 m3 m4 bd fc hd sz el t g fm hm so si sh ce ca td wa kp la bf oo bo pw ow tr)) ∧ ((itF e n q a = 0 ∧ rq2 = itQ e n q a ∧ ra2 = nI (itA e n a) ∧ rf2 = -1 ∧ itA e n a ≤ n ∧ a < itA e n a ∧ qI rq2 ∧ qN q ≤ qN rq2) ∨ ∃ f, itF e n q a = f + 1 ∧ rf2 = nI f ∧ f ≤ n ∧ rq2 = q) := w_item (rn := rn0) hn ha l_lt hlt Iq
      rcases hcase with ⟨h0, hq, hra, hrf, h1, h2, I1, hN⟩ | ⟨f, h0, hrf, hfn, hq⟩
      · rw [hra, hrf] at E1
        by_cases hend : itA e n a < n
        · rcases bo2 (chB e n (itA e n a) 59) with hs | hs
          · refine ⟨rq1, nI (itA e n a), nI (itA e n a), rn1, -1, ?_, Or.inr ⟨itA e n a, by rw [sqR_n h0 hend hs], rfl, rfl, I1⟩⟩
            refine E_iload_n rfl rfl ?_
            refine E_aload_n rfl rfl ?_
            refine E_getfield (v := .int (nI n)) rfl w34 rfl (by decide) rfl ?_
            refine E_ic (t := 87) (b := false) rfl rfl ((cn_gt (nI_toInt (by omega)) (nI_toInt (by omega))).trans (decide_eq_false (by omega))) ?_
            refine E_aload_n rfl rfl ?_
            refine E_callV (v := none) (As := [.ref 34]) (r0 := []) (cs2 := (ww im lf s d k ls (-1) (nI n) (nI (itA e n a)) rn1 rq1 lt m1 m2 m3 m4 bd fc hd sz el t g fm hm so si sh ce ca td wa kp la bf oo bo pw ow tr)) rfl rfl rfl (Nat.le_of_ble_eq_true rfl) rfl (ab_rvOf w34 rfl) E1 (by decide) w_lens ?_
            refine E_aload_n rfl rfl ?_
            refine E_getfield (v := .int (-1)) rfl w34 rfl (by decide) rfl ?_
            refine E_iconst (x := (-1)) rfl (by decide) ?_
            refine E_ic (t := 65) (b := false) rfl rfl (by decide) ?_
            refine E_aload_n rfl rfl ?_
            refine E_getfield (v := .int (nI (itA e n a))) rfl w34 rfl (by decide) rfl ?_
            refine E_aload_n rfl rfl ?_
            refine E_getfield (v := .int (nI n)) rfl w34 rfl (by decide) rfl ?_
            refine E_ic (t := 65) (b := true) rfl rfl ((cn_ne (nI_toInt (by omega)) (nI_toInt (by omega))).trans (decide_eq_true (by omega))) ?_
            refine E_aload_n rfl rfl ?_
            refine E_bipush (x := nI 59) rfl (by decide) ?_
            refine E_callV (v := none) (As := [.ref 34, .int (nI 59)]) (r0 := []) (cs2 := (ww im lf s d k ls (nI (itA e n a)) (nI n) (nI (itA e n a)) rn1 rq1 lt m1 m2 m3 m4 bd fc hd sz el t g fm hm so si sh ce ca td wa kp la bf oo bo pw ow tr)) rfl rfl rfl (Nat.le_of_ble_eq_true rfl) rfl (ab_rvOf w34 rfl) (w_sg0 (by decide) hn (by omega) l_lt hlt hs) (by decide) w_lens ?_
            refine E_aload_n rfl rfl ?_
            refine E_getfield (v := .int (nI (itA e n a))) rfl w34 rfl (by decide) rfl ?_
            refine E_iconst (x := (-1)) rfl (by decide) ?_
            refine E_ic (t := 81) (b := false) rfl rfl ((cn_eq (nI_toInt (by omega)) (by decide : (-1 : Int32).toInt = -1)).trans (decide_eq_false (by omega))) ?_
            refine E_iconst (x := (-1)) rfl (by decide) ?_
            exact E_iret rfl rfl
          · obtain ⟨rq3, rf3, ra3, rn3, res3, K3, hc3⟩ := ih rq1 (itA e n a + 1) (i + 1) rn1 (by omega) (by omega) (by omega) I1
            have es : sqR e n (k0 + 1) q a i = sqR e n k0 rq1 (itA e n a + 1) (i + 1) := by rw [sqR_s h0 hend hs, hq]
            refine ⟨rq3, rf3, ra3, rn3, res3, ?_, ?_⟩
            · refine E_iload_n rfl rfl ?_
              refine E_aload_n rfl rfl ?_
              refine E_getfield (v := .int (nI n)) rfl w34 rfl (by decide) rfl ?_
              refine E_ic (t := 87) (b := false) rfl rfl ((cn_gt (nI_toInt (by omega)) (nI_toInt (by omega))).trans (decide_eq_false (by omega))) ?_
              refine E_aload_n rfl rfl ?_
              refine E_callV (v := none) (As := [.ref 34]) (r0 := []) (cs2 := (ww im lf s d k ls (-1) (nI n) (nI (itA e n a)) rn1 rq1 lt m1 m2 m3 m4 bd fc hd sz el t g fm hm so si sh ce ca td wa kp la bf oo bo pw ow tr)) rfl rfl rfl (Nat.le_of_ble_eq_true rfl) rfl (ab_rvOf w34 rfl) E1 (by decide) w_lens ?_
              refine E_aload_n rfl rfl ?_
              refine E_getfield (v := .int (-1)) rfl w34 rfl (by decide) rfl ?_
              refine E_iconst (x := (-1)) rfl (by decide) ?_
              refine E_ic (t := 65) (b := false) rfl rfl (by decide) ?_
              refine E_aload_n rfl rfl ?_
              refine E_getfield (v := .int (nI (itA e n a))) rfl w34 rfl (by decide) rfl ?_
              refine E_aload_n rfl rfl ?_
              refine E_getfield (v := .int (nI n)) rfl w34 rfl (by decide) rfl ?_
              refine E_ic (t := 65) (b := true) rfl rfl ((cn_ne (nI_toInt (by omega)) (nI_toInt (by omega))).trans (decide_eq_true (by omega))) ?_
              refine E_aload_n rfl rfl ?_
              refine E_bipush (x := nI 59) rfl (by decide) ?_
              refine E_callV (v := none) (As := [.ref 34, .int (nI 59)]) (r0 := []) (cs2 := (ww im lf s d k ls (-1) (nI n) (nI (itA e n a + 1)) rn1 rq1 lt m1 m2 m3 m4 bd fc hd sz el t g fm hm so si sh ce ca td wa kp la bf oo bo pw ow tr)) rfl rfl rfl (Nat.le_of_ble_eq_true rfl) rfl (ab_rvOf w34 rfl) (w_sg1 (by decide) hn (by omega) l_lt hlt hs) (by decide) w_lens ?_
              refine E_aload_n rfl rfl ?_
              refine E_getfield (v := .int (-1)) rfl w34 rfl (by decide) rfl ?_
              refine E_iconst (x := (-1)) rfl (by decide) ?_
              refine E_ic (t := 81) (b := true) rfl rfl (by decide) ?_
              refine E_iinc (y := nI (i + 1)) (L2 := [some (.ref 34), some (.ref rA), some (.ref rB), some (.int (nI (i + 1)))]) rfl rfl (nI_1 _) rfl ?_
              refine E_goto (t := 32) rfl rfl ?_
              exact K3
            · rw [es]
              rcases hc3 with ⟨c1, c2, c3, c4, c5, c6⟩ | c
              · exact Or.inl ⟨c1, c2, c3, c4, c5, Nat.le_trans hN c6⟩
              · exact Or.inr c
        · refine ⟨rq1, -1, nI (itA e n a), rn1, nI i, ?_, Or.inl ⟨by rw [sqR_e h0 hend], by rw [sqR_e h0 hend], rfl, by rw [sqR_e h0 hend]; exact hq, I1, hN⟩⟩
          have hend2 : itA e n a = n := by omega
          refine E_iload_n rfl rfl ?_
          refine E_aload_n rfl rfl ?_
          refine E_getfield (v := .int (nI n)) rfl w34 rfl (by decide) rfl ?_
          refine E_ic (t := 87) (b := false) rfl rfl ((cn_gt (nI_toInt (by omega)) (nI_toInt (by omega))).trans (decide_eq_false (by omega))) ?_
          refine E_aload_n rfl rfl ?_
          refine E_callV (v := none) (As := [.ref 34]) (r0 := []) (cs2 := (ww im lf s d k ls (-1) (nI n) (nI (itA e n a)) rn1 rq1 lt m1 m2 m3 m4 bd fc hd sz el t g fm hm so si sh ce ca td wa kp la bf oo bo pw ow tr)) rfl rfl rfl (Nat.le_of_ble_eq_true rfl) rfl (ab_rvOf w34 rfl) E1 (by decide) w_lens ?_
          refine E_aload_n rfl rfl ?_
          refine E_getfield (v := .int (-1)) rfl w34 rfl (by decide) rfl ?_
          refine E_iconst (x := (-1)) rfl (by decide) ?_
          refine E_ic (t := 65) (b := false) rfl rfl (by decide) ?_
          refine E_aload_n rfl rfl ?_
          refine E_getfield (v := .int (nI (itA e n a))) rfl w34 rfl (by decide) rfl ?_
          refine E_aload_n rfl rfl ?_
          refine E_getfield (v := .int (nI n)) rfl w34 rfl (by decide) rfl ?_
          refine E_ic (t := 65) (b := false) rfl rfl ((cn_ne (nI_toInt (by omega)) (nI_toInt (by omega))).trans (decide_eq_false (by omega))) ?_
          refine E_iload_n rfl rfl ?_
          exact E_iret rfl rfl
      · rw [hrf] at E1
        refine ⟨rq1, nI f, ra1, rn1, -1, ?_, Or.inr ⟨f, by rw [sqR_f h0], rfl, rfl, by rw [hq]; exact Iq⟩⟩
        refine E_iload_n rfl rfl ?_
        refine E_aload_n rfl rfl ?_
        refine E_getfield (v := .int (nI n)) rfl w34 rfl (by decide) rfl ?_
        refine E_ic (t := 87) (b := false) rfl rfl ((cn_gt (nI_toInt (by omega)) (nI_toInt (by omega))).trans (decide_eq_false (by omega))) ?_
        refine E_aload_n rfl rfl ?_
        refine E_callV (v := none) (As := [.ref 34]) (r0 := []) (cs2 := (ww im lf s d k ls (nI f) (nI n) ra1 rn1 rq1 lt m1 m2 m3 m4 bd fc hd sz el t g fm hm so si sh ce ca td wa kp la bf oo bo pw ow tr)) rfl rfl rfl (Nat.le_of_ble_eq_true rfl) rfl (ab_rvOf w34 rfl) E1 (by decide) w_lens ?_
        refine E_aload_n rfl rfl ?_
        refine E_getfield (v := .int (nI f)) rfl w34 rfl (by decide) rfl ?_
        refine E_iconst (x := (-1)) rfl (by decide) ?_
        refine E_ic (t := 65) (b := true) rfl rfl ((cn_ne (nI_toInt (by omega)) (by decide : (-1 : Int32).toInt = -1)).trans (decide_eq_true (by omega))) ?_
        refine E_aload_n rfl rfl ?_
        refine E_bipush (x := nI 59) rfl (by decide) ?_
        refine E_callV (v := none) (As := [.ref 34, .int (nI 59)]) (r0 := []) (cs2 := (ww im lf s d k ls (nI f) (nI n) ra1 rn1 rq1 lt m1 m2 m3 m4 bd fc hd sz el t g fm hm so si sh ce ca td wa kp la bf oo bo pw ow tr)) rfl rfl rfl (Nat.le_of_ble_eq_true rfl) rfl (ab_rvOf w34 rfl) (w_sgx (by omega)) (by decide) rfl ?_
        refine E_aload_n rfl rfl ?_
        refine E_getfield (v := .int (nI f)) rfl w34 rfl (by decide) rfl ?_
        refine E_iconst (x := (-1)) rfl (by decide) ?_
        refine E_ic (t := 81) (b := false) rfl rfl ((cn_eq (nI_toInt (by omega)) (by decide : (-1 : Int32).toInt = -1)).trans (decide_eq_false (by omega))) ?_
        refine E_iconst (x := (-1)) rfl (by decide) ?_
        exact E_iret rfl rfl
set_option maxHeartbeats 1000000 in
theorem w_rdsq {j n1 : Nat} (hj : j < 8) (hz : sz j = nI n1) (hn1 : n1 ≤ 160) (le : (el j).length = 160) (l_lt : lt.length = 160) (I : qI s) (hrq : qLn rq) : ∃ (rq2 : ab_q) (rf2 ra2 rn2 res : Int32), Ev ab_Z0 6 14 [.ref 34, .ref (49 + 2 * j), .ref 1] (ww im lf s d k ls rf rz ra rn rq lt m1 m2 m3 m4 bd fc hd sz el t g fm hm so si sh ce ca td wa kp la bf oo bo pw ow tr) (some (.int res), (ww im lf s d k ls rf2 (nI n1) ra2 rn2 rq2 (rdL (el j) lt n1) m1 m2 m3 m4 bd fc hd sz el t g fm hm so si sh ce ca td wa kp la bf oo bo pw ow tr)) ∧ (((sqR (el j) n1 (n1 + 1) s 0 1).1 = 0 ∧ res = nI (sqR (el j) n1 (n1 + 1) s 0 1).2.2 ∧ rf2 = -1 ∧ rq2 = (sqR (el j) n1 (n1 + 1) s 0 1).2.1 ∧ qI rq2 ∧ qN s ≤ qN rq2) ∨ ∃ f, (sqR (el j) n1 (n1 + 1) s 0 1).1 = f + 1 ∧ res = -1 ∧ rf2 = nI f ∧ qI rq2) := by
  obtain ⟨rq3, rf3, ra3, rn3, res3, K3, hc3⟩ : ∃ (rq2 : ab_q) (rf2 ra2 rn2 res : Int32), Ef ab_Z0 5 mX2_read (32, [some (.ref 34), some (.ref (49 + 2 * j)), some (.ref 1), some (.int (nI 1))], [], (ww im lf s d k ls (-1) (nI n1) (nI 0) rn s (rdL (el j) lt n1) m1 m2 m3 m4 bd fc hd sz el t g fm hm so si sh ce ca td wa kp la bf oo bo pw ow tr)) (some (.int res), (ww im lf s d k ls rf2 (nI n1) ra2 rn2 rq2 (rdL (el j) lt n1) m1 m2 m3 m4 bd fc hd sz el t g fm hm so si sh ce ca td wa kp la bf oo bo pw ow tr)) ∧ (((sqR (el j) n1 (n1 + 1) s 0 1).1 = 0 ∧ res = nI (sqR (el j) n1 (n1 + 1) s 0 1).2.2 ∧ rf2 = -1 ∧ rq2 = (sqR (el j) n1 (n1 + 1) s 0 1).2.1 ∧ qI rq2 ∧ qN s ≤ qN rq2) ∨ ∃ f, (sqR (el j) n1 (n1 + 1) s 0 1).1 = f + 1 ∧ res = -1 ∧ rf2 = nI f ∧ qI rq2) := rd_l (e := el j) hn1 ((rdL_len _ _ _).trans l_lt) (rdL_at l_lt n1 hn1) (n1 + 1) s 0 1 rn (by omega) (by omega) (by omega) I
  refine ⟨rq3, rf3, ra3, rn3, res3, ?_, hc3⟩
  refine Ef.in (md := mX2_read) (L := [some (.ref 34), some (.ref (49 + 2 * j)), some (.ref 1), none]) rfl (Nat.le_of_ble_eq_true rfl) rfl ?_
  refine E_aload_n rfl rfl ?_
  refine E_getfield (v := .ref 35) rfl w34 rfl (by decide) rfl ?_
  refine E_aload_n rfl rfl ?_
  refine E_callV (v := none) (As := [.ref 35, .ref 1]) (r0 := []) (cs2 := (ww im lf s d k ls rf rz ra rn s lt m1 m2 m3 m4 bd fc hd sz el t g fm hm so si sh ce ca td wa kp la bf oo bo pw ow tr)) rfl rfl rfl (Nat.le_of_ble_eq_true rfl) rfl (ab_rvOf w35 rfl) (tk_35_1 hrq I.ln) (by decide) w_lens ?_
  refine E_aload_n rfl rfl ?_
  refine E_aload_n rfl rfl ?_
  refine E_aload_n rfl rfl ?_
  refine E_getfield (v := .ref 45) rfl w34 rfl (by decide) rfl ?_
  refine E_callV (v := some (.int (nI n1))) (As := [.ref (49 + 2 * j), .ref 45]) (r0 := [.ref 34]) (cs2 := (ww im lf s d k ls rf rz ra rn s (rdL (el j) lt n1) m1 m2 m3 m4 bd fc hd sz el t g fm hm so si sh ce ca td wa kp la bf oo bo pw ow tr)) rfl rfl rfl (Nat.le_of_ble_eq_true rfl) rfl (ab_rvOf (w_shv (j := j) (by omega) rfl hz) rfl) (w_readAll hj hz hn1 le l_lt) (by decide) w_lens ?_
  refine E_putfield (cs2 := (ww im lf s d k ls rf (nI n1) ra rn s (rdL (el j) lt n1) m1 m2 m3 m4 bd fc hd sz el t g fm hm so si sh ce ca td wa kp la bf oo bo pw ow tr)) rfl w34 rfl (by decide) (Nat.le_of_ble_eq_true rfl) rfl rfl rfl rfl ?_
  refine E_aload_n rfl rfl ?_
  refine E_iconst (x := nI 0) rfl (by decide) ?_
  refine E_putfield (cs2 := (ww im lf s d k ls rf (nI n1) (nI 0) rn s (rdL (el j) lt n1) m1 m2 m3 m4 bd fc hd sz el t g fm hm so si sh ce ca td wa kp la bf oo bo pw ow tr)) rfl w34 rfl (by decide) (Nat.le_of_ble_eq_true rfl) rfl rfl rfl rfl ?_
  refine E_aload_n rfl rfl ?_
  refine E_iconst (x := (-1)) rfl (by decide) ?_
  refine E_putfield (cs2 := (ww im lf s d k ls (-1) (nI n1) (nI 0) rn s (rdL (el j) lt n1) m1 m2 m3 m4 bd fc hd sz el t g fm hm so si sh ce ca td wa kp la bf oo bo pw ow tr)) rfl w34 rfl (by decide) (Nat.le_of_ble_eq_true rfl) rfl rfl rfl rfl ?_
  refine E_iconst (x := nI 1) rfl (by decide) ?_
  refine E_istore_n (L2 := [some (.ref 34), some (.ref (49 + 2 * j)), some (.ref 1), some (.int (nI 1))]) rfl rfl ?_
  exact K3
theorem w_sqOK {j n1 : Nat} (hj : j < 8) (hz1 : sz j = nI n1) (hn1 : n1 ≤ 160) (le : (el j).length = 160) (l_lt : lt.length = 160) (I : qI s) (hrq : qLn rq) (hz : (sqR (el j) n1 (n1 + 1) s 0 1).1 = 0) : ∃ (ra2 rn2 : Int32), Ev ab_Z0 6 14 [.ref 34, .ref (49 + 2 * j), .ref 1] (ww im lf s d k ls rf rz ra rn rq lt m1 m2 m3 m4 bd fc hd sz el t g fm hm so si sh ce ca td wa kp la bf oo bo pw ow tr) (some (.int (nI (sqR (el j) n1 (n1 + 1) s 0 1).2.2)), (ww im lf s d k ls (-1) (nI n1) ra2 rn2 ((sqR (el j) n1 (n1 + 1) s 0 1).2.1) (rdL (el j) lt n1) m1 m2 m3 m4 bd fc hd sz el t g fm hm so si sh ce ca td wa kp la bf oo bo pw ow tr)) ∧ qI (sqR (el j) n1 (n1 + 1) s 0 1).2.1 ∧ qN s ≤ qN (sqR (el j) n1 (n1 + 1) s 0 1).2.1 := by
  obtain ⟨rq3, rf3, ra3, rn3, res3, E3, hc3⟩ : ∃ (rq2 : ab_q) (rf2 ra2 rn2 res : Int32), Ev ab_Z0 6 14 [.ref 34, .ref (49 + 2 * j), .ref 1] (ww im lf s d k ls rf rz ra rn rq lt m1 m2 m3 m4 bd fc hd sz el t g fm hm so si sh ce ca td wa kp la bf oo bo pw ow tr) (some (.int res), (ww im lf s d k ls rf2 (nI n1) ra2 rn2 rq2 (rdL (el j) lt n1) m1 m2 m3 m4 bd fc hd sz el t g fm hm so si sh ce ca td wa kp la bf oo bo pw ow tr)) ∧ (((sqR (el j) n1 (n1 + 1) s 0 1).1 = 0 ∧ res = nI (sqR (el j) n1 (n1 + 1) s 0 1).2.2 ∧ rf2 = -1 ∧ rq2 = (sqR (el j) n1 (n1 + 1) s 0 1).2.1 ∧ qI rq2 ∧ qN s ≤ qN rq2) ∨ ∃ f, (sqR (el j) n1 (n1 + 1) s 0 1).1 = f + 1 ∧ res = -1 ∧ rf2 = nI f ∧ qI rq2) := w_rdsq hj hz1 hn1 le l_lt I hrq
  rcases hc3 with ⟨c1, c2, c3, c4, c5, c6⟩ | ⟨f2, c1, c2, c3, c4⟩
  · rw [c2, c3, c4] at E3
    rw [c4] at c5 c6
    exact ⟨ra3, rn3, E3, c5, c6⟩
  · omega
theorem w_sqBad {j n1 : Nat} (hj : j < 8) (hz1 : sz j = nI n1) (hn1 : n1 ≤ 160) (le : (el j).length = 160) {f : Nat} (l_lt : lt.length = 160) (I : qI s) (hrq : qLn rq) (hz : (sqR (el j) n1 (n1 + 1) s 0 1).1 = f + 1) : ∃ (rq2 : ab_q) (ra2 rn2 : Int32), Ev ab_Z0 6 14 [.ref 34, .ref (49 + 2 * j), .ref 1] (ww im lf s d k ls rf rz ra rn rq lt m1 m2 m3 m4 bd fc hd sz el t g fm hm so si sh ce ca td wa kp la bf oo bo pw ow tr) (some (.int (-1)), (ww im lf s d k ls (nI f) (nI n1) ra2 rn2 rq2 (rdL (el j) lt n1) m1 m2 m3 m4 bd fc hd sz el t g fm hm so si sh ce ca td wa kp la bf oo bo pw ow tr)) ∧ qI rq2 := by
  obtain ⟨rq3, rf3, ra3, rn3, res3, E3, hc3⟩ : ∃ (rq2 : ab_q) (rf2 ra2 rn2 res : Int32), Ev ab_Z0 6 14 [.ref 34, .ref (49 + 2 * j), .ref 1] (ww im lf s d k ls rf rz ra rn rq lt m1 m2 m3 m4 bd fc hd sz el t g fm hm so si sh ce ca td wa kp la bf oo bo pw ow tr) (some (.int res), (ww im lf s d k ls rf2 (nI n1) ra2 rn2 rq2 (rdL (el j) lt n1) m1 m2 m3 m4 bd fc hd sz el t g fm hm so si sh ce ca td wa kp la bf oo bo pw ow tr)) ∧ (((sqR (el j) n1 (n1 + 1) s 0 1).1 = 0 ∧ res = nI (sqR (el j) n1 (n1 + 1) s 0 1).2.2 ∧ rf2 = -1 ∧ rq2 = (sqR (el j) n1 (n1 + 1) s 0 1).2.1 ∧ qI rq2 ∧ qN s ≤ qN rq2) ∨ ∃ f, (sqR (el j) n1 (n1 + 1) s 0 1).1 = f + 1 ∧ res = -1 ∧ rf2 = nI f ∧ qI rq2) := w_rdsq hj hz1 hn1 le l_lt I hrq
  rcases hc3 with ⟨c1, c2, c3, c4, c5, c6⟩ | ⟨f2, c1, c2, c3, c4⟩
  · omega
  · rw [c2, c3, show f2 = f from by omega] at E3
    exact ⟨rq3, ra3, rn3, E3, c4⟩
theorem gn_st {g : Nat → Int32} {a b c z : Int32} : (fUp (fUp (fUp (fUp g 27 a) 28 z) 29 b) 6 c) = (fUp (fUp (fUp (fUp (fUp (fUp g 27 a) 29 b) 6 c) 28 z) 30 (g 30)) 31 (g 31)) := by
  funext p
  unfold fUp
  by_cases h31 : p = 31
  · subst h31; rfl
  by_cases h30 : p = 30
  · subst h30; rfl
  by_cases h29 : p = 29
  · subst h29; rfl
  by_cases h28 : p = 28
  · subst h28; rfl
  by_cases h27 : p = 27
  · subst h27; rfl
  by_cases h6 : p = 6
  · subst h6; rfl
  simp only [if_neg h31, if_neg h30, if_neg h29, if_neg h28, if_neg h27, if_neg h6]
set_option maxHeartbeats 2000000 in
theorem sr_l {e : List Int64} {n j : Nat} (hj : j < 8) (hn : n ≤ 160) (l_ce : ce.length = 1280) (hce : ∀ p, p < 160 → e.getD p 0 = ce.getD (160 * j + p) 0) : ∀ (k0 : Nat) (q : ab_q) (a i : Nat) (t2 : ab_q) (y28 y30 y31 : Int32) (td2 : List Int32) (r : Int32), n ≤ a + k0 → a ≤ n → i + k0 ≤ 400 → td2.length = 3 → qI q → ((itF e n q a = 0 ∧ t2 = itQ e n q a ∧ y28 = nI (itA e n a) ∧ r = nI 1 ∧ itA e n a ≤ n ∧ a < itA e n a ∧ qI t2) ∨ ∃ f, itF e n q a = f + 1 ∧ y31 = nI f ∧ t2 = q ∧ r = nI 0) → ∃ (t3 : ab_q) (z28 z30 z31 g3 : Int32) (td3 : List Int32) (i3 : Nat), (∀ rr, Ef ab_Z0 3 mX6_square (133, [some (.ref 65), some (.int (nI j)), some (.int (nI 0)), some (.int (nI i3)), some (.int g3)], [], (ww im lf s d k ls rf rz ra rn rq lt m1 m2 m3 m4 bd fc hd sz el t3 (fUp (fUp (fUp (fUp (fUp (fUp g 27 (nI (160 * j))) 29 (nI n)) 6 (-1)) 28 z28) 30 z30) 31 z31) fm hm so si sh ce ca td3 wa kp la bf oo bo pw ow tr)) rr → Ef ab_Z0 3 mX6_square (62, [some (.ref 65), some (.int (nI j)), some (.int (nI 0)), some (.int (nI i)), some (.int r)], [], (ww im lf s d k ls rf rz ra rn rq lt m1 m2 m3 m4 bd fc hd sz el t2 (fUp (fUp (fUp (fUp (fUp (fUp g 27 (nI (160 * j))) 29 (nI n)) 6 (-1)) 28 y28) 30 y30) 31 y31) fm hm so si sh ce ca td2 wa kp la bf oo bo pw ow tr)) rr) ∧ td3.length = 3 ∧ i3 < 2147483648 ∧ qI t3 ∧ (((sqR e n (k0 + 1) q a i).1 = 0 ∧ g3 = nI 1 ∧ i3 = (sqR e n (k0 + 1) q a i).2.2 ∧ t3 = (sqR e n (k0 + 1) q a i).2.1) ∨ ∃ f, (sqR e n (k0 + 1) q a i).1 = f + 1 ∧ g3 = nI 0 ∧ z31 = nI f) := by
  intro k0
  induction k0 with
  | zero =>
    intro q a i t2 y28 y30 y31 td2 r hk ha hi ltd Iq hcase
    rcases hcase with ⟨h0, hq, hra, hr, h1, h2, I1⟩ | ⟨f, h0, hy, hq, hr⟩
    · by_cases hend : itA e n a < n
      · omega
      · have hend2 : itA e n a = n := by omega
        refine ⟨t2, nI (itA e n a), y30, y31, nI 1, td2, i, fun rr K => ?_, ltd, by omega, I1, Or.inl ⟨by rw [sqR_e h0 hend], rfl, by rw [sqR_e h0 hend], by rw [sqR_e h0 hend]; exact hq⟩⟩
        rw [hra, hr]
        refine E_iload rfl rfl ?_
        refine E_if (t := 133) (b := false) rfl rfl (by decide) ?_
        refine E_aload_n rfl rfl ?_
        refine E_getfield (v := .int (nI (itA e n a))) rfl w65 rfl (by decide) rfl ?_
        refine E_aload_n rfl rfl ?_
        refine E_getfield (v := .int (nI n)) rfl w65 rfl (by decide) rfl ?_
        refine E_ic (t := 133) (b := true) rfl rfl ((cn_ge (nI_toInt (by omega)) (nI_toInt (by omega))).trans (decide_eq_true (by omega))) ?_
        exact K
    · refine ⟨t2, y28, y30, nI f, nI 0, td2, i, fun rr K => ?_, ltd, by omega, by rw [hq]; exact Iq, Or.inr ⟨f, by rw [sqR_f h0], rfl, rfl⟩⟩
      rw [hy, hr]
      refine E_iload rfl rfl ?_
      refine E_if (t := 133) (b := true) rfl rfl (by decide) ?_
      exact K
  | succ k0 ih =>
    intro q a i t2 y28 y30 y31 td2 r hk ha hi ltd Iq hcase
    rcases hcase with ⟨h0, hq, hra, hr, h1, h2, I1⟩ | ⟨f, h0, hy, hq, hr⟩
    · by_cases hend : itA e n a < n
      · rcases bo2 (chB e n (itA e n a) 59) with hs | hs
        · have hs2 := chB_f hs
          refine ⟨t2, nI (itA e n a), y30, nI (itA e n a), nI 0, td2, i, fun rr K => ?_, ltd, by omega, I1, Or.inr ⟨itA e n a, by rw [sqR_n h0 hend hs], rfl, rfl⟩⟩
          rw [hra, hr]
          refine E_iload rfl rfl ?_
          refine E_if (t := 133) (b := false) rfl rfl (by decide) ?_
          refine E_aload_n rfl rfl ?_
          refine E_getfield (v := .int (nI (itA e n a))) rfl w65 rfl (by decide) rfl ?_
          refine E_aload_n rfl rfl ?_
          refine E_getfield (v := .int (nI n)) rfl w65 rfl (by decide) rfl ?_
          refine E_ic (t := 133) (b := false) rfl rfl ((cn_ge (nI_toInt (by omega)) (nI_toInt (by omega))).trans (decide_eq_false (by omega))) ?_
          refine E_aload_n rfl rfl ?_
          refine E_getfield (v := .ref 80) rfl w65 rfl (by decide) rfl ?_
          refine E_aload_n rfl rfl ?_
          refine E_getfield (v := .int (nI (160 * j))) rfl w65 rfl (by decide) rfl ?_
          refine E_aload_n rfl rfl ?_
          refine E_getfield (v := .int (nI (itA e n a))) rfl w65 rfl (by decide) rfl ?_
          refine E_iadd (z := nI ((160 * j) + (itA e n a))) rfl (nI_add _ _) ?_
          refine E_lalL (l := ce) (v := ce.getD ((160 * j) + (itA e n a)) 0) rfl w80 (by omega) (by omega) rfl ?_
          refine E_l2i (z := tw e (itA e n a)) rfl (by unfold tw; rw [hce (itA e n a) (by omega)]) ?_
          refine E_bipush (x := nI 59) rfl (by decide) ?_
          refine E_ic (t := 111) (b := false) rfl rfl ((cn_eq rfl (nI_toInt (by omega))).trans (decide_eq_false (by omega))) ?_
          refine E_aload_n rfl rfl ?_
          refine E_aload_n rfl rfl ?_
          refine E_getfield (v := .int (nI (itA e n a))) rfl w65 rfl (by decide) rfl ?_
          have e1 : Ev ab_Z0 1 156 [.ref 65, .int (nI (itA e n a))] (ww im lf s d k ls rf rz ra rn rq lt m1 m2 m3 m4 bd fc hd sz el t2 (fUp (fUp (fUp (fUp (fUp (fUp g 27 (nI (160 * j))) 29 (nI n)) 6 (-1)) 28 (nI (itA e n a))) 30 y30) 31 y31) fm hm so si sh ce ca td2 wa kp la bf oo bo pw ow tr) (some (.int (nI 0)), (ww im lf s d k ls rf rz ra rn rq lt m1 m2 m3 m4 bd fc hd sz el t2 (fUp (fUp (fUp (fUp (fUp (fUp g 27 (nI (160 * j))) 29 (nI n)) 6 (-1)) 28 (nI (itA e n a))) 30 y30) 31 (nI (itA e n a))) fm hm so si sh ce ca td2 wa kp la bf oo bo pw ow tr)) := by
            refine Ef.in (md := mX6_wrong) (L := [some (.ref 65), some (.int (nI (itA e n a)))]) rfl (Nat.le_of_ble_eq_true rfl) rfl ?_
            refine E_aload_n rfl rfl ?_
            refine E_iload_n rfl rfl ?_
            refine E_putfield (cs2 := (ww im lf s d k ls rf rz ra rn rq lt m1 m2 m3 m4 bd fc hd sz el t2 (fUp (fUp (fUp (fUp (fUp (fUp g 27 (nI (160 * j))) 29 (nI n)) 6 (-1)) 28 (nI (itA e n a))) 30 y30) 31 (nI (itA e n a))) fm hm so si sh ce ca td2 wa kp la bf oo bo pw ow tr)) rfl w65 rfl (by decide) (Nat.le_of_ble_eq_true rfl) rfl rfl rfl (w_pt65_31.trans (by rw [gn31])) ?_
            refine E_iconst (x := nI 0) rfl (by decide) ?_
            exact E_iret rfl rfl
          refine E_callV (v := some (.int (nI 0))) (As := [.ref 65, .int (nI (itA e n a))]) (r0 := []) (cs2 := (ww im lf s d k ls rf rz ra rn rq lt m1 m2 m3 m4 bd fc hd sz el t2 (fUp (fUp (fUp (fUp (fUp (fUp g 27 (nI (160 * j))) 29 (nI n)) 6 (-1)) 28 (nI (itA e n a))) 30 y30) 31 (nI (itA e n a))) fm hm so si sh ce ca td2 wa kp la bf oo bo pw ow tr)) rfl rfl rfl (Nat.le_of_ble_eq_true rfl) rfl (ab_rvOf w65 rfl) e1 (by decide) w_lens ?_
          refine E_istore (L2 := [some (.ref 65), some (.int (nI j)), some (.int (nI 0)), some (.int (nI i)), some (.int (nI 0))]) rfl rfl ?_
          refine E_goto (t := 62) rfl rfl ?_
          refine E_iload rfl rfl ?_
          refine E_if (t := 133) (b := true) rfl rfl (by decide) ?_
          exact K
        · have hs2 := chB_t hs
          obtain ⟨t4, v28, v30, v31, td4, r4, E4, ltd4, hc4⟩ : ∃ (t4 : ab_q) (v28 v30 v31 : Int32) (td4 : List Int32) (r4 : Int32), Ev ab_Z0 3 162 [.ref 65] (ww im lf s d k ls rf rz ra rn rq lt m1 m2 m3 m4 bd fc hd sz el t2 (fUp (fUp (fUp (fUp (fUp (fUp g 27 (nI (160 * j))) 29 (nI n)) 6 (-1)) 28 (nI (itA e n a + 1))) 30 y30) 31 y31) fm hm so si sh ce ca td2 wa kp la bf oo bo pw ow tr) (some (.int r4), (ww im lf s d k ls rf rz ra rn rq lt m1 m2 m3 m4 bd fc hd sz el t4 (fUp (fUp (fUp (fUp (fUp (fUp g 27 (nI (160 * j))) 29 (nI n)) 6 (-1)) 28 v28) 30 v30) 31 v31) fm hm so si sh ce ca td4 wa kp la bf oo bo pw ow tr)) ∧ td4.length = 3 ∧ ((itF e n t2 (itA e n a + 1) = 0 ∧ t4 = itQ e n t2 (itA e n a + 1) ∧ v28 = nI (itA e n (itA e n a + 1)) ∧ r4 = nI 1 ∧ itA e n (itA e n a + 1) ≤ n ∧ itA e n a + 1 < itA e n (itA e n a + 1) ∧ qI t4) ∨ ∃ f, itF e n t2 (itA e n a + 1) = f + 1 ∧ v31 = nI f ∧ t4 = t2 ∧ r4 = nI 0) := m_item hj hn (by omega) l_ce hce I1 ltd
          obtain ⟨t3, z28, z30, z31, g3, td3, i3, K3, ltd3, hi3, I3, hc3⟩ := ih t2 (itA e n a + 1) (i + 1) t4 v28 v30 v31 td4 r4 (by omega) (by omega) (by omega) ltd4 I1 hc4
          have es : sqR e n (k0 + 1 + 1) q a i = sqR e n (k0 + 1) t2 (itA e n a + 1) (i + 1) := by rw [sqR_s h0 hend hs, hq]
          rw [es]
          refine ⟨t3, z28, z30, z31, g3, td3, i3, fun rr K => ?_, ltd3, hi3, I3, hc3⟩
          rw [hra, hr]
          refine E_iload rfl rfl ?_
          refine E_if (t := 133) (b := false) rfl rfl (by decide) ?_
          refine E_aload_n rfl rfl ?_
          refine E_getfield (v := .int (nI (itA e n a))) rfl w65 rfl (by decide) rfl ?_
          refine E_aload_n rfl rfl ?_
          refine E_getfield (v := .int (nI n)) rfl w65 rfl (by decide) rfl ?_
          refine E_ic (t := 133) (b := false) rfl rfl ((cn_ge (nI_toInt (by omega)) (nI_toInt (by omega))).trans (decide_eq_false (by omega))) ?_
          refine E_aload_n rfl rfl ?_
          refine E_getfield (v := .ref 80) rfl w65 rfl (by decide) rfl ?_
          refine E_aload_n rfl rfl ?_
          refine E_getfield (v := .int (nI (160 * j))) rfl w65 rfl (by decide) rfl ?_
          refine E_aload_n rfl rfl ?_
          refine E_getfield (v := .int (nI (itA e n a))) rfl w65 rfl (by decide) rfl ?_
          refine E_iadd (z := nI ((160 * j) + (itA e n a))) rfl (nI_add _ _) ?_
          refine E_lalL (l := ce) (v := ce.getD ((160 * j) + (itA e n a)) 0) rfl w80 (by omega) (by omega) rfl ?_
          refine E_l2i (z := tw e (itA e n a)) rfl (by unfold tw; rw [hce (itA e n a) (by omega)]) ?_
          refine E_bipush (x := nI 59) rfl (by decide) ?_
          refine E_ic (t := 111) (b := true) rfl rfl ((cn_eq rfl (nI_toInt (by omega))).trans (decide_eq_true (by omega))) ?_
          refine E_aload_n rfl rfl ?_
          refine E_dup rfl rfl ?_
          refine E_getfield (v := .int (nI (itA e n a))) rfl w65 rfl (by decide) rfl ?_
          refine E_iconst (x := nI 1) rfl (by decide) ?_
          refine E_iadd (z := nI ((itA e n a) + 1)) rfl (nI_add _ _) ?_
          refine E_putfield (cs2 := (ww im lf s d k ls rf rz ra rn rq lt m1 m2 m3 m4 bd fc hd sz el t2 (fUp (fUp (fUp (fUp (fUp (fUp g 27 (nI (160 * j))) 29 (nI n)) 6 (-1)) 28 (nI ((itA e n a) + 1))) 30 y30) 31 y31) fm hm so si sh ce ca td2 wa kp la bf oo bo pw ow tr)) rfl w65 rfl (by decide) (Nat.le_of_ble_eq_true rfl) rfl rfl rfl (w_pt65_28.trans (by rw [gn28])) ?_
          refine E_iinc (y := nI (i + 1)) (L2 := [some (.ref 65), some (.int (nI j)), some (.int (nI 0)), some (.int (nI (i + 1))), some (.int (nI 1))]) rfl rfl (nI_1 _) rfl ?_
          refine E_aload_n rfl rfl ?_
          refine E_callV (v := some (.int r4)) (As := [.ref 65]) (r0 := []) (cs2 := (ww im lf s d k ls rf rz ra rn rq lt m1 m2 m3 m4 bd fc hd sz el t4 (fUp (fUp (fUp (fUp (fUp (fUp g 27 (nI (160 * j))) 29 (nI n)) 6 (-1)) 28 v28) 30 v30) 31 v31) fm hm so si sh ce ca td4 wa kp la bf oo bo pw ow tr)) rfl rfl rfl (Nat.le_of_ble_eq_true rfl) rfl (ab_rvOf w65 rfl) E4 (by decide) w_lens ?_
          refine E_istore (L2 := [some (.ref 65), some (.int (nI j)), some (.int (nI 0)), some (.int (nI (i + 1))), some (.int r4)]) rfl rfl ?_
          refine E_goto (t := 62) rfl rfl ?_
          exact K3 rr K
      · have hend2 : itA e n a = n := by omega
        refine ⟨t2, nI (itA e n a), y30, y31, nI 1, td2, i, fun rr K => ?_, ltd, by omega, I1, Or.inl ⟨by rw [sqR_e h0 hend], rfl, by rw [sqR_e h0 hend], by rw [sqR_e h0 hend]; exact hq⟩⟩
        rw [hra, hr]
        refine E_iload rfl rfl ?_
        refine E_if (t := 133) (b := false) rfl rfl (by decide) ?_
        refine E_aload_n rfl rfl ?_
        refine E_getfield (v := .int (nI (itA e n a))) rfl w65 rfl (by decide) rfl ?_
        refine E_aload_n rfl rfl ?_
        refine E_getfield (v := .int (nI n)) rfl w65 rfl (by decide) rfl ?_
        refine E_ic (t := 133) (b := true) rfl rfl ((cn_ge (nI_toInt (by omega)) (nI_toInt (by omega))).trans (decide_eq_true (by omega))) ?_
        exact K
    · refine ⟨t2, y28, y30, nI f, nI 0, td2, i, fun rr K => ?_, ltd, by omega, by rw [hq]; exact Iq, Or.inr ⟨f, by rw [sqR_f h0], rfl, rfl⟩⟩
      rw [hy, hr]
      refine E_iload rfl rfl ?_
      refine E_if (t := 133) (b := true) rfl rfl (by decide) ?_
      exact K
set_option maxHeartbeats 1000000 in
theorem m_sqOK {j n1 : Nat} (hj : j < 8) (hn1 : n1 ≤ 160) (l_ce : ce.length = 1280) (hce : ∀ q, q < 160 → (el j).getD q 0 = ce.getD (160 * j + q) 0) (I : qI t) (l_td : td.length = 3) (hz : (sqR (el j) n1 (n1 + 1) t 0 1).1 = 0) : ∃ (z28 z30 z31 : Int32) (td3 : List Int32), (∀ rr, Ef ab_Z0 3 mX6_square (133, [some (.ref 65), some (.int (nI j)), some (.int (nI 0)), some (.int (nI ((sqR (el j) n1 (n1 + 1) t 0 1).2.2))), some (.int (nI 1))], [], (ww im lf s d k ls rf rz ra rn rq lt m1 m2 m3 m4 bd fc hd sz el ((sqR (el j) n1 (n1 + 1) t 0 1).2.1) (fUp (fUp (fUp (fUp (fUp (fUp g 27 (nI (160 * j))) 29 (nI n1)) 6 (-1)) 28 z28) 30 z30) 31 z31) fm hm so si sh ce ca td3 wa kp la bf oo bo pw ow tr)) rr → Ef ab_Z0 3 mX6_square (56, [some (.ref 65), some (.int (nI j)), some (.int (nI 0)), some (.int (nI 1)), none], [], (ww im lf s d k ls rf rz ra rn rq lt m1 m2 m3 m4 bd fc hd sz el t (fUp (fUp (fUp (fUp g 27 (nI (160 * j))) 28 (nI 0)) 29 (nI n1)) 6 (-1)) fm hm so si sh ce ca td wa kp la bf oo bo pw ow tr)) rr) ∧ td3.length = 3 ∧ qI (sqR (el j) n1 (n1 + 1) t 0 1).2.1 ∧ (sqR (el j) n1 (n1 + 1) t 0 1).2.2 < 2147483648 := by
  obtain ⟨t2, y28, y30, y31, td2, r2, E2, ltd2, hc2⟩ : ∃ (t2 : ab_q) (y28 y30 y31 : Int32) (td2 : List Int32) (r2 : Int32), Ev ab_Z0 3 162 [.ref 65] (ww im lf s d k ls rf rz ra rn rq lt m1 m2 m3 m4 bd fc hd sz el t (fUp (fUp (fUp (fUp (fUp (fUp g 27 (nI (160 * j))) 29 (nI n1)) 6 (-1)) 28 (nI 0)) 30 (g 30)) 31 (g 31)) fm hm so si sh ce ca td wa kp la bf oo bo pw ow tr) (some (.int r2), (ww im lf s d k ls rf rz ra rn rq lt m1 m2 m3 m4 bd fc hd sz el t2 (fUp (fUp (fUp (fUp (fUp (fUp g 27 (nI (160 * j))) 29 (nI n1)) 6 (-1)) 28 y28) 30 y30) 31 y31) fm hm so si sh ce ca td2 wa kp la bf oo bo pw ow tr)) ∧ td2.length = 3 ∧ ((itF (el j) n1 t 0 = 0 ∧ t2 = itQ (el j) n1 t 0 ∧ y28 = nI (itA (el j) n1 0) ∧ r2 = nI 1 ∧ itA (el j) n1 0 ≤ n1 ∧ 0 < itA (el j) n1 0 ∧ qI t2) ∨ ∃ f, itF (el j) n1 t 0 = f + 1 ∧ y31 = nI f ∧ t2 = t ∧ r2 = nI 0) := m_item hj hn1 (Nat.zero_le _) l_ce hce I l_td
  obtain ⟨t3, z28, z30, z31, g3, td3, i3, K3, ltd3, hi3, I3, hc3⟩ := sr_l (im := im) (lf := lf) (s := s) (d := d) (k := k) (ls := ls) (rf := rf) (rz := rz) (ra := ra) (rn := rn) (rq := rq) (lt := lt) (m1 := m1) (m2 := m2) (m3 := m3) (m4 := m4) (bd := bd) (fc := fc) (hd := hd) (sz := sz) (el := el) (g := g) (fm := fm) (hm := hm) (so := so) (si := si) (sh := sh) (ca := ca) (wa := wa) (kp := kp) (la := la) (bf := bf) (oo := oo) (bo := bo) (pw := pw) (ow := ow) (tr := tr) hj hn1 l_ce hce n1 t 0 1 t2 y28 y30 y31 td2 r2 (by omega) (by omega) (by omega) ltd2 I hc2
  rcases hc3 with ⟨c1, c2, c3, c4⟩ | ⟨f2, c1, c2, c3⟩
  · refine ⟨z28, z30, z31, td3, fun rr K => ?_, ltd3, by rw [← c4]; exact I3, by rw [← c3]; exact hi3⟩
    rw [← c4, ← c3, ← c2] at K
    rw [gn_st]
    refine E_aload_n rfl rfl ?_
    refine E_callV (v := some (.int r2)) (As := [.ref 65]) (r0 := []) (cs2 := (ww im lf s d k ls rf rz ra rn rq lt m1 m2 m3 m4 bd fc hd sz el t2 (fUp (fUp (fUp (fUp (fUp (fUp g 27 (nI (160 * j))) 29 (nI n1)) 6 (-1)) 28 y28) 30 y30) 31 y31) fm hm so si sh ce ca td2 wa kp la bf oo bo pw ow tr)) rfl rfl rfl (Nat.le_of_ble_eq_true rfl) rfl (ab_rvOf w65 rfl) E2 (by decide) w_lens ?_
    refine E_istore (L2 := [some (.ref 65), some (.int (nI j)), some (.int (nI 0)), some (.int (nI 1)), some (.int r2)]) rfl rfl ?_
    exact K3 rr K
  · omega
set_option maxHeartbeats 1000000 in
theorem m_sqBad {j n1 : Nat} (hj : j < 8) (hn1 : n1 ≤ 160) (l_ce : ce.length = 1280) (hce : ∀ q, q < 160 → (el j).getD q 0 = ce.getD (160 * j + q) 0) {f : Nat} (I : qI t) (l_td : td.length = 3) (hz : (sqR (el j) n1 (n1 + 1) t 0 1).1 = f + 1) : ∃ (t3 : ab_q) (z28 z30 : Int32) (td3 : List Int32) (i3 : Nat), (∀ rr, Ef ab_Z0 3 mX6_square (133, [some (.ref 65), some (.int (nI j)), some (.int (nI 0)), some (.int (nI i3)), some (.int (nI 0))], [], (ww im lf s d k ls rf rz ra rn rq lt m1 m2 m3 m4 bd fc hd sz el t3 (fUp (fUp (fUp (fUp (fUp (fUp g 27 (nI (160 * j))) 29 (nI n1)) 6 (-1)) 28 z28) 30 z30) 31 (nI f)) fm hm so si sh ce ca td3 wa kp la bf oo bo pw ow tr)) rr → Ef ab_Z0 3 mX6_square (56, [some (.ref 65), some (.int (nI j)), some (.int (nI 0)), some (.int (nI 1)), none], [], (ww im lf s d k ls rf rz ra rn rq lt m1 m2 m3 m4 bd fc hd sz el t (fUp (fUp (fUp (fUp g 27 (nI (160 * j))) 28 (nI 0)) 29 (nI n1)) 6 (-1)) fm hm so si sh ce ca td wa kp la bf oo bo pw ow tr)) rr) ∧ td3.length = 3 ∧ qI t3 ∧ i3 < 2147483648 := by
  obtain ⟨t2, y28, y30, y31, td2, r2, E2, ltd2, hc2⟩ : ∃ (t2 : ab_q) (y28 y30 y31 : Int32) (td2 : List Int32) (r2 : Int32), Ev ab_Z0 3 162 [.ref 65] (ww im lf s d k ls rf rz ra rn rq lt m1 m2 m3 m4 bd fc hd sz el t (fUp (fUp (fUp (fUp (fUp (fUp g 27 (nI (160 * j))) 29 (nI n1)) 6 (-1)) 28 (nI 0)) 30 (g 30)) 31 (g 31)) fm hm so si sh ce ca td wa kp la bf oo bo pw ow tr) (some (.int r2), (ww im lf s d k ls rf rz ra rn rq lt m1 m2 m3 m4 bd fc hd sz el t2 (fUp (fUp (fUp (fUp (fUp (fUp g 27 (nI (160 * j))) 29 (nI n1)) 6 (-1)) 28 y28) 30 y30) 31 y31) fm hm so si sh ce ca td2 wa kp la bf oo bo pw ow tr)) ∧ td2.length = 3 ∧ ((itF (el j) n1 t 0 = 0 ∧ t2 = itQ (el j) n1 t 0 ∧ y28 = nI (itA (el j) n1 0) ∧ r2 = nI 1 ∧ itA (el j) n1 0 ≤ n1 ∧ 0 < itA (el j) n1 0 ∧ qI t2) ∨ ∃ f, itF (el j) n1 t 0 = f + 1 ∧ y31 = nI f ∧ t2 = t ∧ r2 = nI 0) := m_item hj hn1 (Nat.zero_le _) l_ce hce I l_td
  obtain ⟨t3, z28, z30, z31, g3, td3, i3, K3, ltd3, hi3, I3, hc3⟩ := sr_l (im := im) (lf := lf) (s := s) (d := d) (k := k) (ls := ls) (rf := rf) (rz := rz) (ra := ra) (rn := rn) (rq := rq) (lt := lt) (m1 := m1) (m2 := m2) (m3 := m3) (m4 := m4) (bd := bd) (fc := fc) (hd := hd) (sz := sz) (el := el) (g := g) (fm := fm) (hm := hm) (so := so) (si := si) (sh := sh) (ca := ca) (wa := wa) (kp := kp) (la := la) (bf := bf) (oo := oo) (bo := bo) (pw := pw) (ow := ow) (tr := tr) hj hn1 l_ce hce n1 t 0 1 t2 y28 y30 y31 td2 r2 (by omega) (by omega) (by omega) ltd2 I hc2
  rcases hc3 with ⟨c1, c2, c3, c4⟩ | ⟨f2, c1, c2, c3⟩
  · omega
  · rw [show f2 = f from by omega] at c3
    refine ⟨t3, z28, z30, td3, i3, fun rr K => ?_, ltd3, I3, hi3⟩
    subst c2
    subst c3
    rw [gn_st]
    refine E_aload_n rfl rfl ?_
    refine E_callV (v := some (.int r2)) (As := [.ref 65]) (r0 := []) (cs2 := (ww im lf s d k ls rf rz ra rn rq lt m1 m2 m3 m4 bd fc hd sz el t2 (fUp (fUp (fUp (fUp (fUp (fUp g 27 (nI (160 * j))) 29 (nI n1)) 6 (-1)) 28 y28) 30 y30) 31 y31) fm hm so si sh ce ca td2 wa kp la bf oo bo pw ow tr)) rfl rfl rfl (Nat.le_of_ble_eq_true rfl) rfl (ab_rvOf w65 rfl) E2 (by decide) w_lens ?_
    refine E_istore (L2 := [some (.ref 65), some (.int (nI j)), some (.int (nI 0)), some (.int (nI 1)), some (.int r2)]) rfl rfl ?_
    exact K3 rr K
end SF
