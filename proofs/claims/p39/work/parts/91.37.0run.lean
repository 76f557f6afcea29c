/-! who can be served in which order; by program (wip/tools/mkrun.py) -/
theorem mo_cgO_l {A B n f : Nat} {F G : List Int32} (hF : F.length = n) {gl : Nat} (hgl : gl ≤ 100) (hG : G.length = gl) (hf : f + n ≤ gl) (hne : ¬ A = B) : ∀ m i cs, i + m = n → cs[A]? = some (.inl F) → cs[B]? = some (.inl (ab_cp F G 0 f i)) → Ef ab_Z0 0 mX6_carries (3, [some (.ref 65), some (.ref A), some (.int (nI n)), some (.ref B), some (.int (nI f)), some (.int (nI 0)), some (.int (nI i))], [], cs) (some (.int (nI (f + n))), cs.set B (.inl (ab_cp F G 0 f n))) := by
  intro m
  induction m with
  | zero =>
    intro i cs hi hA hB
    have hi : i = n := by omega
    rw [hi] at hB ⊢
    rw [ab_set_id hB]
    refine E_iload rfl rfl ?_
    refine E_iload_n rfl rfl ?_
    refine E_ic (t := 45) (b := true) rfl rfl ((cn_ge (nI_toInt (by omega)) (nI_toInt (by omega))).trans (decide_eq_true (by omega))) ?_
    refine E_iload rfl rfl ?_
    refine E_iload_n rfl rfl ?_
    refine E_iadd (z := nI (f + n)) rfl (nI_add _ _) ?_
    exact E_iret rfl rfl
  | succ m ih =>
    intro i cs hi hA hB
    have hl := ab_cpl (f := F) (g := G) (sp := 0) (dp := f) (n := i) (by omega) (by omega)
    have X := ih (i + 1) (cs.set B (.inl (ab_cp F G 0 f (i + 1)))) (by omega) (ab_gne hA (fun q => hne q.symm)) (ab_geq hB)
    rw [List.set_set] at X
    rw [← ab_cp_st (z := 0) (by omega) (by omega)] at X
    rw [Nat.zero_add] at X
    refine E_iload rfl rfl ?_
    refine E_iload_n rfl rfl ?_
    refine E_ic (t := 45) (b := false) rfl rfl ((cn_ge (nI_toInt (by omega)) (nI_toInt (by omega))).trans (decide_eq_false (by omega))) ?_
    refine E_iload rfl rfl ?_
    refine E_if (t := 28) (b := true) rfl rfl (by decide) ?_
    refine E_aload_n rfl rfl ?_
    refine E_iload rfl rfl ?_
    refine E_iload rfl rfl ?_
    refine E_iadd (z := nI (f + i)) rfl (nI_add _ _) ?_
    refine E_aload_n rfl rfl ?_
    refine E_iload rfl rfl ?_
    refine E_ialI (l := F) (v := F.getD i 0) rfl hA (by omega) (by omega) rfl ?_
    refine E_iasI (l := (ab_cp F G 0 f i)) (cs2 := (cs.set B (.inl ((ab_cp F G 0 f i).set (f + i) (F.getD i 0))))) rfl hB (by omega) (by omega) rfl ?_
    refine E_iinc (y := nI (i + 1)) (L2 := [some (.ref 65), some (.ref A), some (.int (nI n)), some (.ref B), some (.int (nI f)), some (.int (nI 0)), some (.int (nI (i + 1)))]) rfl rfl (nI_1 _) rfl ?_
    refine E_goto (t := 3) rfl rfl ?_
    exact X
theorem mo_cgO {cs : List ab_C} {A B n f : Nat} {F G : List Int32} (hA : cs[A]? = some (.inl F)) (hB : cs[B]? = some (.inl G)) (hF : F.length = n) {gl : Nat} (hgl : gl ≤ 100) (hG : G.length = gl) (hf : f + n ≤ gl) (hne : ¬ A = B) : Ev ab_Z0 1 163 [.ref 65, .ref A, .int (nI n), .ref B, .int (nI f), .int (nI 0)] cs (some (.int (nI (f + n))), cs.set B (.inl (ab_cp F G 0 f n))) := by
  refine Ef.in (md := mX6_carries) (L := [some (.ref 65), some (.ref A), some (.int (nI n)), some (.ref B), some (.int (nI f)), some (.int (nI 0)), none]) rfl (Nat.le_of_ble_eq_true rfl) rfl ?_
  refine E_iconst (x := nI 0) rfl (by decide) ?_
  refine E_istore (L2 := [some (.ref 65), some (.ref A), some (.int (nI n)), some (.ref B), some (.int (nI f)), some (.int (nI 0)), some (.int (nI 0))]) rfl rfl ?_
  exact mo_cgO_l hF hgl hG hf hne n 0 cs (Nat.zero_add n) hA (by rw [ab_cp_0]; exact hB)
theorem mo_cgB_l {A B n f : Nat} {F G : List Int32} (hF : F.length = n) {gl : Nat} (hgl : gl ≤ 100) (hG : G.length = gl) (hf : f + n ≤ gl) (hne : ¬ A = B) : ∀ m i cs, i + m = n → cs[A]? = some (.inl (ab_cp G F f 0 i)) → cs[B]? = some (.inl G) → Ef ab_Z0 0 mX6_carries (3, [some (.ref 65), some (.ref A), some (.int (nI n)), some (.ref B), some (.int (nI f)), some (.int (nI 1)), some (.int (nI i))], [], cs) (some (.int (nI (f + n))), cs.set A (.inl (ab_cp G F f 0 n))) := by
  intro m
  induction m with
  | zero =>
    intro i cs hi hA hB
    have hi : i = n := by omega
    rw [hi] at hA ⊢
    rw [ab_set_id hA]
    refine E_iload rfl rfl ?_
    refine E_iload_n rfl rfl ?_
    refine E_ic (t := 45) (b := true) rfl rfl ((cn_ge (nI_toInt (by omega)) (nI_toInt (by omega))).trans (decide_eq_true (by omega))) ?_
    refine E_iload rfl rfl ?_
    refine E_iload_n rfl rfl ?_
    refine E_iadd (z := nI (f + n)) rfl (nI_add _ _) ?_
    exact E_iret rfl rfl
  | succ m ih =>
    intro i cs hi hA hB
    have hl := ab_cpl (f := G) (g := F) (sp := f) (dp := 0) (n := i) (by omega) (by omega)
    have X := ih (i + 1) (cs.set A (.inl (ab_cp G F f 0 (i + 1)))) (by omega) (ab_geq hA) (ab_gne hB (fun q => hne q))
    rw [List.set_set] at X
    rw [← ab_cp_st (z := 0) (by omega) (by omega)] at X
    rw [Nat.zero_add] at X
    refine E_iload rfl rfl ?_
    refine E_iload_n rfl rfl ?_
    refine E_ic (t := 45) (b := false) rfl rfl ((cn_ge (nI_toInt (by omega)) (nI_toInt (by omega))).trans (decide_eq_false (by omega))) ?_
    refine E_iload rfl rfl ?_
    refine E_if (t := 28) (b := false) rfl rfl (by decide) ?_
    refine E_aload_n rfl rfl ?_
    refine E_iload rfl rfl ?_
    refine E_aload_n rfl rfl ?_
    refine E_iload rfl rfl ?_
    refine E_iload rfl rfl ?_
    refine E_iadd (z := nI (f + i)) rfl (nI_add _ _) ?_
    refine E_ialI (l := G) (v := G.getD (f + i) 0) rfl hB (by omega) (by omega) rfl ?_
    refine E_iasI (l := (ab_cp G F f 0 i)) (cs2 := (cs.set A (.inl ((ab_cp G F f 0 i).set i (G.getD (f + i) 0))))) rfl hA (by omega) (by omega) rfl ?_
    refine E_goto (t := 39) rfl rfl ?_
    refine E_iinc (y := nI (i + 1)) (L2 := [some (.ref 65), some (.ref A), some (.int (nI n)), some (.ref B), some (.int (nI f)), some (.int (nI 1)), some (.int (nI (i + 1)))]) rfl rfl (nI_1 _) rfl ?_
    refine E_goto (t := 3) rfl rfl ?_
    exact X
theorem mo_cgB {cs : List ab_C} {A B n f : Nat} {F G : List Int32} (hA : cs[A]? = some (.inl F)) (hB : cs[B]? = some (.inl G)) (hF : F.length = n) {gl : Nat} (hgl : gl ≤ 100) (hG : G.length = gl) (hf : f + n ≤ gl) (hne : ¬ A = B) : Ev ab_Z0 1 163 [.ref 65, .ref A, .int (nI n), .ref B, .int (nI f), .int (nI 1)] cs (some (.int (nI (f + n))), cs.set A (.inl (ab_cp G F f 0 n))) := by
  refine Ef.in (md := mX6_carries) (L := [some (.ref 65), some (.ref A), some (.int (nI n)), some (.ref B), some (.int (nI f)), some (.int (nI 1)), none]) rfl (Nat.le_of_ble_eq_true rfl) rfl ?_
  refine E_iconst (x := nI 0) rfl (by decide) ?_
  refine E_istore (L2 := [some (.ref 65), some (.ref A), some (.int (nI n)), some (.ref B), some (.int (nI f)), some (.int (nI 1)), some (.int (nI 0))]) rfl rfl ?_
  exact mo_cgB_l hF hgl hG hf hne n 0 cs (Nat.zero_add n) (by rw [ab_cp_0]; exact hA) hB
/-- a row copied out and back -/
theorem cp_row {G F U : List Int32} {f n : Nat} (hG : f + n ≤ G.length) (hF : F.length = n) (hU : U.length = n) (h : ∀ i, i < n → G.getD (f + i) 0 = U.getD i 0) : ab_cp G F f 0 n = U := by
  have hl : (ab_cp G F f 0 n).length = n := (ab_cpl hG (by omega)).trans hF
  refine ab_ext 0 (hl.trans hU.symm) (fun q hq => ?_)
  rw [ab_cp_get hG (by omega), if_pos ⟨Nat.zero_le _, by omega⟩, Nat.sub_zero]
  exact h q (by omega)
theorem bit_rem : ∀ B, B < 512 → ∀ p, p < 9 → qBit B p = 1 → ∀ x, x < 9 → qBit (B - 2 ^ p) x = if x = p then 0 else qBit B x := by decide +kernel
theorem bit_top : ∀ M, M ≤ 6 → ∀ x, x < M → qBit (2 ^ M - 1) x = 1 := by decide +kernel
theorem bit_rng : ∀ M, M ≤ 6 → ∀ k, k < M → qBit (2 ^ M - 2 ^ k) k = 1 ∧ ∀ p, p < k → qBit (2 ^ M - 2 ^ k) p = 0 := by decide +kernel
theorem pow_512 : ∀ M, M ≤ 6 → 2 ^ M - 1 < 512 := by decide +kernel
def hsP (q : ab_q) (p : Nat) : Nat := if qPr q p ((qW q).getD p 0) ≤ (qU q).getD p 0 then 1 else 0
def rnQs (q : ab_q) (m : Nat) : Nat → Nat
  | 0 => 0
  | x + 1 => rnQs q m x + (if qBit m x = 1 then hsP q x else 0)
def rnC (q : ab_q) : Nat → Nat
  | 0 => 0
  | x + 1 => rnC q x + hsP q x
theorem hsP_1 (q : ab_q) (p : Nat) : hsP q p ≤ 1 := by
  unfold hsP
  split <;> omega
theorem rnC_le (q : ab_q) : ∀ n, rnC q n ≤ n
  | 0 => Nat.le_refl _
  | n + 1 => by
    have := rnC_le q n
    have := hsP_1 q n
    show rnC q n + hsP q n ≤ n + 1
    omega
theorem rn_rem {q : ab_q} {m p : Nat} (hm : m < 512) (hp : p < 9) (hb : qBit m p = 1) : ∀ n, n ≤ 9 → (n ≤ p → qMany (m - 2 ^ p) n = qMany m n ∧ rnQs q (m - 2 ^ p) n = rnQs q m n) ∧ (p < n → qMany (m - 2 ^ p) n + 1 = qMany m n ∧ rnQs q (m - 2 ^ p) n + hsP q p = rnQs q m n)
  | 0, _ => ⟨fun _ => ⟨rfl, rfl⟩, fun h => absurd h (Nat.not_lt_zero p)⟩
  | n + 1, hn => by
    obtain ⟨i1, i2⟩ := rn_rem (q := q) hm hp hb n (by omega)
    have e := bit_rem m hm p hp hb n (by omega)
    have d1 : ∀ z, qMany z (n + 1) = qMany z n + qBit z n := fun _ => rfl
    have d2 : ∀ z, rnQs q z (n + 1) = rnQs q z n + (if qBit z n = 1 then hsP q n else 0) := fun _ => rfl
    refine ⟨fun h => ?_, fun h => ?_⟩
    · obtain ⟨j1, j2⟩ := i1 (by omega)
      rw [if_neg (by omega)] at e
      rw [d1, d1, d2, d2, e, j1, j2]
      exact ⟨rfl, rfl⟩
    · by_cases c : n = p
      · obtain ⟨j1, j2⟩ := i1 (by omega)
        rw [if_pos c] at e
        rw [d1, d1, d2, d2, e, j1, j2, c, hb, if_neg (by decide), if_pos rfl]
        exact ⟨by omega, by omega⟩
      · obtain ⟨j1, j2⟩ := i2 (by omega)
        rw [if_neg c] at e
        rw [d1, d1, d2, d2, e]
        exact ⟨by omega, by omega⟩
theorem rnB_none {q : ab_q} {m : Nat} : ∀ n, qMany m n = 0 → rnQs q m n = 0
  | 0, _ => rfl
  | n + 1, h => by
    have h : qMany m n + qBit m n = 0 := h
    show rnQs q m n + (if qBit m n = 1 then hsP q n else 0) = 0
    rw [rnB_none n (by omega), if_neg (by omega)]
theorem rn_top {q : ab_q} {M : Nat} (hM : M ≤ 6) : ∀ n, n ≤ M → qMany (2 ^ M - 1) n = n ∧ rnQs q (2 ^ M - 1) n = rnC q n
  | 0, _ => ⟨rfl, rfl⟩
  | n + 1, h => by
    obtain ⟨a, b⟩ := rn_top (q := q) hM n (by omega)
    have e := bit_top M hM n (by omega)
    refine ⟨?_, ?_⟩
    · show qMany (2 ^ M - 1) n + qBit (2 ^ M - 1) n = n + 1
      rw [a, e]
    · show rnQs q (2 ^ M - 1) n + (if qBit (2 ^ M - 1) n = 1 then hsP q n else 0) = rnC q n + hsP q n
      rw [b, if_pos e]
/-- the same but for purses, places, granted, money -/
def smQ (q t : ab_q) : Prop := qK t = qK q ∧ qA t = qA q ∧ qB t = qB q ∧ qL t = qL q ∧ qW t = qW q ∧ qC t = qC q ∧ qN t = qN q ∧ qM t = qM q ∧ qR t = qR q ∧ qD t = qD q ∧ qS t = qS q
theorem smQ.refl {q : ab_q} : smQ q q := ⟨rfl, rfl, rfl, rfl, rfl, rfl, rfl, rfl, rfl, rfl, rfl⟩
theorem smQ.wn {q t : ab_q} (h : smQ q t) (w : Nat) : ∀ i, qWn t w i = qWn q w i
  | 0 => rfl
  | i + 1 => by
    show qWn t w i + (if (qW t).getD i 0 = w then 1 else 0) = qWn q w i + (if (qW q).getD i 0 = w then 1 else 0)
    rw [smQ.wn h w i, h.2.2.2.2.1]
theorem smQ.pr {q t : ab_q} (h : smQ q t) (p w : Nat) : qPr t p w = qPr q p w := by
  unfold qPr qPrc qOth
  rw [h.2.2.2.2.2.1, h.2.2.2.1, h.2.2.2.2.1, h.2.2.2.2.2.2.2.1, h.wn]
def rnF (q : ab_q) (m : Int32) (bo : List Int32) : Prop := m = nI (rnC q (qM q)) ∧ ∀ i, i < qM q → bo.getD i 0 = nI i
def rnA (q : ab_q) (kk lft dn : Nat) (t : ab_q) : Prop := smQ q t ∧ qI t ∧ (∀ x, x < qM q → qBit lft x = 1 → (qU t).getD x 0 = (qU q).getD x 0) ∧ lft < 512 ∧ qMany lft (qM q) + kk = qM q ∧ dn + rnQs q lft (qM q) = rnC q (qM q)
def rnZs (oo bo pw ow bf : List Int32) : Prop := oo.length = 6 ∧ bo.length = 6 ∧ pw.length = 42 ∧ ow.length = 63 ∧ bf.length = 100
def rnO (q : ab_q) (kk : Nat) (t t1 : ab_q) (g g1 : Nat → Int32) (oo pw ow oo1 bo1 pw1 ow1 bf1 : List Int32) : Prop := smQ q t1 ∧ qI t1 ∧ qU t1 = qU t ∧ qP t1 = qP t ∧ (∀ i, ¬ i = 36 → ¬ i = 37 → ¬ i = 42 → g1 i = g i) ∧ rnF q (g1 42) bo1 ∧ rnZs oo1 bo1 pw1 ow1 bf1 ∧ (∀ i, i < kk → oo1.getD i 0 = oo.getD i 0) ∧ (∀ i, i < 6 * kk → pw1.getD i 0 = pw.getD i 0) ∧ (∀ i, i < 9 * kk → ow1.getD i 0 = ow.getD i 0)
theorem ab_gs3 {l : List Int32} {i j : Nat} {v z : Int32} (h : ¬ j = i) : (l.set j v).getD i z = l.getD i z := by
  rw [List.getD_eq_getElem?_getD, List.getElem?_set_ne h, ← List.getD_eq_getElem?_getD]
theorem ab_gs4 {l : List Nat} {i j v z : Nat} (h : ¬ j = i) : (l.set j v).getD i z = l.getD i z := by
  rw [List.getD_eq_getElem?_getD, List.getElem?_set_ne h, ← List.getD_eq_getElem?_getD]
section RN
variable {im : Int32} {lf : Int32} {s : ab_q} {d : ab_q} {k : ab_q} {ls : List Int32} {rf : Int32} {rz : Int32} {ra : Int32} {rn : Int32} {rq : ab_q} {lt : List Int32} {m1 : Int32} {m2 : Int32} {m3 : Int32} {m4 : Int32} {bd : List Int32} {fc : List Int32} {hd : Nat → Int32} {sz : Nat → Int32} {el : Nat → List Int64} {t : ab_q} {g : Nat → Int32} {fm : List Int32} {hm : List Nat} {so : List Nat} {si : List Nat} {sh : List Int32} {ce : List Int64} {ca : List Int64} {td : List Int32} {wa : List Int32} {kp : List Int32} {la : List Int32} {bf : List Int32} {oo : List Int32} {bo : List Int32} {pw : List Int32} {ow : List Int32} {tr : List Int32}
set_option maxHeartbeats 1000000 in
theorem rn_cp {h kk lft dn : Nat} {x5 x6 : Option Value} (h6 : qM t ≤ 6) (l_oo : oo.length = 6) (l_bo : bo.length = 6) : ∀ n0 v , v + n0 = qM t → Ef ab_Z0 (7 + h) mX6_runs (25, [some (.ref 65), some (.int (nI kk)), some (.int (nI lft)), some (.int (nI dn)), some (.int (nI v)), x5, x6], [], (ww im lf s d k ls rf rz ra rn rq lt m1 m2 m3 m4 bd fc hd sz el t (fUp g 42 (nI dn)) fm hm so si sh ce ca td wa kp la bf oo (ab_cp oo bo 0 0 v) pw ow tr)) (none, (ww im lf s d k ls rf rz ra rn rq lt m1 m2 m3 m4 bd fc hd sz el t (fUp g 42 (nI dn)) fm hm so si sh ce ca td wa kp la bf oo (ab_cp oo bo 0 0 (qM t)) pw ow tr)) := by
  intro n0
  induction n0 with
  | zero =>
    intro v  hi
    have hi : v = qM t := by omega
    rw [hi]
    refine E_iload rfl rfl ?_
    refine E_aload_n rfl rfl ?_
    refine E_getfield (v := .int (nI (qM t))) rfl w65 rfl (by decide) rfl ?_
    refine E_ic (t := 54) (b := true) rfl rfl ((cn_ge (nI_toInt (by omega)) (nI_toInt (by omega))).trans (decide_eq_true (by omega))) ?_
    exact E_vret rfl rfl
  | succ n0 ih =>
    intro v  hi
    have hl := ab_cpl (f := oo) (g := bo) (sp := 0) (dp := 0) (n := v) (by omega) (by omega)
    have : (ab_cp oo bo 0 0 v).length = 6 := by first | omega | (simp only [List.length_set]; omega)
    have X := ih (v + 1) (by omega)
    rw [← ab_cp_st (z := 0) (by omega) (by omega)] at X
    rw [Nat.zero_add] at X
    refine E_iload rfl rfl ?_
    refine E_aload_n rfl rfl ?_
    refine E_getfield (v := .int (nI (qM t))) rfl w65 rfl (by decide) rfl ?_
    refine E_ic (t := 54) (b := false) rfl rfl ((cn_ge (nI_toInt (by omega)) (nI_toInt (by omega))).trans (decide_eq_false (by omega))) ?_
    refine E_aload_n rfl rfl ?_
    refine E_getfield (v := .ref 91) rfl w65 rfl (by decide) rfl ?_
    refine E_iload rfl rfl ?_
    refine E_aload_n rfl rfl ?_
    refine E_getfield (v := .ref 90) rfl w65 rfl (by decide) rfl ?_
    refine E_iload rfl rfl ?_
    refine E_ialI (l := oo) (v := oo.getD v 0) rfl w90 (by omega) (by omega) rfl ?_
    refine E_iasI (l := (ab_cp oo bo 0 0 v)) (cs2 := (ww im lf s d k ls rf rz ra rn rq lt m1 m2 m3 m4 bd fc hd sz el t (fUp g 42 (nI dn)) fm hm so si sh ce ca td wa kp la bf oo ((ab_cp oo bo 0 0 v).set v (oo.getD v 0)) pw ow tr)) rfl w91 (by omega) (by omega) rfl ?_
    refine E_iinc (y := nI (v + 1)) (L2 := [some (.ref 65), some (.int (nI kk)), some (.int (nI lft)), some (.int (nI dn)), some (.int (nI (v + 1))), x5, x6]) rfl rfl (nI_1 _) rfl ?_
    refine E_goto (t := 25) rfl rfl ?_
    exact X
theorem rn_cp0 {h kk lft dn : Nat} (h6 : qM t ≤ 6) (l_oo : oo.length = 6) (l_bo : bo.length = 6) : Ef ab_Z0 (7 + h) mX6_runs (25, [some (.ref 65), some (.int (nI kk)), some (.int (nI lft)), some (.int (nI dn)), some (.int (nI 0)), none, none], [], (ww im lf s d k ls rf rz ra rn rq lt m1 m2 m3 m4 bd fc hd sz el t (fUp g 42 (nI dn)) fm hm so si sh ce ca td wa kp la bf oo bo pw ow tr)) (none, (ww im lf s d k ls rf rz ra rn rq lt m1 m2 m3 m4 bd fc hd sz el t (fUp g 42 (nI dn)) fm hm so si sh ce ca td wa kp la bf oo (ab_cp oo bo 0 0 (qM t)) pw ow tr)) := by
  have X : Ef ab_Z0 (7 + h) mX6_runs (25, [some (.ref 65), some (.int (nI kk)), some (.int (nI lft)), some (.int (nI dn)), some (.int (nI 0)), none, none], [], (ww im lf s d k ls rf rz ra rn rq lt m1 m2 m3 m4 bd fc hd sz el t (fUp g 42 (nI dn)) fm hm so si sh ce ca td wa kp la bf oo (ab_cp oo bo 0 0 0) pw ow tr)) (none, (ww im lf s d k ls rf rz ra rn rq lt m1 m2 m3 m4 bd fc hd sz el t (fUp g 42 (nI dn)) fm hm so si sh ce ca td wa kp la bf oo (ab_cp oo bo 0 0 (qM t)) pw ow tr)) := rn_cp h6 l_oo l_bo (qM t) 0 (Nat.zero_add _)
  rw [ab_cp_0] at X
  exact X
set_option maxHeartbeats 1000000 in
theorem rn_leaf {q : ab_q} {h kk lft dn : Nat} (h6 : qM q ≤ 6) (hkk : kk = qM q) (ha : rnA q kk lft dn t) (hmo : (rnF q (g 42) bo ∨ (g 42 = -1 ∧ lft = 2 ^ qM q - 2 ^ kk ∧ ∀ i, i < kk → oo.getD i 0 = nI i))) (hn : rnZs oo bo pw ow bf) : ∃ (t1 : ab_q) (g1 : Nat → Int32) (oo1 bo1 pw1 ow1 bf1 : List Int32), Ev ab_Z0 ((7 + h) + 1) 184 [.ref 65, .int (nI kk), .int (nI lft), .int (nI dn)] (ww im lf s d k ls rf rz ra rn rq lt m1 m2 m3 m4 bd fc hd sz el t g fm hm so si sh ce ca td wa kp la bf oo bo pw ow tr) (none, (ww im lf s d k ls rf rz ra rn rq lt m1 m2 m3 m4 bd fc hd sz el t1 g1 fm hm so si sh ce ca td wa kp la bf1 oo1 bo1 pw1 ow1 tr)) ∧ rnO q kk t t1 g g1 oo pw ow oo1 bo1 pw1 ow1 bf1 := by
  obtain ⟨hs, It, -, -, hqq, hdd⟩ := ha
  obtain ⟨l_oo, l_bo, l_pw, l_ow, l_bf⟩ := hn
  have hMt : qM t = qM q := hs.2.2.2.2.2.2.2.1
  have hz := rnB_none (q := q) (m := lft) (qM q) (by omega)
  have hc := rnC_le q (qM q)
  rcases hmo with hmo | ⟨hmo, -, ho⟩
  · have hg : (g 42).toInt = dn := by rw [hmo.1]; exact (nI_toInt (by omega)).trans (by omega)
    refine ⟨t, g, oo, bo, pw, ow, bf, ?_, hs, It, rfl, rfl, fun i _ _ _ => rfl, hmo, ⟨l_oo, l_bo, l_pw, l_ow, l_bf⟩, fun i _ => rfl, fun i _ => rfl, fun i _ => rfl⟩
    refine Ef.in (md := mX6_runs) (L := [some (.ref 65), some (.int (nI kk)), some (.int (nI lft)), some (.int (nI dn)), none, none, none]) rfl (Nat.le_of_ble_eq_true rfl) rfl ?_
    refine E_iload_n rfl rfl ?_
    refine E_aload_n rfl rfl ?_
    refine E_getfield (v := .int (nI (qM t))) rfl w65 rfl (by decide) rfl ?_
    refine E_ic (t := 55) (b := false) rfl rfl ((cn_ne (nI_toInt (by omega)) (nI_toInt (by omega))).trans (decide_eq_false (by omega))) ?_
    refine E_iload_n rfl rfl ?_
    refine E_aload_n rfl rfl ?_
    refine E_getfield (v := .int (g 42)) rfl w65 rfl (by decide) rfl ?_
    refine E_ic (t := 17) (b := false) rfl rfl ((cn_gt (nI_toInt (by omega)) rfl).trans (decide_eq_false (by omega))) ?_
    exact E_vret rfl rfl
  · have hg : (g 42).toInt < 0 := by rw [hmo]; decide
    refine ⟨t, fUp g 42 (nI dn), oo, ab_cp oo bo 0 0 (qM t), pw, ow, bf, ?_, hs, It, rfl, rfl, fun i _ _ z => fUp_ne z, ⟨?_, fun i hi => ?_⟩, ⟨l_oo, (ab_cpl (by omega) (by omega)).trans l_bo, l_pw, l_ow, l_bf⟩, fun i _ => rfl, fun i _ => rfl, fun i _ => rfl⟩
    · refine Ef.in (md := mX6_runs) (L := [some (.ref 65), some (.int (nI kk)), some (.int (nI lft)), some (.int (nI dn)), none, none, none]) rfl (Nat.le_of_ble_eq_true rfl) rfl ?_
      refine E_iload_n rfl rfl ?_
      refine E_aload_n rfl rfl ?_
      refine E_getfield (v := .int (nI (qM t))) rfl w65 rfl (by decide) rfl ?_
      refine E_ic (t := 55) (b := false) rfl rfl ((cn_ne (nI_toInt (by omega)) (nI_toInt (by omega))).trans (decide_eq_false (by omega))) ?_
      refine E_iload_n rfl rfl ?_
      refine E_aload_n rfl rfl ?_
      refine E_getfield (v := .int (g 42)) rfl w65 rfl (by decide) rfl ?_
      refine E_ic (t := 17) (b := true) rfl rfl ((cn_gt (nI_toInt (by omega)) rfl).trans (decide_eq_true (by omega))) ?_
      refine E_aload_n rfl rfl ?_
      refine E_iload_n rfl rfl ?_
      refine E_putfield (cs2 := (ww im lf s d k ls rf rz ra rn rq lt m1 m2 m3 m4 bd fc hd sz el t (fUp g 42 (nI dn)) fm hm so si sh ce ca td wa kp la bf oo bo pw ow tr)) rfl w65 rfl (by decide) (Nat.le_of_ble_eq_true rfl) rfl rfl rfl w_pt65_42 ?_
      refine E_iconst (x := nI 0) rfl (by decide) ?_
      refine E_istore (L2 := [some (.ref 65), some (.int (nI kk)), some (.int (nI lft)), some (.int (nI dn)), some (.int (nI 0)), none, none]) rfl rfl ?_
      exact rn_cp0 (by omega) l_oo l_bo
    · show fUp g 42 (nI dn) 42 = nI (rnC q (qM q))
      rw [fUp_eq]
      exact congrArg nI (by omega)
    · rw [ab_cp_get (by omega) (by omega), if_pos ⟨Nat.zero_le _, by omega⟩]
      exact (congrArg (fun z => oo.getD z 0) (by omega : 0 + (i - 0) = i)).trans (ho i (by omega))
theorem rn_step {q t t1 t2 : ab_q} {kk p lft dn : Nat} {g g1 : Nat → Int32} {oo bo pw ow oo1 bo1 pw1 ow1 bf1 : List Int32} {A B : Int32} (hkk : kk < qM q) (h6 : qM q ≤ 6) (ha : rnA q kk lft dn t) (hpw : ∀ i, i < 6 → pw.getD (6 * kk + i) 0 = ((qU t).map nI).getD i 0) (how : ∀ i, i < 9 → ow.getD (9 * kk + i) 0 = ((qP t).map nI).getD i 0)
    (hO : rnO q (kk + 1) t2 t1 (fUp (fUp g 36 A) 37 B) g1 (oo.set kk (nI p)) pw ow oo1 bo1 pw1 ow1 bf1) (hlp : pw.length = 42) (hlo : ow.length = 63) :
    ab_cp pw1 ((qU t1).map nI) (6 * kk) 0 6 = (qU t).map nI ∧ ab_cp ow1 ((qP t1).map nI) (9 * kk) 0 9 = (qP t).map nI ∧ rnA q kk lft dn (qs_P (qs_U t1 (qU t)) (qP t)) ∧ (∀ i, i < 6 → pw1.getD (6 * kk + i) 0 = ((qU t).map nI).getD i 0) ∧ (∀ i, i < 9 → ow1.getD (9 * kk + i) 0 = ((qP t).map nI).getD i 0) := by
  obtain ⟨hs, It, hu, hl5, hqq, hdd⟩ := ha
  obtain ⟨s1, I1, -, -, -, -, n1, -, w1, v1⟩ := hO
  obtain ⟨-, -, lp1, lo1, -⟩ := n1
  have hMt : qM t = qM q := hs.2.2.2.2.2.2.2.1
  have hM1 : qM t1 = qM q := s1.2.2.2.2.2.2.2.1
  have hNt : qN t = qN q := hs.2.2.2.2.2.2.1
  have hN1 : qN t1 = qN q := s1.2.2.2.2.2.2.1
  have r1 : ∀ i, i < 6 → pw1.getD (6 * kk + i) 0 = ((qU t).map nI).getD i 0 := fun i hi => (w1 (6 * kk + i) (by omega)).trans (hpw i hi)
  have r2 : ∀ i, i < 9 → ow1.getD (9 * kk + i) 0 = ((qP t).map nI).getD i 0 := fun i hi => (v1 (9 * kk + i) (by omega)).trans (how i hi)
  refine ⟨cp_row (by omega) (by rw [List.length_map]; exact I1.2.1.1) (by rw [List.length_map]; exact It.2.1.1) r1, cp_row (by omega) (by rw [List.length_map]; exact I1.1.2.2.2) (by rw [List.length_map]; exact It.1.2.2.2) r2, ⟨s1, ?_, hu, hl5, hqq, hdd⟩, r1, r2⟩
  refine qI_P (qI_U I1 It.2.1.1 (fun x hx => (It.2.2.2.2.1 x (by omega)).1)) It.1.2.2.2 (fun x hx => ?_)
  have hx : x < qN t1 := hx
  have z := (It.2.2.2.1 x (by omega)).2.2.2.2
  show (qP t).getD x 0 = 99 ∨ (qP t).getD x 0 < qM t1
  rw [hM1, ← hMt]
  exact z
theorem rn_mode {q : ab_q} {kk p lft : Nat} {m : Int32} {oo bo : List Int32} (h6 : qM q ≤ 6) (hkk : kk < qM q) (hb : qBit lft p = 1) (l_oo : oo.length = 6) (hmo : rnF q m bo ∨ (m = -1 ∧ p ≤ kk ∧ lft = 2 ^ qM q - 2 ^ kk ∧ ∀ i, i < kk → oo.getD i 0 = nI i)) : rnF q m bo ∨ (m = -1 ∧ lft - 2 ^ p = 2 ^ qM q - 2 ^ (kk + 1) ∧ ∀ i, i < kk + 1 → (oo.set kk (nI p)).getD i 0 = nI i) := by
  rcases hmo with f | ⟨e1, e2, e3, e4⟩
  · exact Or.inl f
  · have e := bit_rng (qM q) h6 kk hkk
    have hpk : p = kk := by
      by_cases z : p = kk
      · exact z
      · have := e.2 p (by omega)
        rw [← e3] at this
        omega
    rw [hpk]
    refine Or.inr ⟨e1, ?_, fun i hi => ?_⟩
    · rw [e3, Nat.pow_succ]
      omega
    · by_cases z : i = kk
      · rw [z]
        exact ab_gs2 (by omega)
      · rw [ab_gs3 (by omega)]
        exact e4 i (by omega)
theorem rn_mode0 {q : ab_q} {kk p lft : Nat} {m : Int32} {oo bo : List Int32} (h6 : qM q ≤ 6) (hkk : kk < qM q) (hb : qBit lft p = 0) (hmo : rnF q m bo ∨ (m = -1 ∧ p ≤ kk ∧ lft = 2 ^ qM q - 2 ^ kk ∧ ∀ i, i < kk → oo.getD i 0 = nI i)) : rnF q m bo ∨ (m = -1 ∧ p + 1 ≤ kk ∧ lft = 2 ^ qM q - 2 ^ kk ∧ ∀ i, i < kk → oo.getD i 0 = nI i) := by
  rcases hmo with f | ⟨e1, e2, e3, e4⟩
  · exact Or.inl f
  · refine Or.inr ⟨e1, ?_, e3, e4⟩
    have e := (bit_rng (qM q) h6 kk hkk).1
    by_cases z : p = kk
    · rw [z, e3, e] at hb
      omega
    · omega
theorem rn_child {q t : ab_q} {kk p lft dn u : Nat} (h6 : qM q ≤ 6) (hp : p < qM q) (hb : qBit lft p = 1) (ha : rnA q kk lft dn t) : ((qPr t p ((qW t).getD p 0) ≤ (qU t).getD p 0) → rnA q (kk + 1) (lft - 2 ^ p) (dn + 1) (grQ t p u 0)) ∧ ((¬ qPr t p ((qW t).getD p 0) ≤ (qU t).getD p 0) → rnA q (kk + 1) (lft - 2 ^ p) dn t) := by
  obtain ⟨hs, It, hu, hl5, hqq, hdd⟩ := ha
  have hMt : qM t = qM q := hs.2.2.2.2.2.2.2.1
  have rr := (rn_rem (q := q) hl5 (by omega) hb (qM q) (by omega)).2 hp
  have hp2 := Nat.two_pow_pos p
  have hle := qBit_le hb
  have hup := hu p hp hb
  have hh : hsP q p = if qPr t p ((qW t).getD p 0) ≤ (qU t).getD p 0 then 1 else 0 := by
    unfold hsP
    rw [hs.2.2.2.2.1, hs.pr, hup]
  have bx : ∀ x, x < qM q → qBit (lft - 2 ^ p) x = 1 → ¬ p = x ∧ qBit lft x = 1 := fun x hx z => by
    have e := bit_rem lft hl5 p (by omega) hb x (by omega)
    by_cases c : x = p
    · rw [if_pos c] at e
      omega
    · rw [if_neg c] at e
      exact ⟨fun y => c y.symm, e ▸ z⟩
  refine ⟨fun c => ⟨hs, grQ_I It (by omega), fun x hx z => ?_, by omega, by omega, ?_⟩, fun c => ⟨hs, It, fun x hx z => hu x hx (bx x hx z).2, by omega, by omega, ?_⟩⟩
  · show ((qU t).set p ((qU t).getD p 0 - u)).getD x 0 = _
    rw [ab_gs4 (bx x hx z).1]
    exact hu x hx (bx x hx z).2
  · rw [if_pos c] at hh
    omega
  · rw [if_neg c] at hh
    omega
set_option maxHeartbeats 4000000 in
theorem rn_loop {q : ab_q} {h kk lft dn : Nat} (h6 : qM q ≤ 6) (hkk : kk < qM q) (ihc : ∀ (lft dn : Nat) (t : ab_q) (g : Nat → Int32) (oo bo pw ow bf : List Int32), rnA q (kk + 1) lft dn t → (rnF q (g 42) bo ∨ (g 42 = -1 ∧ lft = 2 ^ qM q - 2 ^ (kk + 1) ∧ ∀ i, i < kk + 1 → oo.getD i 0 = nI i)) → rnZs oo bo pw ow bf → ∃ (t1 : ab_q) (g1 : Nat → Int32) (oo1 bo1 pw1 ow1 bf1 : List Int32), Ev ab_Z0 ((7 + h)) 184 [.ref 65, .int (nI (kk + 1)), .int (nI lft), .int (nI dn)] (ww im lf s d k ls rf rz ra rn rq lt m1 m2 m3 m4 bd fc hd sz el t g fm hm so si sh ce ca td wa kp la bf oo bo pw ow tr) (none, (ww im lf s d k ls rf rz ra rn rq lt m1 m2 m3 m4 bd fc hd sz el t1 g1 fm hm so si sh ce ca td wa kp la bf1 oo1 bo1 pw1 ow1 tr)) ∧ rnO q (kk + 1) t t1 g g1 oo pw ow oo1 bo1 pw1 ow1 bf1) : ∀ n0 p (t : ab_q) (g : Nat → Int32) (oo bo pw ow bf : List Int32) (x5 x6 : Option Value), p + n0 = qM q → rnA q kk lft dn t → (rnF q (g 42) bo ∨ (g 42 = -1 ∧ p ≤ kk ∧ lft = 2 ^ qM q - 2 ^ kk ∧ ∀ i, i < kk → oo.getD i 0 = nI i)) → rnZs oo bo pw ow bf → (∀ i, i < 6 → pw.getD (6 * kk + i) 0 = ((qU t).map nI).getD i 0) → (∀ i, i < 9 → ow.getD (9 * kk + i) 0 = ((qP t).map nI).getD i 0) → ∃ (t1 : ab_q) (g1 : Nat → Int32) (oo1 bo1 pw1 ow1 bf1 : List Int32), Ef ab_Z0 (7 + h) mX6_runs (98, [some (.ref 65), some (.int (nI kk)), some (.int (nI lft)), some (.int (nI dn)), some (.int (nI p)), x5, x6], [], (ww im lf s d k ls rf rz ra rn rq lt m1 m2 m3 m4 bd fc hd sz el t g fm hm so si sh ce ca td wa kp la bf oo bo pw ow tr)) (none, (ww im lf s d k ls rf rz ra rn rq lt m1 m2 m3 m4 bd fc hd sz el t1 g1 fm hm so si sh ce ca td wa kp la bf1 oo1 bo1 pw1 ow1 tr)) ∧ rnO q kk t t1 g g1 oo pw ow oo1 bo1 pw1 ow1 bf1 := by
  intro n0
  induction n0 with
  | zero =>
    intro p t g oo bo pw ow bf x5 x6 hi ha hmo hn hpw how
    obtain ⟨hs, It, -, -, -, -⟩ := ha
    have hMt : qM t = qM q := hs.2.2.2.2.2.2.2.1
    have hf : rnF q (g 42) bo := by
      rcases hmo with f | ⟨-, e2, -, -⟩
      · exact f
      · omega
    refine ⟨t, g, oo, bo, pw, ow, bf, ?_, hs, It, rfl, rfl, fun i _ _ _ => rfl, hf, hn, fun i _ => rfl, fun i _ => rfl, fun i _ => rfl⟩
    refine E_iload rfl rfl ?_
    refine E_aload_n rfl rfl ?_
    refine E_getfield (v := .int (nI (qM t))) rfl w65 rfl (by decide) rfl ?_
    refine E_ic (t := 246) (b := true) rfl rfl ((cn_ge (nI_toInt (by omega)) (nI_toInt (by omega))).trans (decide_eq_true (by omega))) ?_
    exact E_vret rfl rfl
  | succ n0 ih =>
    intro p t g oo bo pw ow bf x5 x6 hi ha hmo hn hpw how
    have ha2 := ha
    obtain ⟨hs, It, hu, hl5, hqq, hdd⟩ := ha
    have hn2 := hn
    obtain ⟨l_oo, l_bo, l_pw, l_ow, l_bf⟩ := hn
    have hMt : qM t = qM q := hs.2.2.2.2.2.2.2.1
    have hU := It.2.2.2.2.1 p (by omega)
    have h9 := It.2.2.1.1
    have hcl := rnC_le q (qM q)
    have hr := (qPr_in It p (w := (qW t).getD p 0) (by omega)).1
    have lU : (qU t).length = 6 := It.2.1.1
    have lW : (qW t).length = 6 := It.2.1.2.2.1
    have lG : (qG t).length = 6 := It.2.1.2.2.2.1
    have lP : (qP t).length = 9 := It.1.2.2.2
    rcases qBit2 lft p with hb | hb
    · obtain ⟨t1, g1, oo1, bo1, pw1, ow1, bf1, K1, hO⟩ := ih (p + 1) t g oo bo pw ow bf x5 x6 (by omega) ha2 (rn_mode0 h6 hkk hb hmo) hn2 hpw how
      refine ⟨t1, g1, oo1, bo1, pw1, ow1, bf1, ?_, hO⟩
      have dm := Nat.div_le_self lft (2 ^ p)
      refine E_iload rfl rfl ?_
      refine E_aload_n rfl rfl ?_
      refine E_getfield (v := .int (nI (qM t))) rfl w65 rfl (by decide) rfl ?_
      refine E_ic (t := 246) (b := false) rfl rfl ((cn_ge (nI_toInt (by omega)) (nI_toInt (by omega))).trans (decide_eq_false (by omega))) ?_
      refine E_iload_n rfl rfl ?_
      refine E_iload rfl rfl ?_
      refine E_ishr (z := nI (lft / 2 ^ p)) rfl (ab_shr (by omega) (by omega)) ?_
      refine E_iconst (x := nI 1) rfl (by decide) ?_
      refine E_iand (z := nI (qBit lft p)) rfl (ab_and1 (by omega)) ?_
      refine E_if (t := 119) (b := false) rfl rfl ((cn_ne (nI_toInt (by omega)) (by decide : (0 : Int32).toInt = 0)).trans (decide_eq_false (by omega))) ?_
      refine E_goto (t := 240) rfl rfl ?_
      refine E_iinc (y := nI (p + 1)) (L2 := [some (.ref 65), some (.int (nI kk)), some (.int (nI lft)), some (.int (nI dn)), some (.int (nI (p + 1))), x5, x6]) rfl rfl (nI_1 _) rfl ?_
      refine E_goto (t := 98) rfl rfl ?_
      exact K1
    · have hle := qBit_le hb
      have hp2 := Nat.two_pow_pos p
      have hm2 := rn_mode h6 hkk hb l_oo hmo
      by_cases hc : qPr t p ((qW t).getD p 0) ≤ (qU t).getD p 0
      · obtain ⟨t1, g1, oo1, bo1, pw1, ow1, bf1, E1, hO⟩ := ihc (lft - 2 ^ p) (dn + 1) (grQ t p (qPr t p ((qW t).getD p 0)) 0) (fUp (fUp g 36 (nI (qPr t p ((qW t).getD p 0)))) 37 (nI 0)) (oo.set kk (nI p)) bo pw ow (lsF (bst t (qPs t 99 (qN t)) (qN t) (2 ^ qN t))) ((rn_child (u := qPr t p ((qW t).getD p 0)) h6 (by omega) hb ha2).1 hc) hm2 ⟨List.length_set.trans l_oo, l_bo, l_pw, l_ow, lsF_len _⟩
        obtain ⟨hcU, hcP, ha3, hpw3, how3⟩ := rn_step (bo := bo) hkk h6 ha2 hpw how hO l_pw l_ow
        obtain ⟨s1, I1, u1, p1, gg1, f1, n1, o1, w1, v1⟩ := hO
        obtain ⟨lo1, lb1, lp1, lw1, lf1⟩ := n1
        have lU1 : (qU t1).length = 6 := I1.2.1.1
        have lP1 : (qP t1).length = 9 := I1.1.2.2.2
        obtain ⟨t3, g3, oo3, bo3, pw3, ow3, bf3, K3, hO3⟩ := ih (p + 1) (qs_P (qs_U t1 (qU t)) (qP t)) g1 oo1 bo1 pw1 ow1 bf1 (some (.int (nI 1))) (some (.int (nI (qPr t p ((qW t).getD p 0))))) (by omega) ha3 (Or.inl f1) ⟨lo1, lb1, lp1, lw1, lf1⟩ hpw3 how3
        obtain ⟨s3, I3, u3, p3, gg3, f3, n3, o3, w3, v3⟩ := hO3
        refine ⟨t3, g3, oo3, bo3, pw3, ow3, bf3, ?_, s3, I3, u3, p3, fun i a b z => (gg3 i a b z).trans ((gg1 i a b z).trans ((fUp_ne b).trans (fUp_ne a))), f3, n3, fun i hi => (o3 i hi).trans ((o1 i (by omega)).trans (ab_gs3 (by omega))), fun i hi => (w3 i hi).trans (w1 i (by omega)), fun i hi => (v3 i hi).trans (v1 i (by omega))⟩
        unfold grQ at E1
        have dm := Nat.div_le_self lft (2 ^ p)
        have : (qU t).length = 6 := by first | omega | (simp only [List.length_set]; omega)
        have : (qG t).length = 6 := by first | omega | (simp only [List.length_set]; omega)
        have : (qU t1).length = 6 := by first | omega | (simp only [List.length_set]; omega)
        have : (qP t1).length = 9 := by first | omega | (simp only [List.length_set]; omega)
        refine E_iload rfl rfl ?_
        refine E_aload_n rfl rfl ?_
        refine E_getfield (v := .int (nI (qM t))) rfl w65 rfl (by decide) rfl ?_
        refine E_ic (t := 246) (b := false) rfl rfl ((cn_ge (nI_toInt (by omega)) (nI_toInt (by omega))).trans (decide_eq_false (by omega))) ?_
        refine E_iload_n rfl rfl ?_
        refine E_iload rfl rfl ?_
        refine E_ishr (z := nI (lft / 2 ^ p)) rfl (ab_shr (by omega) (by omega)) ?_
        refine E_iconst (x := nI 1) rfl (by decide) ?_
        refine E_iand (z := nI (qBit lft p)) rfl (ab_and1 (by omega)) ?_
        refine E_if (t := 119) (b := true) rfl rfl ((cn_ne (nI_toInt (by omega)) (by decide : (0 : Int32).toInt = 0)).trans (decide_eq_true (by omega))) ?_
        refine E_aload_n rfl rfl ?_
        refine E_getfield (v := .ref 90) rfl w65 rfl (by decide) rfl ?_
        refine E_iload_n rfl rfl ?_
        refine E_iload rfl rfl ?_
        refine E_iasI (l := oo) (cs2 := (ww im lf s d k ls rf rz ra rn rq lt m1 m2 m3 m4 bd fc hd sz el t g fm hm so si sh ce ca td wa kp la bf (oo.set kk (nI p)) bo pw ow tr)) rfl w90 (by omega) (by omega) rfl ?_
        refine E_aload_n rfl rfl ?_
        refine E_iload rfl rfl ?_
        refine E_callV (v := none) (As := [.ref 65, .int (nI p)]) (r0 := []) (cs2 := (ww im lf s d k ls rf rz ra rn rq lt m1 m2 m3 m4 bd fc hd sz el t (fUp (fUp g 36 (nI (qPr t p ((qW t).getD p 0)))) 37 (nI 0)) fm hm so si sh ce ca td wa kp la (lsF (bst t (qPs t 99 (qN t)) (qN t) (2 ^ qN t))) (oo.set kk (nI p)) bo pw ow tr)) rfl rfl rfl (Nat.le_of_ble_eq_true rfl) rfl (ab_rvOf w65 rfl) (Ev.to (w_throw It (by omega) l_bf) (by unfold thA thB; rw [if_pos (by omega), if_pos (by omega)])) (by omega) w_lens ?_
        refine E_aload_n rfl rfl ?_
        refine E_getfield (v := .int (nI (qPr t p ((qW t).getD p 0)))) rfl w65 rfl (by decide) rfl ?_
        refine E_iconst (x := (-1)) rfl (by decide) ?_
        refine E_ic (t := 145) (b := false) rfl rfl ((cn_eq (nI_toInt (by omega)) (by decide : (-1 : Int32).toInt = -1)).trans (decide_eq_false (by omega))) ?_
        refine E_iconst (x := nI 1) rfl (by decide) ?_
        refine E_goto (t := 146) rfl rfl ?_
        refine E_istore (L2 := [some (.ref 65), some (.int (nI kk)), some (.int (nI lft)), some (.int (nI dn)), some (.int (nI p)), some (.int (nI 1)), x6]) rfl rfl ?_
        refine E_iload rfl rfl ?_
        refine E_if (t := 175) (b := false) rfl rfl (by decide) ?_
        refine E_aload_n rfl rfl ?_
        refine E_getfield (v := .int (nI (qPr t p ((qW t).getD p 0)))) rfl w65 rfl (by decide) rfl ?_
        refine E_istore (L2 := [some (.ref 65), some (.int (nI kk)), some (.int (nI lft)), some (.int (nI dn)), some (.int (nI p)), some (.int (nI 1)), some (.int (nI (qPr t p ((qW t).getD p 0))))]) rfl rfl ?_
        refine E_aload_n rfl rfl ?_
        refine E_iload rfl rfl ?_
        refine E_iload rfl rfl ?_
        refine E_aload_n rfl rfl ?_
        refine E_iload rfl rfl ?_
        refine E_iload rfl rfl ?_
        refine E_callV (v := some (.int (nI 0))) (As := [.ref 65, .int (nI p), .int (nI (qPr t p ((qW t).getD p 0)))]) (r0 := [.int (nI (qPr t p ((qW t).getD p 0))), .int (nI p), .ref 65]) (cs2 := (ww im lf s d k ls rf rz ra rn rq lt m1 m2 m3 m4 bd fc hd sz el t (fUp (fUp g 36 (nI (qPr t p ((qW t).getD p 0)))) 37 (nI 0)) fm hm so si sh ce ca td wa kp la (lsF (bst t (qPs t 99 (qN t)) (qN t) (2 ^ qN t))) (oo.set kk (nI p)) bo pw ow tr)) rfl rfl rfl (Nat.le_of_ble_eq_true rfl) rfl (ab_rvOf w65 rfl) (w_thrown0 It (by omega) (by omega)) (by omega) rfl ?_
        have e1 : Ev ab_Z0 1 183 [.ref 65, .int (nI p), .int (nI (qPr t p ((qW t).getD p 0))), .int (nI 0)] (ww im lf s d k ls rf rz ra rn rq lt m1 m2 m3 m4 bd fc hd sz el t (fUp (fUp g 36 (nI (qPr t p ((qW t).getD p 0)))) 37 (nI 0)) fm hm so si sh ce ca td wa kp la (lsF (bst t (qPs t 99 (qN t)) (qN t) (2 ^ qN t))) (oo.set kk (nI p)) bo pw ow tr) (none, (ww im lf s d k ls rf rz ra rn rq lt m1 m2 m3 m4 bd fc hd sz el (qs_P (qs_Y (qs_G (qs_U t ((qU t).set p (((qU t).getD p 0) - (qPr t p ((qW t).getD p 0))))) ((qG t).set p (((qG t).getD p 0) + (nI 1)))) ((qY t) + (nI (qPr t p ((qW t).getD p 0))))) (qGP (qP t) p 0 (qN t))) (fUp (fUp g 36 (nI (qPr t p ((qW t).getD p 0)))) 37 (nI 0)) fm hm so si sh ce ca td wa kp la (lsF (bst t (qPs t 99 (qN t)) (qN t) (2 ^ qN t))) (oo.set kk (nI p)) bo pw ow tr)) := by
          refine Ef.in (md := mX6_throwsIn) (L := [some (.ref 65), some (.int (nI p)), some (.int (nI (qPr t p ((qW t).getD p 0)))), some (.int (nI 0)), none]) rfl (Nat.le_of_ble_eq_true rfl) rfl ?_
          refine E_aload_n rfl rfl ?_
          refine E_getfield (v := .ref 71) rfl w65 rfl (by decide) rfl ?_
          refine E_iload_n rfl rfl ?_
          refine E_dup2 rfl ⟨rfl, rfl⟩ ?_
          refine E_ialN (l := qU t) (v := (qU t).getD p 0) rfl w71 (by omega) (by omega) rfl ?_
          refine E_iload_n rfl rfl ?_
          refine E_isub (z := nI (((qU t).getD p 0) - (qPr t p ((qW t).getD p 0)))) rfl (pk_sub (by omega)) ?_
          refine E_iasN (l := qU t) (cs2 := (ww im lf s d k ls rf rz ra rn rq lt m1 m2 m3 m4 bd fc hd sz el (qs_U t ((qU t).set p (((qU t).getD p 0) - (qPr t p ((qW t).getD p 0))))) (fUp (fUp g 36 (nI (qPr t p ((qW t).getD p 0)))) 37 (nI 0)) fm hm so si sh ce ca td wa kp la (lsF (bst t (qPs t 99 (qN t)) (qN t) (2 ^ qN t))) (oo.set kk (nI p)) bo pw ow tr)) rfl w71 (by omega) (by omega) w_pt65_U ?_
          refine E_aload_n rfl rfl ?_
          refine E_getfield (v := .ref 74) rfl w65 rfl (by decide) rfl ?_
          refine E_iload_n rfl rfl ?_
          refine E_dup2 rfl ⟨rfl, rfl⟩ ?_
          refine E_ialI (l := qG t) (v := (qG t).getD p 0) rfl (w74v qg_GU) (by omega) (by omega) rfl ?_
          refine E_iconst (x := nI 1) rfl (by decide) ?_
          refine E_iadd (z := ((qG t).getD p 0) + (nI 1)) rfl rfl ?_
          refine E_iasI (l := qG t) (cs2 := (ww im lf s d k ls rf rz ra rn rq lt m1 m2 m3 m4 bd fc hd sz el (qs_G (qs_U t ((qU t).set p (((qU t).getD p 0) - (qPr t p ((qW t).getD p 0))))) ((qG t).set p (((qG t).getD p 0) + (nI 1)))) (fUp (fUp g 36 (nI (qPr t p ((qW t).getD p 0)))) 37 (nI 0)) fm hm so si sh ce ca td wa kp la (lsF (bst t (qPs t 99 (qN t)) (qN t) (2 ^ qN t))) (oo.set kk (nI p)) bo pw ow tr)) rfl (w74v qg_GU) (by omega) (by omega) w_pt65_G ?_
          refine E_aload_n rfl rfl ?_
          refine E_dup rfl rfl ?_
          refine E_getfield (v := .int (qY t)) rfl w65 rfl (by decide) (congrArg (fun z => some (Value.int z)) (qg_YG.trans qg_YU)) ?_
          refine E_iload_n rfl rfl ?_
          refine E_iadd (z := (qY t) + (nI (qPr t p ((qW t).getD p 0)))) rfl rfl ?_
          refine E_putfield (cs2 := (ww im lf s d k ls rf rz ra rn rq lt m1 m2 m3 m4 bd fc hd sz el (qs_Y (qs_G (qs_U t ((qU t).set p (((qU t).getD p 0) - (qPr t p ((qW t).getD p 0))))) ((qG t).set p (((qG t).getD p 0) + (nI 1)))) ((qY t) + (nI (qPr t p ((qW t).getD p 0))))) (fUp (fUp g 36 (nI (qPr t p ((qW t).getD p 0)))) 37 (nI 0)) fm hm so si sh ce ca td wa kp la (lsF (bst t (qPs t 99 (qN t)) (qN t) (2 ^ qN t))) (oo.set kk (nI p)) bo pw ow tr)) rfl w65 rfl (by decide) (Nat.le_of_ble_eq_true rfl) rfl rfl rfl w_pt65_Y ?_
          refine E_iconst (x := nI 0) rfl (by decide) ?_
          refine E_istore (L2 := [some (.ref 65), some (.int (nI p)), some (.int (nI (qPr t p ((qW t).getD p 0)))), some (.int (nI 0)), some (.int (nI 0))]) rfl rfl ?_
          exact grant_s65 (t := (qs_Y (qs_G (qs_U t ((qU t).set p (((qU t).getD p 0) - (qPr t p ((qW t).getD p 0))))) ((qG t).set p (((qG t).getD p 0) + (nI 1)))) ((qY t) + (nI (qPr t p ((qW t).getD p 0)))))) (p := p) (n := qPr t p ((qW t).getD p 0)) (m := 0) (l := qP t) (n1 := qN t) ((congrArg (qs_P _) (Eq.symm (qg_PY.trans (qg_PG.trans qg_PU)))).trans qs_Pself) (qg_NY.trans (qg_NG.trans qg_NU)) (by omega) (It).1.2.2.2 (by omega) (by omega)
        refine E_callV (v := none) (As := [.ref 65, .int (nI p), .int (nI (qPr t p ((qW t).getD p 0))), .int (nI 0)]) (r0 := []) (cs2 := (ww im lf s d k ls rf rz ra rn rq lt m1 m2 m3 m4 bd fc hd sz el (qs_P (qs_Y (qs_G (qs_U t ((qU t).set p (((qU t).getD p 0) - (qPr t p ((qW t).getD p 0))))) ((qG t).set p (((qG t).getD p 0) + (nI 1)))) ((qY t) + (nI (qPr t p ((qW t).getD p 0))))) (qGP (qP t) p 0 (qN t))) (fUp (fUp g 36 (nI (qPr t p ((qW t).getD p 0)))) 37 (nI 0)) fm hm so si sh ce ca td wa kp la (lsF (bst t (qPs t 99 (qN t)) (qN t) (2 ^ qN t))) (oo.set kk (nI p)) bo pw ow tr)) rfl rfl rfl (Nat.le_of_ble_eq_true rfl) rfl (ab_rvOf w65 rfl) e1 (by omega) w_lens ?_
        refine E_aload_n rfl rfl ?_
        refine E_iload_n rfl rfl ?_
        refine E_iconst (x := nI 1) rfl (by decide) ?_
        refine E_iadd (z := nI (kk + 1)) rfl (nI_add _ _) ?_
        refine E_iload_n rfl rfl ?_
        refine E_iconst (x := nI 1) rfl (by decide) ?_
        refine E_iload rfl rfl ?_
        refine E_ishl (z := nI (2 ^ p)) rfl (ab_shl (by omega)) ?_
        refine E_isub (z := nI (lft - (2 ^ p))) rfl (pk_sub (by omega)) ?_
        refine E_iload rfl rfl ?_
        refine E_if (t := 196) (b := false) rfl rfl (by decide) ?_
        refine E_iload_n rfl rfl ?_
        refine E_iconst (x := nI 1) rfl (by decide) ?_
        refine E_iadd (z := nI (dn + 1)) rfl (nI_add _ _) ?_
        refine E_goto (t := 197) rfl rfl ?_
        refine E_callV (v := none) (As := [.ref 65, .int (nI (kk + 1)), .int (nI (lft - (2 ^ p))), .int (nI (dn + 1))]) (r0 := []) (cs2 := (ww im lf s d k ls rf rz ra rn rq lt m1 m2 m3 m4 bd fc hd sz el t1 g1 fm hm so si sh ce ca td wa kp la bf1 oo1 bo1 pw1 ow1 tr)) rfl rfl rfl (Nat.le_of_ble_eq_true rfl) rfl (ab_rvOf w65 rfl) E1 (by omega) w_lens ?_
        refine E_aload_n rfl rfl ?_
        refine E_aload_n rfl rfl ?_
        refine E_getfield (v := .ref 71) rfl w65 rfl (by decide) rfl ?_
        refine E_bipush (x := nI 6) rfl (by decide) ?_
        refine E_aload_n rfl rfl ?_
        refine E_getfield (v := .ref 92) rfl w65 rfl (by decide) rfl ?_
        refine E_bipush (x := nI 6) rfl (by decide) ?_
        refine E_iload_n rfl rfl ?_
        refine E_imul (z := nI (6 * kk)) rfl (pk_mul _ _) ?_
        refine E_iconst (x := nI 1) rfl (by decide) ?_
        refine E_callV (v := some (.int (nI ((6 * kk) + 6)))) (As := [.ref 65, .ref 71, .int (nI 6), .ref 92, .int (nI (6 * kk)), .int (nI 1)]) (r0 := []) (cs2 := (ww im lf s d k ls rf rz ra rn rq lt m1 m2 m3 m4 bd fc hd sz el (qs_U t1 (qU t)) g1 fm hm so si sh ce ca td wa kp la bf1 oo1 bo1 pw1 ow1 tr)) rfl rfl rfl (Nat.le_of_ble_eq_true rfl) rfl (ab_rvOf w65 rfl) (Ev.to (mo_cgB (gl := 42) w71 w92 (by rw [List.length_map]; omega) (by decide) (by omega) (by omega) (by decide)) (by rw [hcU]; exact w_pt65_U)) (by omega) w_lens ?_
        refine E_pop rfl rfl ?_
        refine E_aload_n rfl rfl ?_
        refine E_aload_n rfl rfl ?_
        refine E_getfield (v := .ref 70) rfl w65 rfl (by decide) rfl ?_
        refine E_bipush (x := nI 9) rfl (by decide) ?_
        refine E_aload_n rfl rfl ?_
        refine E_getfield (v := .ref 93) rfl w65 rfl (by decide) rfl ?_
        refine E_bipush (x := nI 9) rfl (by decide) ?_
        refine E_iload_n rfl rfl ?_
        refine E_imul (z := nI (9 * kk)) rfl (pk_mul _ _) ?_
        refine E_iconst (x := nI 1) rfl (by decide) ?_
        refine E_callV (v := some (.int (nI ((9 * kk) + 9)))) (As := [.ref 65, .ref 70, .int (nI 9), .ref 93, .int (nI (9 * kk)), .int (nI 1)]) (r0 := []) (cs2 := (ww im lf s d k ls rf rz ra rn rq lt m1 m2 m3 m4 bd fc hd sz el (qs_P (qs_U t1 (qU t)) (qP t)) g1 fm hm so si sh ce ca td wa kp la bf1 oo1 bo1 pw1 ow1 tr)) rfl rfl rfl (Nat.le_of_ble_eq_true rfl) rfl (ab_rvOf w65 rfl) (Ev.to (mo_cgB (gl := 63) (w70v qg_PU) w93 (by rw [List.length_map]; omega) (by decide) (by omega) (by omega) (by decide)) (by rw [hcP]; exact w_pt65_P)) (by omega) w_lens ?_
        refine E_pop rfl rfl ?_
        refine E_iinc (y := nI (p + 1)) (L2 := [some (.ref 65), some (.int (nI kk)), some (.int (nI lft)), some (.int (nI dn)), some (.int (nI (p + 1))), some (.int (nI 1)), some (.int (nI (qPr t p ((qW t).getD p 0))))]) rfl rfl (nI_1 _) rfl ?_
        refine E_goto (t := 98) rfl rfl ?_
        exact K3
      · obtain ⟨t1, g1, oo1, bo1, pw1, ow1, bf1, E1, hO⟩ := ihc (lft - 2 ^ p) (dn) t (fUp (fUp g 36 (-1)) 37 (-1)) (oo.set kk (nI p)) bo pw ow (lsF (bst t (qPs t 99 (qN t)) (qN t) (2 ^ qN t))) ((rn_child (u := 0) h6 (by omega) hb ha2).2 hc) hm2 ⟨List.length_set.trans l_oo, l_bo, l_pw, l_ow, lsF_len _⟩
        obtain ⟨hcU, hcP, ha3, hpw3, how3⟩ := rn_step (bo := bo) hkk h6 ha2 hpw how hO l_pw l_ow
        obtain ⟨s1, I1, u1, p1, gg1, f1, n1, o1, w1, v1⟩ := hO
        obtain ⟨lo1, lb1, lp1, lw1, lf1⟩ := n1
        have lU1 : (qU t1).length = 6 := I1.2.1.1
        have lP1 : (qP t1).length = 9 := I1.1.2.2.2
        obtain ⟨t3, g3, oo3, bo3, pw3, ow3, bf3, K3, hO3⟩ := ih (p + 1) (qs_P (qs_U t1 (qU t)) (qP t)) g1 oo1 bo1 pw1 ow1 bf1 (some (.int (nI 0))) x6 (by omega) ha3 (Or.inl f1) ⟨lo1, lb1, lp1, lw1, lf1⟩ hpw3 how3
        obtain ⟨s3, I3, u3, p3, gg3, f3, n3, o3, w3, v3⟩ := hO3
        refine ⟨t3, g3, oo3, bo3, pw3, ow3, bf3, ?_, s3, I3, u3, p3, fun i a b z => (gg3 i a b z).trans ((gg1 i a b z).trans ((fUp_ne b).trans (fUp_ne a))), f3, n3, fun i hi => (o3 i hi).trans ((o1 i (by omega)).trans (ab_gs3 (by omega))), fun i hi => (w3 i hi).trans (w1 i (by omega)), fun i hi => (v3 i hi).trans (v1 i (by omega))⟩
        have dm := Nat.div_le_self lft (2 ^ p)
        have : (qU t1).length = 6 := by first | omega | (simp only [List.length_set]; omega)
        have : (qP t1).length = 9 := by first | omega | (simp only [List.length_set]; omega)
        refine E_iload rfl rfl ?_
        refine E_aload_n rfl rfl ?_
        refine E_getfield (v := .int (nI (qM t))) rfl w65 rfl (by decide) rfl ?_
        refine E_ic (t := 246) (b := false) rfl rfl ((cn_ge (nI_toInt (by omega)) (nI_toInt (by omega))).trans (decide_eq_false (by omega))) ?_
        refine E_iload_n rfl rfl ?_
        refine E_iload rfl rfl ?_
        refine E_ishr (z := nI (lft / 2 ^ p)) rfl (ab_shr (by omega) (by omega)) ?_
        refine E_iconst (x := nI 1) rfl (by decide) ?_
        refine E_iand (z := nI (qBit lft p)) rfl (ab_and1 (by omega)) ?_
        refine E_if (t := 119) (b := true) rfl rfl ((cn_ne (nI_toInt (by omega)) (by decide : (0 : Int32).toInt = 0)).trans (decide_eq_true (by omega))) ?_
        refine E_aload_n rfl rfl ?_
        refine E_getfield (v := .ref 90) rfl w65 rfl (by decide) rfl ?_
        refine E_iload_n rfl rfl ?_
        refine E_iload rfl rfl ?_
        refine E_iasI (l := oo) (cs2 := (ww im lf s d k ls rf rz ra rn rq lt m1 m2 m3 m4 bd fc hd sz el t g fm hm so si sh ce ca td wa kp la bf (oo.set kk (nI p)) bo pw ow tr)) rfl w90 (by omega) (by omega) rfl ?_
        refine E_aload_n rfl rfl ?_
        refine E_iload rfl rfl ?_
        refine E_callV (v := none) (As := [.ref 65, .int (nI p)]) (r0 := []) (cs2 := (ww im lf s d k ls rf rz ra rn rq lt m1 m2 m3 m4 bd fc hd sz el t (fUp (fUp g 36 (-1)) 37 (-1)) fm hm so si sh ce ca td wa kp la (lsF (bst t (qPs t 99 (qN t)) (qN t) (2 ^ qN t))) (oo.set kk (nI p)) bo pw ow tr)) rfl rfl rfl (Nat.le_of_ble_eq_true rfl) rfl (ab_rvOf w65 rfl) (Ev.to (w_throw It (by omega) l_bf) (by unfold thA thB; rw [if_neg (by omega), if_neg (by omega)])) (by omega) w_lens ?_
        refine E_aload_n rfl rfl ?_
        refine E_getfield (v := .int (-1)) rfl w65 rfl (by decide) rfl ?_
        refine E_iconst (x := (-1)) rfl (by decide) ?_
        refine E_ic (t := 145) (b := true) rfl rfl (by decide) ?_
        refine E_iconst (x := nI 0) rfl (by decide) ?_
        refine E_istore (L2 := [some (.ref 65), some (.int (nI kk)), some (.int (nI lft)), some (.int (nI dn)), some (.int (nI p)), some (.int (nI 0)), x6]) rfl rfl ?_
        refine E_iload rfl rfl ?_
        refine E_if (t := 175) (b := true) rfl rfl (by decide) ?_
        refine E_aload_n rfl rfl ?_
        refine E_iload_n rfl rfl ?_
        refine E_iconst (x := nI 1) rfl (by decide) ?_
        refine E_iadd (z := nI (kk + 1)) rfl (nI_add _ _) ?_
        refine E_iload_n rfl rfl ?_
        refine E_iconst (x := nI 1) rfl (by decide) ?_
        refine E_iload rfl rfl ?_
        refine E_ishl (z := nI (2 ^ p)) rfl (ab_shl (by omega)) ?_
        refine E_isub (z := nI (lft - (2 ^ p))) rfl (pk_sub (by omega)) ?_
        refine E_iload rfl rfl ?_
        refine E_if (t := 196) (b := true) rfl rfl (by decide) ?_
        refine E_iload_n rfl rfl ?_
        refine E_callV (v := none) (As := [.ref 65, .int (nI (kk + 1)), .int (nI (lft - (2 ^ p))), .int (nI dn)]) (r0 := []) (cs2 := (ww im lf s d k ls rf rz ra rn rq lt m1 m2 m3 m4 bd fc hd sz el t1 g1 fm hm so si sh ce ca td wa kp la bf1 oo1 bo1 pw1 ow1 tr)) rfl rfl rfl (Nat.le_of_ble_eq_true rfl) rfl (ab_rvOf w65 rfl) E1 (by omega) w_lens ?_
        refine E_aload_n rfl rfl ?_
        refine E_aload_n rfl rfl ?_
        refine E_getfield (v := .ref 71) rfl w65 rfl (by decide) rfl ?_
        refine E_bipush (x := nI 6) rfl (by decide) ?_
        refine E_aload_n rfl rfl ?_
        refine E_getfield (v := .ref 92) rfl w65 rfl (by decide) rfl ?_
        refine E_bipush (x := nI 6) rfl (by decide) ?_
        refine E_iload_n rfl rfl ?_
        refine E_imul (z := nI (6 * kk)) rfl (pk_mul _ _) ?_
        refine E_iconst (x := nI 1) rfl (by decide) ?_
        refine E_callV (v := some (.int (nI ((6 * kk) + 6)))) (As := [.ref 65, .ref 71, .int (nI 6), .ref 92, .int (nI (6 * kk)), .int (nI 1)]) (r0 := []) (cs2 := (ww im lf s d k ls rf rz ra rn rq lt m1 m2 m3 m4 bd fc hd sz el (qs_U t1 (qU t)) g1 fm hm so si sh ce ca td wa kp la bf1 oo1 bo1 pw1 ow1 tr)) rfl rfl rfl (Nat.le_of_ble_eq_true rfl) rfl (ab_rvOf w65 rfl) (Ev.to (mo_cgB (gl := 42) w71 w92 (by rw [List.length_map]; omega) (by decide) (by omega) (by omega) (by decide)) (by rw [hcU]; exact w_pt65_U)) (by omega) w_lens ?_
        refine E_pop rfl rfl ?_
        refine E_aload_n rfl rfl ?_
        refine E_aload_n rfl rfl ?_
        refine E_getfield (v := .ref 70) rfl w65 rfl (by decide) rfl ?_
        refine E_bipush (x := nI 9) rfl (by decide) ?_
        refine E_aload_n rfl rfl ?_
        refine E_getfield (v := .ref 93) rfl w65 rfl (by decide) rfl ?_
        refine E_bipush (x := nI 9) rfl (by decide) ?_
        refine E_iload_n rfl rfl ?_
        refine E_imul (z := nI (9 * kk)) rfl (pk_mul _ _) ?_
        refine E_iconst (x := nI 1) rfl (by decide) ?_
        refine E_callV (v := some (.int (nI ((9 * kk) + 9)))) (As := [.ref 65, .ref 70, .int (nI 9), .ref 93, .int (nI (9 * kk)), .int (nI 1)]) (r0 := []) (cs2 := (ww im lf s d k ls rf rz ra rn rq lt m1 m2 m3 m4 bd fc hd sz el (qs_P (qs_U t1 (qU t)) (qP t)) g1 fm hm so si sh ce ca td wa kp la bf1 oo1 bo1 pw1 ow1 tr)) rfl rfl rfl (Nat.le_of_ble_eq_true rfl) rfl (ab_rvOf w65 rfl) (Ev.to (mo_cgB (gl := 63) (w70v qg_PU) w93 (by rw [List.length_map]; omega) (by decide) (by omega) (by omega) (by decide)) (by rw [hcP]; exact w_pt65_P)) (by omega) w_lens ?_
        refine E_pop rfl rfl ?_
        refine E_iinc (y := nI (p + 1)) (L2 := [some (.ref 65), some (.int (nI kk)), some (.int (nI lft)), some (.int (nI dn)), some (.int (nI (p + 1))), some (.int (nI 0)), x6]) rfl rfl (nI_1 _) rfl ?_
        refine E_goto (t := 98) rfl rfl ?_
        exact K3
set_option maxHeartbeats 1000000 in
theorem rn_h {q : ab_q} (h6 : qM q ≤ 6) : ∀ (h kk lft dn : Nat) (t : ab_q) (g : Nat → Int32) (oo bo pw ow bf : List Int32), kk + h = qM q → rnA q kk lft dn t → (rnF q (g 42) bo ∨ (g 42 = -1 ∧ lft = 2 ^ qM q - 2 ^ kk ∧ ∀ i, i < kk → oo.getD i 0 = nI i)) → rnZs oo bo pw ow bf → ∃ (t1 : ab_q) (g1 : Nat → Int32) (oo1 bo1 pw1 ow1 bf1 : List Int32), Ev ab_Z0 ((7 + h) + 1) 184 [.ref 65, .int (nI kk), .int (nI lft), .int (nI dn)] (ww im lf s d k ls rf rz ra rn rq lt m1 m2 m3 m4 bd fc hd sz el t g fm hm so si sh ce ca td wa kp la bf oo bo pw ow tr) (none, (ww im lf s d k ls rf rz ra rn rq lt m1 m2 m3 m4 bd fc hd sz el t1 g1 fm hm so si sh ce ca td wa kp la bf1 oo1 bo1 pw1 ow1 tr)) ∧ rnO q kk t t1 g g1 oo pw ow oo1 bo1 pw1 ow1 bf1 := by
  intro h
  induction h with
  | zero =>
    intro kk lft dn t g oo bo pw ow bf hi ha hmo hn
    exact rn_leaf (h := 0) h6 (by omega) ha hmo hn
  | succ h ih =>
    intro kk lft dn t g oo bo pw ow bf hi ha hmo hn
    have ha2 := ha
    obtain ⟨hs, It, hu, hl5, hqq, hdd⟩ := ha
    obtain ⟨l_oo, l_bo, l_pw, l_ow, l_bf⟩ := hn
    have hMt : qM t = qM q := hs.2.2.2.2.2.2.2.1
    have hcl := rnC_le q (qM q)
    have lU : (qU t).length = 6 := It.2.1.1
    have lP : (qP t).length = 9 := It.1.2.2.2
    have lU2 : ((qU t).map nI).length = 6 := by rw [List.length_map]; exact lU
    have lP2 : ((qP t).map nI).length = 9 := by rw [List.length_map]; exact lP
    have q1 : ∀ i, i < 6 → (ab_cp ((qU t).map nI) pw 0 (6 * kk) 6).getD (6 * kk + i) 0 = ((qU t).map nI).getD i 0 := fun i hi => by
      rw [ab_cp_get (by omega) (by omega), if_pos ⟨by omega, by omega⟩]
      exact congrArg (fun z => ((qU t).map nI).getD z 0) (by omega)
    have q2 : ∀ i, i < 9 → (ab_cp ((qP t).map nI) ow 0 (9 * kk) 9).getD (9 * kk + i) 0 = ((qP t).map nI).getD i 0 := fun i hi => by
      rw [ab_cp_get (by omega) (by omega), if_pos ⟨by omega, by omega⟩]
      exact congrArg (fun z => ((qP t).map nI).getD z 0) (by omega)
    obtain ⟨t1, g1, oo1, bo1, pw1, ow1, bf1, K1, hO⟩ := rn_loop (h := h + 1) h6 (by omega) (fun lft dn t g oo bo pw ow bf a b z => ih (kk + 1) lft dn t g oo bo pw ow bf (by omega) a b z) (qM q) 0 t g oo bo (ab_cp ((qU t).map nI) pw 0 (6 * kk) 6) (ab_cp ((qP t).map nI) ow 0 (9 * kk) 9) bf none none (Nat.zero_add _) ha2 (Or.imp_right (fun z => ⟨z.1, Nat.zero_le _, z.2⟩) hmo) ⟨l_oo, l_bo, (ab_cpl (by omega) (by omega)).trans l_pw, (ab_cpl (by omega) (by omega)).trans l_ow, l_bf⟩ q1 q2
    obtain ⟨s1, I1, u1, p1, gg1, f1, n1, o1, w1, v1⟩ := hO
    refine ⟨t1, g1, oo1, bo1, pw1, ow1, bf1, ?_, s1, I1, u1, p1, gg1, f1, n1, o1, fun i hi => (w1 i hi).trans ?_, fun i hi => (v1 i hi).trans ?_⟩
    · refine Ef.in (md := mX6_runs) (L := [some (.ref 65), some (.int (nI kk)), some (.int (nI lft)), some (.int (nI dn)), none, none, none]) rfl (Nat.le_of_ble_eq_true rfl) rfl ?_
      have : (qU t).length = 6 := by first | omega | (simp only [List.length_set]; omega)
      have : (qP t).length = 9 := by first | omega | (simp only [List.length_set]; omega)
      refine E_iload_n rfl rfl ?_
      refine E_aload_n rfl rfl ?_
      refine E_getfield (v := .int (nI (qM t))) rfl w65 rfl (by decide) rfl ?_
      refine E_ic (t := 55) (b := true) rfl rfl ((cn_ne (nI_toInt (by omega)) (nI_toInt (by omega))).trans (decide_eq_true (by omega))) ?_
      refine E_aload_n rfl rfl ?_
      refine E_aload_n rfl rfl ?_
      refine E_getfield (v := .ref 71) rfl w65 rfl (by decide) rfl ?_
      refine E_bipush (x := nI 6) rfl (by decide) ?_
      refine E_aload_n rfl rfl ?_
      refine E_getfield (v := .ref 92) rfl w65 rfl (by decide) rfl ?_
      refine E_bipush (x := nI 6) rfl (by decide) ?_
      refine E_iload_n rfl rfl ?_
      refine E_imul (z := nI (6 * kk)) rfl (pk_mul _ _) ?_
      refine E_iconst (x := nI 0) rfl (by decide) ?_
      refine E_callV (v := some (.int (nI ((6 * kk) + 6)))) (As := [.ref 65, .ref 71, .int (nI 6), .ref 92, .int (nI (6 * kk)), .int (nI 0)]) (r0 := []) (cs2 := (ww im lf s d k ls rf rz ra rn rq lt m1 m2 m3 m4 bd fc hd sz el t g fm hm so si sh ce ca td wa kp la bf oo bo (ab_cp ((qU t).map nI) pw 0 (6 * kk) 6) ow tr)) rfl rfl rfl (Nat.le_of_ble_eq_true rfl) rfl (ab_rvOf w65 rfl) (Ev.to (mo_cgO (gl := 42) w71 w92 (by rw [List.length_map]; omega) (by decide) (by omega) (by omega) (by decide)) rfl) (by omega) w_lens ?_
      refine E_pop rfl rfl ?_
      refine E_aload_n rfl rfl ?_
      refine E_aload_n rfl rfl ?_
      refine E_getfield (v := .ref 70) rfl w65 rfl (by decide) rfl ?_
      refine E_bipush (x := nI 9) rfl (by decide) ?_
      refine E_aload_n rfl rfl ?_
      refine E_getfield (v := .ref 93) rfl w65 rfl (by decide) rfl ?_
      refine E_bipush (x := nI 9) rfl (by decide) ?_
      refine E_iload_n rfl rfl ?_
      refine E_imul (z := nI (9 * kk)) rfl (pk_mul _ _) ?_
      refine E_iconst (x := nI 0) rfl (by decide) ?_
      refine E_callV (v := some (.int (nI ((9 * kk) + 9)))) (As := [.ref 65, .ref 70, .int (nI 9), .ref 93, .int (nI (9 * kk)), .int (nI 0)]) (r0 := []) (cs2 := (ww im lf s d k ls rf rz ra rn rq lt m1 m2 m3 m4 bd fc hd sz el t g fm hm so si sh ce ca td wa kp la bf oo bo (ab_cp ((qU t).map nI) pw 0 (6 * kk) 6) (ab_cp ((qP t).map nI) ow 0 (9 * kk) 9) tr)) rfl rfl rfl (Nat.le_of_ble_eq_true rfl) rfl (ab_rvOf w65 rfl) (Ev.to (mo_cgO (gl := 63) w70 w93 (by rw [List.length_map]; omega) (by decide) (by omega) (by omega) (by decide)) rfl) (by omega) w_lens ?_
      refine E_pop rfl rfl ?_
      refine E_iconst (x := nI 0) rfl (by decide) ?_
      refine E_istore (L2 := [some (.ref 65), some (.int (nI kk)), some (.int (nI lft)), some (.int (nI dn)), some (.int (nI 0)), none, none]) rfl rfl ?_
      exact K1
    · rw [ab_cp_get (by omega) (by omega), if_neg (by omega)]
    · rw [ab_cp_get (by omega) (by omega), if_neg (by omega)]
theorem rn_go (I : qI t) (hn : rnZs oo bo pw ow bf) : ∃ (t1 : ab_q) (g1 : Nat → Int32) (oo1 bo1 pw1 ow1 bf1 : List Int32), Ev ab_Z0 14 184 [.ref 65, .int (nI 0), .int (nI (2 ^ qM t - 1)), .int (nI 0)] (ww im lf s d k ls rf rz ra rn rq lt m1 m2 m3 m4 bd fc hd sz el t (fUp g 42 (-1)) fm hm so si sh ce ca td wa kp la bf oo bo pw ow tr) (none, (ww im lf s d k ls rf rz ra rn rq lt m1 m2 m3 m4 bd fc hd sz el t1 g1 fm hm so si sh ce ca td wa kp la bf1 oo1 bo1 pw1 ow1 tr)) ∧ rnO t 0 t t1 (fUp g 42 (-1)) g1 oo pw ow oo1 bo1 pw1 ow1 bf1 := by
  have h6 := I.2.2.1.2
  have e := rn_top (q := t) h6 (qM t) (Nat.le_refl _)
  obtain ⟨t1, g1, oo1, bo1, pw1, ow1, bf1, K1, hO⟩ := rn_h (q := t) (im := im) (lf := lf) (s := s) (d := d) (k := k) (ls := ls) (rf := rf) (rz := rz) (ra := ra) (rn := rn) (rq := rq) (lt := lt) (m1 := m1) (m2 := m2) (m3 := m3) (m4 := m4) (bd := bd) (fc := fc) (hd := hd) (sz := sz) (el := el) (fm := fm) (hm := hm) (so := so) (si := si) (sh := sh) (ce := ce) (ca := ca) (td := td) (wa := wa) (kp := kp) (la := la) (tr := tr) h6 (qM t) 0 (2 ^ qM t - 1) 0 t (fUp g 42 (-1)) oo bo pw ow bf (Nat.zero_add _) ⟨smQ.refl, I, fun x _ _ => rfl, pow_512 _ h6, by omega, by omega⟩ (Or.inr ⟨rfl, rfl, fun i hi => absurd hi (Nat.not_lt_zero i)⟩) hn
  exact ⟨t1, g1, oo1, bo1, pw1, ow1, bf1, K1.up (by omega), hO⟩
set_option maxHeartbeats 1000000 in
theorem rn_c {y1 : Int32} (I : qI s) : ∀ n0 v , v + n0 = qM s → Ef ab_Z0 4 mX5_run (33, [some (.ref 0), some (.int y1), some (.int (nI (rnC s v))), some (.int (nI v))], [], (ww im lf s d k ls rf rz ra rn rq lt m1 m2 m3 m4 bd fc hd sz el t g fm hm so si sh ce ca td wa kp la bf oo bo pw ow tr)) (some (.int (nI (rnC s (qM s)))), (ww im lf s d k ls rf rz ra rn rq lt m1 m2 m3 m4 bd fc hd sz el t g fm hm so si sh ce ca td wa kp la bf oo bo pw ow tr)) := by
  have h6 := I.2.2.1.2
  intro n0
  induction n0 with
  | zero =>
    intro v  hi
    have hi : v = qM s := by omega
    rw [hi]
    refine E_iload_n rfl rfl ?_
    refine E_aload_n rfl rfl ?_
    refine E_getfield (v := .ref 1) rfl w0 rfl (by decide) rfl ?_
    refine E_getfield (v := .int (nI (qM s))) rfl w1 rfl (by decide) rfl ?_
    refine E_ic (t := 65) (b := true) rfl rfl ((cn_ge (nI_toInt (by omega)) (nI_toInt (by omega))).trans (decide_eq_true (by omega))) ?_
    refine E_iload_n rfl rfl ?_
    exact E_iret rfl rfl
  | succ n0 ih =>
    intro v  hi
    rcases Nat.lt_or_ge ((qU s).getD v 0) (qPr s v ((qW s).getD v 0)) with hc | hc
    · have hcl := rnC_le s v
      have hU := I.2.2.2.2.1 v (by omega)
      have hr := (qPr_in I v (w := (qW s).getD v 0) (by omega)).1
      refine E_iload_n rfl rfl ?_
      refine E_aload_n rfl rfl ?_
      refine E_getfield (v := .ref 1) rfl w0 rfl (by decide) rfl ?_
      refine E_getfield (v := .int (nI (qM s))) rfl w1 rfl (by decide) rfl ?_
      refine E_ic (t := 65) (b := false) rfl rfl ((cn_ge (nI_toInt (by omega)) (nI_toInt (by omega))).trans (decide_eq_false (by omega))) ?_
      refine E_aload_n rfl rfl ?_
      refine E_getfield (v := .ref 1) rfl w0 rfl (by decide) rfl ?_
      refine E_iload_n rfl rfl ?_
      refine E_callV (v := some (.int (-1))) (As := [.ref 1, .int (nI v)]) (r0 := []) (cs2 := (ww im lf s d k ls rf rz ra rn rq lt m1 m2 m3 m4 bd fc hd sz el t g fm hm so si sh ce ca td wa kp la bf oo bo pw ow tr)) rfl rfl rfl (Nat.le_of_ble_eq_true rfl) rfl (ab_rvOf w1 rfl) (Ev.vi (show qBest s v = _ from if_neg (by omega)) (sq_bestThrow w_q1 I (by omega))) (by decide) rfl ?_
      refine E_iconst (x := (-1)) rfl (by decide) ?_
      refine E_ic (t := 59) (b := true) rfl rfl (by decide) ?_
      refine E_iinc (y := nI (v + 1)) (L2 := [some (.ref 0), some (.int y1), some (.int (nI (rnC s v))), some (.int (nI (v + 1)))]) rfl rfl (nI_1 _) rfl ?_
      refine E_goto (t := 33) rfl rfl ?_
      have e : rnC s (v + 1) = rnC s v + 0 := congrArg (rnC s v + ·) (if_neg (by omega))
      have X := ih (v + 1) (by omega)
      rw [e] at X
      exact X
    · have hcl := rnC_le s v
      have hU := I.2.2.2.2.1 v (by omega)
      have hr := (qPr_in I v (w := (qW s).getD v 0) (by omega)).1
      refine E_iload_n rfl rfl ?_
      refine E_aload_n rfl rfl ?_
      refine E_getfield (v := .ref 1) rfl w0 rfl (by decide) rfl ?_
      refine E_getfield (v := .int (nI (qM s))) rfl w1 rfl (by decide) rfl ?_
      refine E_ic (t := 65) (b := false) rfl rfl ((cn_ge (nI_toInt (by omega)) (nI_toInt (by omega))).trans (decide_eq_false (by omega))) ?_
      refine E_aload_n rfl rfl ?_
      refine E_getfield (v := .ref 1) rfl w0 rfl (by decide) rfl ?_
      refine E_iload_n rfl rfl ?_
      refine E_callV (v := some (.int (nI (qPr s v ((qW s).getD v 0))))) (As := [.ref 1, .int (nI v)]) (r0 := []) (cs2 := (ww im lf s d k ls rf rz ra rn rq lt m1 m2 m3 m4 bd fc hd sz el t g fm hm so si sh ce ca td wa kp la bf oo bo pw ow tr)) rfl rfl rfl (Nat.le_of_ble_eq_true rfl) rfl (ab_rvOf w1 rfl) (Ev.vi (show qBest s v = _ from if_pos (by omega)) (sq_bestThrow w_q1 I (by omega))) (by decide) rfl ?_
      refine E_iconst (x := (-1)) rfl (by decide) ?_
      refine E_ic (t := 59) (b := false) rfl rfl ((cn_eq (nI_toInt (by omega)) (by decide : (-1 : Int32).toInt = -1)).trans (decide_eq_false (by omega))) ?_
      refine E_iinc (y := nI (rnC s v + 1)) (L2 := [some (.ref 0), some (.int y1), some (.int (nI (rnC s v + 1))), some (.int (nI v))]) rfl rfl (nI_1 _) rfl ?_
      refine E_iinc (y := nI (v + 1)) (L2 := [some (.ref 0), some (.int y1), some (.int (nI (rnC s v + 1))), some (.int (nI (v + 1)))]) rfl rfl (nI_1 _) rfl ?_
      refine E_goto (t := 33) rfl rfl ?_
      have e : rnC s (v + 1) = rnC s v + 1 := congrArg (rnC s v + ·) (if_pos (by omega))
      have X := ih (v + 1) (by omega)
      rw [e] at X
      exact X
end RN
