/-! days by draws; by program (wip/tools/mkdays.py) -/
def dnS (q : ab_q) : ab_q := qs_S q (qSd q)
def dn1 (q : ab_q) : ab_q := qs_D q (qD q + nI 1)
def dn2 (q : ab_q) : ab_q := dnS (dn1 q)
def dnP (q : ab_q) : Nat := qDr (dn1 q) (qM q)
def dnV (q : ab_q) : Nat := if (qU (dn2 q)).getD (dnP q) 0 + qDr (dn2 q) 20 ≤ 99 then (qU (dn2 q)).getD (dnP q) 0 + qDr (dn2 q) 20 else 99
def dn3 (q : ab_q) : ab_q := qs_U (dnS (dn2 q)) ((qU (dnS (dn2 q))).set (dnP q) (dnV q))
def dn4 (q : ab_q) : ab_q := qs_W (dnS (dn3 q)) ((qW (dnS (dn3 q))).set (dnP q) (qDr (dn3 q) 8))
def dnX (q : ab_q) : Nat := qDr (dn4 q) (qN (dn4 q))
def dnx (q : ab_q) : ab_q := if qPr (dn4 q) (dnP q) ((qW (dn4 q)).getD (dnP q) 0) ≤ (qU (dn4 q)).getD (dnP q) 0 then grQ (dn4 q) (dnP q) (qPr (dn4 q) (dnP q) ((qW (dn4 q)).getD (dnP q) 0)) 0 else if qN (dn4 q) = 0 then dn4 q else if (qP (dnS (dn4 q))).getD (dnX q) 0 = dnP q then qs_P (dnS (dn4 q)) ((qP (dnS (dn4 q))).set (dnX q) 99) else dnS (dn4 q)
theorem dnS_I {q : ab_q} (I : qI q) : qI (dnS q) := qI_S I
theorem dn1_I {q : ab_q} (I : qI q) : qI (dn1 q) := qI_D I
theorem dn2_I {q : ab_q} (I : qI q) : qI (dn2 q) := dnS_I (dn1_I I)
theorem dnV_99 (q : ab_q) : dnV q ≤ 99 := by
  unfold dnV
  split <;> omega
theorem dn3_I {q : ab_q} (I : qI q) : qI (dn3 q) := kU (dnS_I (dn2_I I)) (dnV_99 q)
theorem dr_lt (q : ab_q) {n : Nat} (h : 0 < n) : qDr q n < n := Nat.mod_lt _ h
theorem dn4_I {q : ab_q} (I : qI q) : qI (dn4 q) := kW (dnS_I (dn3_I I)) (Nat.le_of_lt_succ (dr_lt (dn3 q) (by decide)))
theorem dnP_lt {q : ab_q} (h : 0 < qM q) : dnP q < qM q := dr_lt _ h
theorem dnS_M (q : ab_q) : qM (dnS q) = qM q := qg_MS
theorem dnS_N (q : ab_q) : qN (dnS q) = qN q := qg_NS
theorem dnS_U (q : ab_q) : qU (dnS q) = qU q := qg_US
theorem dnS_W (q : ab_q) : qW (dnS q) = qW q := qg_WS
theorem dnS_P (q : ab_q) : qP (dnS q) = qP q := qg_PS
theorem dn2_M (q : ab_q) : qM (dn2 q) = qM q := (dnS_M (dn1 q)).trans qg_MD
theorem dn2_N (q : ab_q) : qN (dn2 q) = qN q := (dnS_N (dn1 q)).trans qg_ND
theorem dn3_M (q : ab_q) : qM (dn3 q) = qM q := Eq.trans (qg_MU (s := dnS (dn2 q))) ((dnS_M _).trans (dn2_M q))
theorem dn3_N (q : ab_q) : qN (dn3 q) = qN q := Eq.trans (qg_NU (s := dnS (dn2 q))) ((dnS_N _).trans (dn2_N q))
theorem dn4_M (q : ab_q) : qM (dn4 q) = qM q := Eq.trans (qg_MW (s := dnS (dn3 q))) ((dnS_M _).trans (dn3_M q))
theorem dn4_N (q : ab_q) : qN (dn4 q) = qN q := Eq.trans (qg_NW (s := dnS (dn3 q))) ((dnS_N _).trans (dn3_N q))
theorem grQ_M {q : ab_q} {p u b : Nat} : qM (grQ q p u b) = qM q := rfl
theorem dnx_I {q : ab_q} (I : qI q) (h : 0 < qM q) : qI (dnx q) := by
  unfold dnx
  split
  · exact grQ_I (dn4_I I) (by rw [dn4_M]; exact dnP_lt h)
  · split
    · exact dn4_I I
    · split
      · exact kP (dnS_I (dn4_I I)) (Or.inl rfl)
      · exact dnS_I (dn4_I I)
theorem dnx_M (q : ab_q) : qM (dnx q) = qM q := by
  unfold dnx
  split
  · rw [grQ_M, dn4_M]
  · split
    · rw [dn4_M]
    · split
      · rw [qg_MP, dnS_M, dn4_M]
      · rw [dnS_M, dn4_M]
theorem dnx_N (q : ab_q) : qN (dnx q) = qN q := by
  unfold dnx
  split
  · rw [grQ_N, dn4_N]
  · split
    · rw [dn4_N]
    · split
      · rw [qg_NP, dnS_N, dn4_N]
      · rw [dnS_N, dn4_N]
def dnI (q : ab_q) : Nat → ab_q
  | 0 => q
  | v + 1 => dnx (dnI q v)
theorem dnI_I {q : ab_q} (I : qI q) (h : 0 < qM q) : ∀ v, qI (dnI q v) ∧ qM (dnI q v) = qM q ∧ qN (dnI q v) = qN q
  | 0 => ⟨I, rfl, rfl⟩
  | v + 1 => by
    obtain ⟨a, b, c⟩ := dnI_I I h v
    exact ⟨dnx_I a (b ▸ h), (dnx_M _).trans b, (dnx_N _).trans c⟩
theorem ab_min99 {a : Nat} (h : a < 2 ^ 31) : (if nI 99 < nI a then nI 99 else nI a) = nI (if a ≤ 99 then a else 99) := by
  by_cases c : a ≤ 99
  · rw [if_pos c, if_neg]
    exact fun z => by
      have := Int32.lt_iff_toInt_lt.mp z
      rw [nI_toInt (by decide), nI_toInt h] at this
      omega
  · rw [if_neg c, if_pos]
    refine Int32.lt_iff_toInt_lt.mpr ?_
    rw [nI_toInt (by decide), nI_toInt h]
    omega
theorem qs_UU {s : ab_q} {l1 l2 : List Nat} : qs_U (qs_U s l1) l2 = qs_U s l2 := rfl
theorem dn3_a {q : ab_q} (h : (qU (dn2 q)).getD (dnP q) 0 + qDr (dn2 q) 20 ≤ 99) : qs_U (dnS (dn2 q)) ((qU (dnS (dn2 q))).set (dnP q) ((qU (dn2 q)).getD (dnP q) 0 + qDr (dn2 q) 20)) = dn3 q := by
  unfold dn3 dnV
  rw [if_pos h]
theorem dn3_b {q : ab_q} (h : ¬ (qU (dn2 q)).getD (dnP q) 0 + qDr (dn2 q) 20 ≤ 99) : qs_U (qs_U (dnS (dn2 q)) ((qU (dnS (dn2 q))).set (dnP q) ((qU (dn2 q)).getD (dnP q) 0 + qDr (dn2 q) 20))) (((qU (dnS (dn2 q))).set (dnP q) ((qU (dn2 q)).getD (dnP q) 0 + qDr (dn2 q) 20)).set (dnP q) 99) = dn3 q := by
  unfold dn3 dnV
  rw [if_neg h, List.set_set, qs_UU]
section DN
variable {im : Int32} {lf : Int32} {s : ab_q} {d : ab_q} {k : ab_q} {ls : List Int32} {rf : Int32} {rz : Int32} {ra : Int32} {rn : Int32} {rq : ab_q} {lt : List Int32} {m1 : Int32} {m2 : Int32} {m3 : Int32} {m4 : Int32} {bd : List Int32} {fc : List Int32} {hd : Nat → Int32} {sz : Nat → Int32} {el : Nat → List Int64} {t : ab_q} {g : Nat → Int32} {fm : List Int32} {hm : List Nat} {so : List Nat} {si : List Nat} {sh : List Int32} {ce : List Int64} {ca : List Int64} {td : List Int32} {wa : List Int32} {kp : List Int32} {la : List Int32} {bf : List Int32} {oo : List Int32} {bo : List Int32} {pw : List Int32} {ow : List Int32} {tr : List Int32}
theorem w_draw1 {n : Nat} (hn : 1 ≤ n) (hn2 : n < 2147483648) : Ev ab_Z0 1 72 [.ref 1, .int (nI n)] (ww im lf s d k ls rf rz ra rn rq lt m1 m2 m3 m4 bd fc hd sz el t g fm hm so si sh ce ca td wa kp la bf oo bo pw ow tr) (some (.int (nI (qDr s n))), (ww im lf (dnS s) d k ls rf rz ra rn rq lt m1 m2 m3 m4 bd fc hd sz el t g fm hm so si sh ce ca td wa kp la bf oo bo pw ow tr)) := by
  have hsd := qSd_lt s
  show Ev ab_Z0 1 72 [.ref 1, .int (nI n)] (ww im lf s d k ls rf rz ra rn rq lt m1 m2 m3 m4 bd fc hd sz el t g fm hm so si sh ce ca td wa kp la bf oo bo pw ow tr) (some (.int (nI (qDr s n))), (ww im lf (qs_S s (qSd s)) d k ls rf rz ra rn rq lt m1 m2 m3 m4 bd fc hd sz el t g fm hm so si sh ce ca td wa kp la bf oo bo pw ow tr))
  refine Ef.in (md := mX4_draw) (L := [some (.ref 1), some (.int (nI n))]) rfl (Nat.le_of_ble_eq_true rfl) rfl ?_
  refine E_iload_n rfl rfl ?_
  refine E_iconst (x := nI 1) rfl (by decide) ?_
  refine E_ic (t := 7) (b := true) rfl rfl ((cn_ge (nI_toInt (by omega)) (nI_toInt (by omega))).trans (decide_eq_true (by omega))) ?_
  refine E_aload_n rfl rfl ?_
  refine E_aload_n rfl rfl ?_
  refine E_getfield (v := .int (qS s)) rfl w1 rfl (by decide) rfl ?_
  refine E_ldc (x := nI 1103515245) rfl (by decide) ?_
  refine E_imul (z := (qS s) * (nI 1103515245)) rfl rfl ?_
  refine E_sipush (x := nI 12345) rfl (by decide) ?_
  refine E_iadd (z := (qSd s)) rfl rfl ?_
  refine E_putfield (cs2 := (ww im lf (qs_S s (qSd s)) d k ls rf rz ra rn rq lt m1 m2 m3 m4 bd fc hd sz el t g fm hm so si sh ce ca td wa kp la bf oo bo pw ow tr)) rfl w1 rfl (by decide) (Nat.le_of_ble_eq_true rfl) rfl rfl rfl w_pt1_S ?_
  refine E_aload_n rfl rfl ?_
  refine E_getfield (v := .int (qSd s)) rfl w1 rfl (by decide) (congrArg (fun z => some (Value.int z)) qg_SS) ?_
  refine E_bipush (x := nI 16) rfl (by decide) ?_
  refine E_iushr (z := nI ((qSd s).toBitVec.toNat / 65536)) rfl (qSd_sh s) ?_
  refine E_iload_n rfl rfl ?_
  refine E_irem (z := nI (qDr s n)) rfl (nI_ne0 (by omega) (by omega)) (pk_rem (by omega) (by omega) (by omega)) ?_
  exact E_iret rfl rfl
theorem w_draw65 {n : Nat} (hn : 1 ≤ n) (hn2 : n < 2147483648) : Ev ab_Z0 1 199 [.ref 65, .int (nI n)] (ww im lf s d k ls rf rz ra rn rq lt m1 m2 m3 m4 bd fc hd sz el t g fm hm so si sh ce ca td wa kp la bf oo bo pw ow tr) (some (.int (nI (qDr t n))), (ww im lf s d k ls rf rz ra rn rq lt m1 m2 m3 m4 bd fc hd sz el (dnS t) g fm hm so si sh ce ca td wa kp la bf oo bo pw ow tr)) := by
  have hsd := qSd_lt t
  show Ev ab_Z0 1 199 [.ref 65, .int (nI n)] (ww im lf s d k ls rf rz ra rn rq lt m1 m2 m3 m4 bd fc hd sz el t g fm hm so si sh ce ca td wa kp la bf oo bo pw ow tr) (some (.int (nI (qDr t n))), (ww im lf s d k ls rf rz ra rn rq lt m1 m2 m3 m4 bd fc hd sz el (qs_S t (qSd t)) g fm hm so si sh ce ca td wa kp la bf oo bo pw ow tr))
  refine Ef.in (md := mX6_draw) (L := [some (.ref 65), some (.int (nI n))]) rfl (Nat.le_of_ble_eq_true rfl) rfl ?_
  refine E_aload_n rfl rfl ?_
  refine E_aload_n rfl rfl ?_
  refine E_getfield (v := .int (qS t)) rfl w65 rfl (by decide) rfl ?_
  refine E_ldc_w (x := nI 1103515245) rfl (by decide) ?_
  refine E_imul (z := (qS t) * (nI 1103515245)) rfl rfl ?_
  refine E_sipush (x := nI 12345) rfl (by decide) ?_
  refine E_iadd (z := (qSd t)) rfl rfl ?_
  refine E_putfield (cs2 := (ww im lf s d k ls rf rz ra rn rq lt m1 m2 m3 m4 bd fc hd sz el (qs_S t (qSd t)) g fm hm so si sh ce ca td wa kp la bf oo bo pw ow tr)) rfl w65 rfl (by decide) (Nat.le_of_ble_eq_true rfl) rfl rfl rfl w_pt65_S ?_
  refine E_aload_n rfl rfl ?_
  refine E_getfield (v := .int (qSd t)) rfl w65 rfl (by decide) (congrArg (fun z => some (Value.int z)) qg_SS) ?_
  refine E_bipush (x := nI 16) rfl (by decide) ?_
  refine E_iushr (z := nI ((qSd t).toBitVec.toNat / 65536)) rfl (qSd_sh t) ?_
  refine E_iload_n rfl rfl ?_
  refine E_irem (z := nI (qDr t n)) rfl (nI_ne0 (by omega) (by omega)) (pk_rem (by omega) (by omega) (by omega)) ?_
  exact E_iret rfl rfl
set_option maxHeartbeats 1000000 in
theorem w_thrown0 {p m : Nat} (I : qI t) (hp : p < qM t) (hu : qPr t p ((qW t).getD p 0) ≤ (qU t).getD p 0) : Ev ab_Z0 4 176 [.ref 65, .int (nI p), .int (nI (qPr t p ((qW t).getD p 0)))] (ww im lf s d k ls rf rz ra rn rq lt m1 m2 m3 m4 bd fc hd sz el t g fm hm so si sh ce ca td wa kp la (lsF (bst t m (qN t) (2 ^ qN t))) oo bo pw ow tr) (some (.int (nI 0)), (ww im lf s d k ls rf rz ra rn rq lt m1 m2 m3 m4 bd fc hd sz el t g fm hm so si sh ce ca td wa kp la (lsF (bst t m (qN t) (2 ^ qN t))) oo bo pw ow tr)) := by
  have lU_ : (qU t).length = 6 := I.2.1.1
  have lW_ : (qW t).length = 6 := I.2.1.2.2.1
  have h9 := I.2.2.1.1
  have h6 := I.2.2.1.2
  have hU := I.2.2.2.2.1 p hp
  have hr := (qPr_in I p (w := (qW t).getD p 0) (by omega)).1
  rcases I.2.2.2.2.2.2 with er | er
  · rcases wgh_bst t m (qN t) 0 with ⟨eb0, fb0⟩ | ⟨B0, hB0, hs0, hw0, hb0, hk0⟩
    · have er2 : (qR t).toInt = 0 := by rw [er]; rfl
      have : (qW t).length = 6 := by first | omega | (simp only [List.length_set]; omega)
      have := qPr_in I p (w := ((qW t).getD p 0)) (by omega)
      have : (qU t).length = 6 := by first | omega | (simp only [List.length_set]; omega)
      have := lsF_len (bst t m (qN t) (2 ^ qN t))
      refine Ef.in (md := mX6_thrown) (L := [some (.ref 65), some (.int (nI p)), some (.int (nI (qPr t p ((qW t).getD p 0)))), none]) rfl (Nat.le_of_ble_eq_true rfl) rfl ?_
      refine E_iload_n rfl rfl ?_
      refine E_aload_n rfl rfl ?_
      refine E_iload_n rfl rfl ?_
      refine E_aload_n rfl rfl ?_
      refine E_getfield (v := .ref 73) rfl w65 rfl (by decide) rfl ?_
      refine E_iload_n rfl rfl ?_
      refine E_ialN (l := qW t) (v := (qW t).getD p 0) rfl w73 (by omega) (by omega) rfl ?_
      refine E_callV (v := some (.int (nI (qPr t p ((qW t).getD p 0))))) (As := [.ref 65, .int (nI p), .int (nI ((qW t).getD p 0))]) (r0 := [.int (nI (qPr t p ((qW t).getD p 0)))]) (cs2 := (ww im lf s d k ls rf rz ra rn rq lt m1 m2 m3 m4 bd fc hd sz el t g fm hm so si sh ce ca td wa kp la (lsF (bst t m (qN t) (2 ^ qN t))) oo bo pw ow tr)) rfl rfl rfl (Nat.le_of_ble_eq_true rfl) rfl (ab_rvOf w65 rfl) (mo_priceFor w_m I (by omega) (by omega)) (by decide) rfl ?_
      refine E_isub (z := nI 0) rfl (by rw [Int32.sub_self]; rfl) ?_
      refine E_istore_n (L2 := [some (.ref 65), some (.int (nI p)), some (.int (nI (qPr t p ((qW t).getD p 0)))), some (.int (nI 0))]) rfl rfl ?_
      refine E_aload_n rfl rfl ?_
      refine E_iload_n rfl rfl ?_
      refine E_iconst (x := nI 0) rfl (by decide) ?_
      refine E_bipush (x := nI 99) rfl (by decide) ?_
      have e1 : Ev ab_Z0 1 134 [.ref 65, .int (nI (qPr t p ((qW t).getD p 0))), .int (nI 0), .int (nI 99)] (ww im lf s d k ls rf rz ra rn rq lt m1 m2 m3 m4 bd fc hd sz el t g fm hm so si sh ce ca td wa kp la (lsF (bst t m (qN t) (2 ^ qN t))) oo bo pw ow tr) (some (.int (nI 1)), (ww im lf s d k ls rf rz ra rn rq lt m1 m2 m3 m4 bd fc hd sz el t g fm hm so si sh ce ca td wa kp la (lsF (bst t m (qN t) (2 ^ qN t))) oo bo pw ow tr)) := by
        refine Ef.in (md := mX6_isFrom) (L := [some (.ref 65), some (.int (nI (qPr t p ((qW t).getD p 0)))), some (.int (nI 0)), some (.int (nI 99))]) rfl (Nat.le_of_ble_eq_true rfl) rfl ?_
        refine E_iload_n rfl rfl ?_
        refine E_iload_n rfl rfl ?_
        refine E_ic (t := 14) (b := false) rfl rfl ((cn_lt (nI_toInt (by omega)) (nI_toInt (by omega))).trans (decide_eq_false (by omega))) ?_
        refine E_iload_n rfl rfl ?_
        refine E_iload_n rfl rfl ?_
        refine E_ic (t := 14) (b := false) rfl rfl ((cn_gt (nI_toInt (by omega)) (nI_toInt (by omega))).trans (decide_eq_false (by omega))) ?_
        refine E_iconst (x := nI 1) rfl (by decide) ?_
        refine E_goto (t := 15) rfl rfl ?_
        exact E_iret rfl rfl
      refine E_callV (v := some (.int (nI 1))) (As := [.ref 65, .int (nI (qPr t p ((qW t).getD p 0))), .int (nI 0), .int (nI 99)]) (r0 := []) (cs2 := (ww im lf s d k ls rf rz ra rn rq lt m1 m2 m3 m4 bd fc hd sz el t g fm hm so si sh ce ca td wa kp la (lsF (bst t m (qN t) (2 ^ qN t))) oo bo pw ow tr)) rfl rfl rfl (Nat.le_of_ble_eq_true rfl) rfl (ab_rvOf w65 rfl) e1 (by decide) rfl ?_
      refine E_if (t := 39) (b := false) rfl rfl (by decide) ?_
      refine E_iload_n rfl rfl ?_
      refine E_aload_n rfl rfl ?_
      refine E_getfield (v := .ref 71) rfl w65 rfl (by decide) rfl ?_
      refine E_iload_n rfl rfl ?_
      refine E_ialN (l := qU t) (v := (qU t).getD p 0) rfl w71 (by omega) (by omega) rfl ?_
      refine E_ic (t := 39) (b := false) rfl rfl ((cn_gt (nI_toInt (by omega)) (nI_toInt (by omega))).trans (decide_eq_false (by omega))) ?_
      refine E_iload_n rfl rfl ?_
      refine E_if (t := 43) (b := true) rfl rfl (by decide) ?_
      refine E_aload_n rfl rfl ?_
      refine E_iload_n rfl rfl ?_
      have e2 : Ev ab_Z0 1 172 [.ref 65, .int (nI 0)] (ww im lf s d k ls rf rz ra rn rq lt m1 m2 m3 m4 bd fc hd sz el t g fm hm so si sh ce ca td wa kp la (lsF (bst t m (qN t) (2 ^ qN t))) oo bo pw ow tr) (some (.int (nI 0)), (ww im lf s d k ls rf rz ra rn rq lt m1 m2 m3 m4 bd fc hd sz el t g fm hm so si sh ce ca td wa kp la (lsF (bst t m (qN t) (2 ^ qN t))) oo bo pw ow tr)) := by
        refine Ef.in (md := mX6_changeFor) (L := [some (.ref 65), some (.int (nI 0))]) rfl (Nat.le_of_ble_eq_true rfl) rfl ?_
        refine E_aload_n rfl rfl ?_
        refine E_getfield (v := .int (qR t)) rfl w65 rfl (by decide) rfl ?_
        refine E_if (t := 16) (b := false) rfl rfl ((cn_ne rfl (by decide : (0 : Int32).toInt = 0)).trans (decide_eq_false (by omega))) ?_
        refine E_aload_n rfl rfl ?_
        refine E_getfield (v := .ref 89) rfl w65 rfl (by decide) rfl ?_
        refine E_iload_n rfl rfl ?_
        refine E_ialI (l := (lsF (bst t m (qN t) (2 ^ qN t)))) (v := nI 0) rfl w89 (by omega) (by omega) (by rw [lsF_get (by omega), bst_00 I]; rfl) ?_
        refine E_goto (t := 21) rfl rfl ?_
        exact E_iret rfl rfl
      refine E_callV (v := some (.int (nI 0))) (As := [.ref 65, .int (nI 0)]) (r0 := []) (cs2 := (ww im lf s d k ls rf rz ra rn rq lt m1 m2 m3 m4 bd fc hd sz el t g fm hm so si sh ce ca td wa kp la (lsF (bst t m (qN t) (2 ^ qN t))) oo bo pw ow tr)) rfl rfl rfl (Nat.le_of_ble_eq_true rfl) rfl (ab_rvOf w65 rfl) e2 (by decide) rfl ?_
      exact E_iret rfl rfl
    · have er2 : (qR t).toInt = 0 := by rw [er]; rfl
      have : (qW t).length = 6 := by first | omega | (simp only [List.length_set]; omega)
      have := qPr_in I p (w := ((qW t).getD p 0)) (by omega)
      have : (qU t).length = 6 := by first | omega | (simp only [List.length_set]; omega)
      have := lsF_len (bst t m (qN t) (2 ^ qN t))
      have w9 : 2 ^ qN t ≤ 2 ^ 9 := Nat.pow_le_pow_right (by decide) (by omega)
      refine Ef.in (md := mX6_thrown) (L := [some (.ref 65), some (.int (nI p)), some (.int (nI (qPr t p ((qW t).getD p 0)))), none]) rfl (Nat.le_of_ble_eq_true rfl) rfl ?_
      refine E_iload_n rfl rfl ?_
      refine E_aload_n rfl rfl ?_
      refine E_iload_n rfl rfl ?_
      refine E_aload_n rfl rfl ?_
      refine E_getfield (v := .ref 73) rfl w65 rfl (by decide) rfl ?_
      refine E_iload_n rfl rfl ?_
      refine E_ialN (l := qW t) (v := (qW t).getD p 0) rfl w73 (by omega) (by omega) rfl ?_
      refine E_callV (v := some (.int (nI (qPr t p ((qW t).getD p 0))))) (As := [.ref 65, .int (nI p), .int (nI ((qW t).getD p 0))]) (r0 := [.int (nI (qPr t p ((qW t).getD p 0)))]) (cs2 := (ww im lf s d k ls rf rz ra rn rq lt m1 m2 m3 m4 bd fc hd sz el t g fm hm so si sh ce ca td wa kp la (lsF (bst t m (qN t) (2 ^ qN t))) oo bo pw ow tr)) rfl rfl rfl (Nat.le_of_ble_eq_true rfl) rfl (ab_rvOf w65 rfl) (mo_priceFor w_m I (by omega) (by omega)) (by decide) rfl ?_
      refine E_isub (z := nI 0) rfl (by rw [Int32.sub_self]; rfl) ?_
      refine E_istore_n (L2 := [some (.ref 65), some (.int (nI p)), some (.int (nI (qPr t p ((qW t).getD p 0)))), some (.int (nI 0))]) rfl rfl ?_
      refine E_aload_n rfl rfl ?_
      refine E_iload_n rfl rfl ?_
      refine E_iconst (x := nI 0) rfl (by decide) ?_
      refine E_bipush (x := nI 99) rfl (by decide) ?_
      have e1 : Ev ab_Z0 1 134 [.ref 65, .int (nI (qPr t p ((qW t).getD p 0))), .int (nI 0), .int (nI 99)] (ww im lf s d k ls rf rz ra rn rq lt m1 m2 m3 m4 bd fc hd sz el t g fm hm so si sh ce ca td wa kp la (lsF (bst t m (qN t) (2 ^ qN t))) oo bo pw ow tr) (some (.int (nI 1)), (ww im lf s d k ls rf rz ra rn rq lt m1 m2 m3 m4 bd fc hd sz el t g fm hm so si sh ce ca td wa kp la (lsF (bst t m (qN t) (2 ^ qN t))) oo bo pw ow tr)) := by
        refine Ef.in (md := mX6_isFrom) (L := [some (.ref 65), some (.int (nI (qPr t p ((qW t).getD p 0)))), some (.int (nI 0)), some (.int (nI 99))]) rfl (Nat.le_of_ble_eq_true rfl) rfl ?_
        refine E_iload_n rfl rfl ?_
        refine E_iload_n rfl rfl ?_
        refine E_ic (t := 14) (b := false) rfl rfl ((cn_lt (nI_toInt (by omega)) (nI_toInt (by omega))).trans (decide_eq_false (by omega))) ?_
        refine E_iload_n rfl rfl ?_
        refine E_iload_n rfl rfl ?_
        refine E_ic (t := 14) (b := false) rfl rfl ((cn_gt (nI_toInt (by omega)) (nI_toInt (by omega))).trans (decide_eq_false (by omega))) ?_
        refine E_iconst (x := nI 1) rfl (by decide) ?_
        refine E_goto (t := 15) rfl rfl ?_
        exact E_iret rfl rfl
      refine E_callV (v := some (.int (nI 1))) (As := [.ref 65, .int (nI (qPr t p ((qW t).getD p 0))), .int (nI 0), .int (nI 99)]) (r0 := []) (cs2 := (ww im lf s d k ls rf rz ra rn rq lt m1 m2 m3 m4 bd fc hd sz el t g fm hm so si sh ce ca td wa kp la (lsF (bst t m (qN t) (2 ^ qN t))) oo bo pw ow tr)) rfl rfl rfl (Nat.le_of_ble_eq_true rfl) rfl (ab_rvOf w65 rfl) e1 (by decide) rfl ?_
      refine E_if (t := 39) (b := false) rfl rfl (by decide) ?_
      refine E_iload_n rfl rfl ?_
      refine E_aload_n rfl rfl ?_
      refine E_getfield (v := .ref 71) rfl w65 rfl (by decide) rfl ?_
      refine E_iload_n rfl rfl ?_
      refine E_ialN (l := qU t) (v := (qU t).getD p 0) rfl w71 (by omega) (by omega) rfl ?_
      refine E_ic (t := 39) (b := false) rfl rfl ((cn_gt (nI_toInt (by omega)) (nI_toInt (by omega))).trans (decide_eq_false (by omega))) ?_
      refine E_iload_n rfl rfl ?_
      refine E_if (t := 43) (b := true) rfl rfl (by decide) ?_
      refine E_aload_n rfl rfl ?_
      refine E_iload_n rfl rfl ?_
      have e2 : Ev ab_Z0 1 172 [.ref 65, .int (nI 0)] (ww im lf s d k ls rf rz ra rn rq lt m1 m2 m3 m4 bd fc hd sz el t g fm hm so si sh ce ca td wa kp la (lsF (bst t m (qN t) (2 ^ qN t))) oo bo pw ow tr) (some (.int (nI 0)), (ww im lf s d k ls rf rz ra rn rq lt m1 m2 m3 m4 bd fc hd sz el t g fm hm so si sh ce ca td wa kp la (lsF (bst t m (qN t) (2 ^ qN t))) oo bo pw ow tr)) := by
        refine Ef.in (md := mX6_changeFor) (L := [some (.ref 65), some (.int (nI 0))]) rfl (Nat.le_of_ble_eq_true rfl) rfl ?_
        refine E_aload_n rfl rfl ?_
        refine E_getfield (v := .int (qR t)) rfl w65 rfl (by decide) rfl ?_
        refine E_if (t := 16) (b := false) rfl rfl ((cn_ne rfl (by decide : (0 : Int32).toInt = 0)).trans (decide_eq_false (by omega))) ?_
        refine E_aload_n rfl rfl ?_
        refine E_getfield (v := .ref 89) rfl w65 rfl (by decide) rfl ?_
        refine E_iload_n rfl rfl ?_
        refine E_ialI (l := (lsF (bst t m (qN t) (2 ^ qN t)))) (v := nI 0) rfl w89 (by omega) (by omega) (by rw [lsF_get (by omega), bst_00 I]; rfl) ?_
        refine E_goto (t := 21) rfl rfl ?_
        exact E_iret rfl rfl
      refine E_callV (v := some (.int (nI 0))) (As := [.ref 65, .int (nI 0)]) (r0 := []) (cs2 := (ww im lf s d k ls rf rz ra rn rq lt m1 m2 m3 m4 bd fc hd sz el t g fm hm so si sh ce ca td wa kp la (lsF (bst t m (qN t) (2 ^ qN t))) oo bo pw ow tr)) rfl rfl rfl (Nat.le_of_ble_eq_true rfl) rfl (ab_rvOf w65 rfl) e2 (by decide) rfl ?_
      exact E_iret rfl rfl
  · have er2 : (qR t).toInt = 1 := by rw [er]; rfl
    have : (qW t).length = 6 := by first | omega | (simp only [List.length_set]; omega)
    have := qPr_in I p (w := ((qW t).getD p 0)) (by omega)
    have : (qU t).length = 6 := by first | omega | (simp only [List.length_set]; omega)
    refine Ef.in (md := mX6_thrown) (L := [some (.ref 65), some (.int (nI p)), some (.int (nI (qPr t p ((qW t).getD p 0)))), none]) rfl (Nat.le_of_ble_eq_true rfl) rfl ?_
    refine E_iload_n rfl rfl ?_
    refine E_aload_n rfl rfl ?_
    refine E_iload_n rfl rfl ?_
    refine E_aload_n rfl rfl ?_
    refine E_getfield (v := .ref 73) rfl w65 rfl (by decide) rfl ?_
    refine E_iload_n rfl rfl ?_
    refine E_ialN (l := qW t) (v := (qW t).getD p 0) rfl w73 (by omega) (by omega) rfl ?_
    refine E_callV (v := some (.int (nI (qPr t p ((qW t).getD p 0))))) (As := [.ref 65, .int (nI p), .int (nI ((qW t).getD p 0))]) (r0 := [.int (nI (qPr t p ((qW t).getD p 0)))]) (cs2 := (ww im lf s d k ls rf rz ra rn rq lt m1 m2 m3 m4 bd fc hd sz el t g fm hm so si sh ce ca td wa kp la (lsF (bst t m (qN t) (2 ^ qN t))) oo bo pw ow tr)) rfl rfl rfl (Nat.le_of_ble_eq_true rfl) rfl (ab_rvOf w65 rfl) (mo_priceFor w_m I (by omega) (by omega)) (by decide) rfl ?_
    refine E_isub (z := nI 0) rfl (by rw [Int32.sub_self]; rfl) ?_
    refine E_istore_n (L2 := [some (.ref 65), some (.int (nI p)), some (.int (nI (qPr t p ((qW t).getD p 0)))), some (.int (nI 0))]) rfl rfl ?_
    refine E_aload_n rfl rfl ?_
    refine E_iload_n rfl rfl ?_
    refine E_iconst (x := nI 0) rfl (by decide) ?_
    refine E_bipush (x := nI 99) rfl (by decide) ?_
    have e1 : Ev ab_Z0 1 134 [.ref 65, .int (nI (qPr t p ((qW t).getD p 0))), .int (nI 0), .int (nI 99)] (ww im lf s d k ls rf rz ra rn rq lt m1 m2 m3 m4 bd fc hd sz el t g fm hm so si sh ce ca td wa kp la (lsF (bst t m (qN t) (2 ^ qN t))) oo bo pw ow tr) (some (.int (nI 1)), (ww im lf s d k ls rf rz ra rn rq lt m1 m2 m3 m4 bd fc hd sz el t g fm hm so si sh ce ca td wa kp la (lsF (bst t m (qN t) (2 ^ qN t))) oo bo pw ow tr)) := by
      refine Ef.in (md := mX6_isFrom) (L := [some (.ref 65), some (.int (nI (qPr t p ((qW t).getD p 0)))), some (.int (nI 0)), some (.int (nI 99))]) rfl (Nat.le_of_ble_eq_true rfl) rfl ?_
      refine E_iload_n rfl rfl ?_
      refine E_iload_n rfl rfl ?_
      refine E_ic (t := 14) (b := false) rfl rfl ((cn_lt (nI_toInt (by omega)) (nI_toInt (by omega))).trans (decide_eq_false (by omega))) ?_
      refine E_iload_n rfl rfl ?_
      refine E_iload_n rfl rfl ?_
      refine E_ic (t := 14) (b := false) rfl rfl ((cn_gt (nI_toInt (by omega)) (nI_toInt (by omega))).trans (decide_eq_false (by omega))) ?_
      refine E_iconst (x := nI 1) rfl (by decide) ?_
      refine E_goto (t := 15) rfl rfl ?_
      exact E_iret rfl rfl
    refine E_callV (v := some (.int (nI 1))) (As := [.ref 65, .int (nI (qPr t p ((qW t).getD p 0))), .int (nI 0), .int (nI 99)]) (r0 := []) (cs2 := (ww im lf s d k ls rf rz ra rn rq lt m1 m2 m3 m4 bd fc hd sz el t g fm hm so si sh ce ca td wa kp la (lsF (bst t m (qN t) (2 ^ qN t))) oo bo pw ow tr)) rfl rfl rfl (Nat.le_of_ble_eq_true rfl) rfl (ab_rvOf w65 rfl) e1 (by decide) rfl ?_
    refine E_if (t := 39) (b := false) rfl rfl (by decide) ?_
    refine E_iload_n rfl rfl ?_
    refine E_aload_n rfl rfl ?_
    refine E_getfield (v := .ref 71) rfl w65 rfl (by decide) rfl ?_
    refine E_iload_n rfl rfl ?_
    refine E_ialN (l := qU t) (v := (qU t).getD p 0) rfl w71 (by omega) (by omega) rfl ?_
    refine E_ic (t := 39) (b := false) rfl rfl ((cn_gt (nI_toInt (by omega)) (nI_toInt (by omega))).trans (decide_eq_false (by omega))) ?_
    refine E_iload_n rfl rfl ?_
    refine E_if (t := 43) (b := true) rfl rfl (by decide) ?_
    refine E_aload_n rfl rfl ?_
    refine E_iload_n rfl rfl ?_
    have e2 : Ev ab_Z0 3 172 [.ref 65, .int (nI 0)] (ww im lf s d k ls rf rz ra rn rq lt m1 m2 m3 m4 bd fc hd sz el t g fm hm so si sh ce ca td wa kp la (lsF (bst t m (qN t) (2 ^ qN t))) oo bo pw ow tr) (some (.int (nI 0)), (ww im lf s d k ls rf rz ra rn rq lt m1 m2 m3 m4 bd fc hd sz el t g fm hm so si sh ce ca td wa kp la (lsF (bst t m (qN t) (2 ^ qN t))) oo bo pw ow tr)) := by
      refine Ef.in (md := mX6_changeFor) (L := [some (.ref 65), some (.int (nI 0))]) rfl (Nat.le_of_ble_eq_true rfl) rfl ?_
      refine E_aload_n rfl rfl ?_
      refine E_getfield (v := .int (qR t)) rfl w65 rfl (by decide) rfl ?_
      refine E_if (t := 16) (b := true) rfl rfl ((cn_ne rfl (by decide : (0 : Int32).toInt = 0)).trans (decide_eq_true (by omega))) ?_
      refine E_aload_n rfl rfl ?_
      refine E_iload_n rfl rfl ?_
      refine E_callV (v := some (.int (nI 0))) (As := [.ref 65, .int (nI 0)]) (r0 := []) (cs2 := (ww im lf s d k ls rf rz ra rn rq lt m1 m2 m3 m4 bd fc hd sz el t g fm hm so si sh ce ca td wa kp la (lsF (bst t m (qN t) (2 ^ qN t))) oo bo pw ow tr)) rfl rfl rfl (Nat.le_of_ble_eq_true rfl) rfl (ab_rvOf w65 rfl) (Ev.g1 (j := 0) (qGd_z t 9 _ 0) (mo_greedyFor w_m I (by omega))) (by decide) rfl ?_
      exact E_iret rfl rfl
    refine E_callV (v := some (.int (nI 0))) (As := [.ref 65, .int (nI 0)]) (r0 := []) (cs2 := (ww im lf s d k ls rf rz ra rn rq lt m1 m2 m3 m4 bd fc hd sz el t g fm hm so si sh ce ca td wa kp la (lsF (bst t m (qN t) (2 ^ qN t))) oo bo pw ow tr)) rfl rfl rfl (Nat.le_of_ble_eq_true rfl) rfl (ab_rvOf w65 rfl) e2 (by decide) rfl ?_
    exact E_iret rfl rfl
set_option maxHeartbeats 4000000 in
theorem w_day1 (I : qI s) (hM : 0 < qM s) : Ev ab_Z0 5 73 [.ref 1] (ww im lf s d k ls rf rz ra rn rq lt m1 m2 m3 m4 bd fc hd sz el t g fm hm so si sh ce ca td wa kp la bf oo bo pw ow tr) (none, (ww im lf (dnx s) d k ls rf rz ra rn rq lt m1 m2 m3 m4 bd fc hd sz el t g fm hm so si sh ce ca td wa kp la bf oo bo pw ow tr)) := by
  have I2 := dn2_I I
  have I4 := dn4_I I
  have h9 : qN (dn4 s) ≤ 9 := I4.2.2.1.1
  have h6 := I.2.2.1.2
  have hp := dnP_lt hM
  have hp4 : dnP s < qM (dn4 s) := by rw [dn4_M]; exact hp
  have hU2 := (I2.2.2.2.2.1 (dnP s) (by rw [dn2_M]; exact hp)).1
  have hU4 := I4.2.2.2.2.1 (dnP s) hp4
  have hV := dnV_99 s
  have hr := qPr_in I4 (dnP s) (w := (qW (dn4 s)).getD (dnP s) 0) (by omega)
  have l6 : (qU (dnS (dn2 s))).length = 6 := (congrArg List.length (dnS_U _)).trans I2.2.1.1
  have l6b : (qW (dnS (dn3 s))).length = 6 := (congrArg List.length (dnS_W _)).trans (dn3_I I).2.1.2.2.1
  have l6c : (qU (dn4 s)).length = 6 := I4.2.1.1
  have l6d : (qG (dn4 s)).length = 6 := I4.2.1.2.2.2.1
  have l6a : (qU (dn2 s)).length = 6 := I2.2.1.1
  have hM2 := dn2_M s
  have hN5 := dnS_N (dn4 s)
  have l9 : (qP (dnS (dn4 s))).length = 9 := (congrArg List.length (dnS_P _)).trans I4.1.2.2.2
  by_cases f0 : (qPr (dn4 s) (dnP s) ((qW (dn4 s)).getD (dnP s) 0)) ≤ ((qU (dn4 s)).getD (dnP s) 0)
  · have : (qU (dn2 s)).length = 6 := by first | omega | (simp only [List.length_set]; omega)
    have hx20 := dr_lt (dn2 s) (n := 20) (by decide)
    have : (qU (dnS (dn2 s))).length = 6 := by first | omega | (simp only [List.length_set]; omega)
    have hx8 := dr_lt (dn3 s) (n := 8) (by decide)
    have : (qW (dnS (dn3 s))).length = 6 := by first | omega | (simp only [List.length_set]; omega)
    have : (qU (dn4 s)).length = 6 := by first | omega | (simp only [List.length_set]; omega)
    have : (qG (dn4 s)).length = 6 := by first | omega | (simp only [List.length_set]; omega)
    have e : dnx s = (qs_P (qs_Y (qs_G (qs_U (dn4 s) ((qU (dn4 s)).set (dnP s) (((qU (dn4 s)).getD (dnP s) 0) - (qPr (dn4 s) (dnP s) ((qW (dn4 s)).getD (dnP s) 0))))) ((qG (dn4 s)).set (dnP s) (((qG (dn4 s)).getD (dnP s) 0) + (nI 1)))) ((qY (dn4 s)) + (nI (qPr (dn4 s) (dnP s) ((qW (dn4 s)).getD (dnP s) 0))))) (qGP (qP (dn4 s)) (dnP s) 0 (qN (dn4 s)))) := by unfold dnx grQ; rw [if_pos (by omega)]
    rw [e]
    refine Ef.in (md := mX4_drawDay) (L := [some (.ref 1), none, none]) rfl (Nat.le_of_ble_eq_true rfl) rfl ?_
    refine E_aload_n rfl rfl ?_
    refine E_dup rfl rfl ?_
    refine E_getfield (v := .int (qD s)) rfl w1 rfl (by decide) rfl ?_
    refine E_iconst (x := nI 1) rfl (by decide) ?_
    refine E_iadd (z := (qD s) + (nI 1)) rfl rfl ?_
    refine E_putfield (cs2 := (ww im lf (qs_D s ((qD s) + (nI 1))) d k ls rf rz ra rn rq lt m1 m2 m3 m4 bd fc hd sz el t g fm hm so si sh ce ca td wa kp la bf oo bo pw ow tr)) rfl w1 rfl (by decide) (Nat.le_of_ble_eq_true rfl) rfl rfl rfl w_pt1_D ?_
    refine E_aload_n rfl rfl ?_
    refine E_aload_n rfl rfl ?_
    refine E_getfield (v := .int (nI (qM s))) rfl w1 rfl (by decide) (congrArg (fun z => some (Value.int (nI z))) qg_MD) ?_
    refine E_callV (v := some (.int (nI (dnP s)))) (As := [.ref 1, .int (nI (qM s))]) (r0 := []) (cs2 := (ww im lf (dn2 s) d k ls rf rz ra rn rq lt m1 m2 m3 m4 bd fc hd sz el t g fm hm so si sh ce ca td wa kp la bf oo bo pw ow tr)) rfl rfl rfl (Nat.le_of_ble_eq_true rfl) rfl (ab_rvOf w1 rfl) (w_draw1 (n := qM s) (by omega) (by omega)) (by decide) w_lens ?_
    refine E_istore_n (L2 := [some (.ref 1), some (.int (nI (dnP s))), none]) rfl rfl ?_
    refine E_aload_n rfl rfl ?_
    refine E_iload_n rfl rfl ?_
    have e1 : Ev ab_Z0 1 51 [.ref 1, .int (nI (dnP s))] (ww im lf (dn2 s) d k ls rf rz ra rn rq lt m1 m2 m3 m4 bd fc hd sz el t g fm hm so si sh ce ca td wa kp la bf oo bo pw ow tr) (some (.int (nI 1)), (ww im lf (dn2 s) d k ls rf rz ra rn rq lt m1 m2 m3 m4 bd fc hd sz el t g fm hm so si sh ce ca td wa kp la bf oo bo pw ow tr)) := by
      refine Ef.in (md := mX4_isPerson) (L := [some (.ref 1), some (.int (nI (dnP s)))]) rfl (Nat.le_of_ble_eq_true rfl) rfl ?_
      refine E_iload_n rfl rfl ?_
      refine E_if (t := 16) (b := false) rfl rfl ((cn_lt (nI_toInt (by omega)) (by decide : (0 : Int32).toInt = 0)).trans (decide_eq_false (by omega))) ?_
      refine E_iload_n rfl rfl ?_
      refine E_aload_n rfl rfl ?_
      refine E_getfield (v := .int (nI (qM (dn2 s)))) rfl w1 rfl (by decide) rfl ?_
      refine E_ic (t := 16) (b := false) rfl rfl ((cn_ge (nI_toInt (by omega)) (nI_toInt (by omega))).trans (decide_eq_false (by omega))) ?_
      refine E_iconst (x := nI 1) rfl (by decide) ?_
      refine E_goto (t := 17) rfl rfl ?_
      exact E_iret rfl rfl
    refine E_callV (v := some (.int (nI 1))) (As := [.ref 1, .int (nI (dnP s))]) (r0 := []) (cs2 := (ww im lf (dn2 s) d k ls rf rz ra rn rq lt m1 m2 m3 m4 bd fc hd sz el t g fm hm so si sh ce ca td wa kp la bf oo bo pw ow tr)) rfl rfl rfl (Nat.le_of_ble_eq_true rfl) rfl (ab_rvOf w1 rfl) e1 (by decide) rfl ?_
    refine E_if (t := 28) (b := true) rfl rfl (by decide) ?_
    refine E_aload_n rfl rfl ?_
    refine E_getfield (v := .ref 6) rfl w1 rfl (by decide) rfl ?_
    refine E_iload_n rfl rfl ?_
    refine E_aload_n rfl rfl ?_
    refine E_getfield (v := .ref 6) rfl w1 rfl (by decide) rfl ?_
    refine E_iload_n rfl rfl ?_
    refine E_ialN (l := qU (dn2 s)) (v := (qU (dn2 s)).getD (dnP s) 0) rfl w6 (by omega) (by omega) rfl ?_
    refine E_aload_n rfl rfl ?_
    refine E_bipush (x := nI 20) rfl (by decide) ?_
    refine E_callV (v := some (.int (nI (qDr (dn2 s) 20)))) (As := [.ref 1, .int (nI 20)]) (r0 := [.int (nI ((qU (dn2 s)).getD (dnP s) 0)), .int (nI (dnP s)), .ref 6]) (cs2 := (ww im lf (dnS (dn2 s)) d k ls rf rz ra rn rq lt m1 m2 m3 m4 bd fc hd sz el t g fm hm so si sh ce ca td wa kp la bf oo bo pw ow tr)) rfl rfl rfl (Nat.le_of_ble_eq_true rfl) rfl (ab_rvOf w1 rfl) (w_draw1 (n := 20) (by omega) (by omega)) (by decide) w_lens ?_
    refine E_iadd (z := nI (((qU (dn2 s)).getD (dnP s) 0) + (qDr (dn2 s) 20))) rfl (nI_add _ _) ?_
    refine E_bipush (x := nI 99) rfl (by decide) ?_
    refine E_min (z := nI (dnV s)) rfl (Nat.le_of_ble_eq_true rfl) (ab_min99 (by omega)) ?_
    refine E_iasN (l := qU (dnS (dn2 s))) (cs2 := (ww im lf (qs_U (dnS (dn2 s)) ((qU (dnS (dn2 s))).set (dnP s) (dnV s))) d k ls rf rz ra rn rq lt m1 m2 m3 m4 bd fc hd sz el t g fm hm so si sh ce ca td wa kp la bf oo bo pw ow tr)) rfl w6 (by omega) (by omega) w_pt1_U ?_
    rw [show (qs_U (dnS (dn2 s)) ((qU (dnS (dn2 s))).set (dnP s) (dnV s))) = (dn3 s) from rfl]
    refine E_aload_n rfl rfl ?_
    refine E_getfield (v := .ref 8) rfl w1 rfl (by decide) rfl ?_
    refine E_iload_n rfl rfl ?_
    refine E_aload_n rfl rfl ?_
    refine E_bipush (x := nI 8) rfl (by decide) ?_
    refine E_callV (v := some (.int (nI (qDr (dn3 s) 8)))) (As := [.ref 1, .int (nI 8)]) (r0 := [.int (nI (dnP s)), .ref 8]) (cs2 := (ww im lf (dnS (dn3 s)) d k ls rf rz ra rn rq lt m1 m2 m3 m4 bd fc hd sz el t g fm hm so si sh ce ca td wa kp la bf oo bo pw ow tr)) rfl rfl rfl (Nat.le_of_ble_eq_true rfl) rfl (ab_rvOf w1 rfl) (w_draw1 (n := 8) (by omega) (by omega)) (by decide) w_lens ?_
    refine E_iasN (l := qW (dnS (dn3 s))) (cs2 := (ww im lf (qs_W (dnS (dn3 s)) ((qW (dnS (dn3 s))).set (dnP s) (qDr (dn3 s) 8))) d k ls rf rz ra rn rq lt m1 m2 m3 m4 bd fc hd sz el t g fm hm so si sh ce ca td wa kp la bf oo bo pw ow tr)) rfl w8 (by omega) (by omega) w_pt1_W ?_
    rw [show (qs_W (dnS (dn3 s)) ((qW (dnS (dn3 s))).set (dnP s) (qDr (dn3 s) 8))) = (dn4 s) from rfl]
    refine E_aload_n rfl rfl ?_
    refine E_iload_n rfl rfl ?_
    refine E_callV (v := some (.int (nI (qPr (dn4 s) (dnP s) ((qW (dn4 s)).getD (dnP s) 0))))) (As := [.ref 1, .int (nI (dnP s))]) (r0 := []) (cs2 := (ww im lf (dn4 s) d k ls rf rz ra rn rq lt m1 m2 m3 m4 bd fc hd sz el t g fm hm so si sh ce ca td wa kp la bf oo bo pw ow tr)) rfl rfl rfl (Nat.le_of_ble_eq_true rfl) rfl (ab_rvOf w1 rfl) (Ev.vi (show qBest (dn4 s) (dnP s) = _ from if_pos (by omega)) (sq_bestThrow w_q1 I4 hp4)) (by decide) rfl ?_
    refine E_istore_n (L2 := [some (.ref 1), some (.int (nI (dnP s))), some (.int (nI (qPr (dn4 s) (dnP s) ((qW (dn4 s)).getD (dnP s) 0))))]) rfl rfl ?_
    refine E_iload_n rfl rfl ?_
    refine E_iconst (x := (-1)) rfl (by decide) ?_
    refine E_ic (t := 85) (b := false) rfl rfl ((cn_eq (nI_toInt (by omega)) (by decide : (-1 : Int32).toInt = -1)).trans (decide_eq_false (by omega))) ?_
    refine E_aload_n rfl rfl ?_
    refine E_iload_n rfl rfl ?_
    refine E_iload_n rfl rfl ?_
    refine E_iconst (x := nI 0) rfl (by decide) ?_
    have e2 : Ev ab_Z0 2 71 [.ref 1, .int (nI (dnP s)), .int (nI (qPr (dn4 s) (dnP s) ((qW (dn4 s)).getD (dnP s) 0))), .int (nI 0)] (ww im lf (dn4 s) d k ls rf rz ra rn rq lt m1 m2 m3 m4 bd fc hd sz el t g fm hm so si sh ce ca td wa kp la bf oo bo pw ow tr) (none, (ww im lf (qs_P (qs_Y (qs_G (qs_U (dn4 s) ((qU (dn4 s)).set (dnP s) (((qU (dn4 s)).getD (dnP s) 0) - (qPr (dn4 s) (dnP s) ((qW (dn4 s)).getD (dnP s) 0))))) ((qG (dn4 s)).set (dnP s) (((qG (dn4 s)).getD (dnP s) 0) + (nI 1)))) ((qY (dn4 s)) + (nI (qPr (dn4 s) (dnP s) ((qW (dn4 s)).getD (dnP s) 0))))) (qGP (qP (dn4 s)) (dnP s) 0 (qN (dn4 s)))) d k ls rf rz ra rn rq lt m1 m2 m3 m4 bd fc hd sz el t g fm hm so si sh ce ca td wa kp la bf oo bo pw ow tr)) := by
      refine Ef.in (md := mX4_grant) (L := [some (.ref 1), some (.int (nI (dnP s))), some (.int (nI (qPr (dn4 s) (dnP s) ((qW (dn4 s)).getD (dnP s) 0)))), some (.int (nI 0)), none]) rfl (Nat.le_of_ble_eq_true rfl) rfl ?_
      refine E_aload_n rfl rfl ?_
      refine E_getfield (v := .ref 6) rfl w1 rfl (by decide) rfl ?_
      refine E_iload_n rfl rfl ?_
      refine E_dup2 rfl ⟨rfl, rfl⟩ ?_
      refine E_ialN (l := qU (dn4 s)) (v := (qU (dn4 s)).getD (dnP s) 0) rfl w6 (by omega) (by omega) rfl ?_
      refine E_iload_n rfl rfl ?_
      refine E_isub (z := nI (((qU (dn4 s)).getD (dnP s) 0) - (qPr (dn4 s) (dnP s) ((qW (dn4 s)).getD (dnP s) 0)))) rfl (pk_sub (by omega)) ?_
      refine E_iasN (l := qU (dn4 s)) (cs2 := (ww im lf (qs_U (dn4 s) ((qU (dn4 s)).set (dnP s) (((qU (dn4 s)).getD (dnP s) 0) - (qPr (dn4 s) (dnP s) ((qW (dn4 s)).getD (dnP s) 0))))) d k ls rf rz ra rn rq lt m1 m2 m3 m4 bd fc hd sz el t g fm hm so si sh ce ca td wa kp la bf oo bo pw ow tr)) rfl w6 (by omega) (by omega) w_pt1_U ?_
      refine E_aload_n rfl rfl ?_
      refine E_getfield (v := .ref 9) rfl w1 rfl (by decide) rfl ?_
      refine E_iload_n rfl rfl ?_
      refine E_dup2 rfl ⟨rfl, rfl⟩ ?_
      refine E_ialI (l := qG (dn4 s)) (v := (qG (dn4 s)).getD (dnP s) 0) rfl (w9v qg_GU) (by omega) (by omega) rfl ?_
      refine E_iconst (x := nI 1) rfl (by decide) ?_
      refine E_iadd (z := ((qG (dn4 s)).getD (dnP s) 0) + (nI 1)) rfl rfl ?_
      refine E_iasI (l := qG (dn4 s)) (cs2 := (ww im lf (qs_G (qs_U (dn4 s) ((qU (dn4 s)).set (dnP s) (((qU (dn4 s)).getD (dnP s) 0) - (qPr (dn4 s) (dnP s) ((qW (dn4 s)).getD (dnP s) 0))))) ((qG (dn4 s)).set (dnP s) (((qG (dn4 s)).getD (dnP s) 0) + (nI 1)))) d k ls rf rz ra rn rq lt m1 m2 m3 m4 bd fc hd sz el t g fm hm so si sh ce ca td wa kp la bf oo bo pw ow tr)) rfl (w9v qg_GU) (by omega) (by omega) w_pt1_G ?_
      refine E_aload_n rfl rfl ?_
      refine E_dup rfl rfl ?_
      refine E_getfield (v := .int (qY (dn4 s))) rfl w1 rfl (by decide) (congrArg (fun z => some (Value.int z)) (qg_YG.trans qg_YU)) ?_
      refine E_iload_n rfl rfl ?_
      refine E_iadd (z := (qY (dn4 s)) + (nI (qPr (dn4 s) (dnP s) ((qW (dn4 s)).getD (dnP s) 0)))) rfl rfl ?_
      refine E_putfield (cs2 := (ww im lf (qs_Y (qs_G (qs_U (dn4 s) ((qU (dn4 s)).set (dnP s) (((qU (dn4 s)).getD (dnP s) 0) - (qPr (dn4 s) (dnP s) ((qW (dn4 s)).getD (dnP s) 0))))) ((qG (dn4 s)).set (dnP s) (((qG (dn4 s)).getD (dnP s) 0) + (nI 1)))) ((qY (dn4 s)) + (nI (qPr (dn4 s) (dnP s) ((qW (dn4 s)).getD (dnP s) 0))))) d k ls rf rz ra rn rq lt m1 m2 m3 m4 bd fc hd sz el t g fm hm so si sh ce ca td wa kp la bf oo bo pw ow tr)) rfl w1 rfl (by decide) (Nat.le_of_ble_eq_true rfl) rfl rfl rfl w_pt1_Y ?_
      refine E_iconst (x := nI 0) rfl (by decide) ?_
      refine E_istore (L2 := [some (.ref 1), some (.int (nI (dnP s))), some (.int (nI (qPr (dn4 s) (dnP s) ((qW (dn4 s)).getD (dnP s) 0)))), some (.int (nI 0)), some (.int (nI 0))]) rfl rfl ?_
      exact grant_s1 (s := (qs_Y (qs_G (qs_U (dn4 s) ((qU (dn4 s)).set (dnP s) (((qU (dn4 s)).getD (dnP s) 0) - (qPr (dn4 s) (dnP s) ((qW (dn4 s)).getD (dnP s) 0))))) ((qG (dn4 s)).set (dnP s) (((qG (dn4 s)).getD (dnP s) 0) + (nI 1)))) ((qY (dn4 s)) + (nI (qPr (dn4 s) (dnP s) ((qW (dn4 s)).getD (dnP s) 0)))))) (p := dnP s) (n := qPr (dn4 s) (dnP s) ((qW (dn4 s)).getD (dnP s) 0)) (m := 0) (l := qP (dn4 s)) (n1 := qN (dn4 s)) ((congrArg (qs_P _) (Eq.symm (qg_PY.trans (qg_PG.trans qg_PU)))).trans qs_Pself) (qg_NY.trans (qg_NG.trans qg_NU)) (by omega) I4.1.2.2.2 (by omega) (by omega)
    refine E_callV (v := none) (As := [.ref 1, .int (nI (dnP s)), .int (nI (qPr (dn4 s) (dnP s) ((qW (dn4 s)).getD (dnP s) 0))), .int (nI 0)]) (r0 := []) (cs2 := (ww im lf (qs_P (qs_Y (qs_G (qs_U (dn4 s) ((qU (dn4 s)).set (dnP s) (((qU (dn4 s)).getD (dnP s) 0) - (qPr (dn4 s) (dnP s) ((qW (dn4 s)).getD (dnP s) 0))))) ((qG (dn4 s)).set (dnP s) (((qG (dn4 s)).getD (dnP s) 0) + (nI 1)))) ((qY (dn4 s)) + (nI (qPr (dn4 s) (dnP s) ((qW (dn4 s)).getD (dnP s) 0))))) (qGP (qP (dn4 s)) (dnP s) 0 (qN (dn4 s)))) d k ls rf rz ra rn rq lt m1 m2 m3 m4 bd fc hd sz el t g fm hm so si sh ce ca td wa kp la bf oo bo pw ow tr)) rfl rfl rfl (Nat.le_of_ble_eq_true rfl) rfl (ab_rvOf w1 rfl) e2 (by decide) w_lens ?_
    refine E_goto (t := 98) rfl rfl ?_
    exact E_vret rfl rfl
  · by_cases f1 : 1 ≤ (qN (dn4 s))
    · by_cases f2 : ((qP (dnS (dn4 s))).getD (dnX s) 0) = (dnP s)
      · have : (qU (dn2 s)).length = 6 := by first | omega | (simp only [List.length_set]; omega)
        have hx20 := dr_lt (dn2 s) (n := 20) (by decide)
        have : (qU (dnS (dn2 s))).length = 6 := by first | omega | (simp only [List.length_set]; omega)
        have hx8 := dr_lt (dn3 s) (n := 8) (by decide)
        have : (qW (dnS (dn3 s))).length = 6 := by first | omega | (simp only [List.length_set]; omega)
        have hx := dr_lt (dn4 s) (n := qN (dn4 s)) (by omega)
        have hx2 : dnX s < qN (dn4 s) := hx
        have hM4 := dn4_M s
        have hpl : (qP (dnS (dn4 s))).getD (dnX s) 0 = 99 ∨ (qP (dnS (dn4 s))).getD (dnX s) 0 < qM (dn4 s) := by rw [dnS_P]; exact (I4.2.2.2.1 (dnX s) hx2).2.2.2.2
        have : (qP (dnS (dn4 s))).length = 9 := by first | omega | (simp only [List.length_set]; omega)
        have e : dnx s = (qs_P (dnS (dn4 s)) ((qP (dnS (dn4 s))).set (dnX s) 99)) := by unfold dnx; rw [if_neg (by omega), if_neg (by omega), if_pos (by omega)]
        rw [e]
        refine Ef.in (md := mX4_drawDay) (L := [some (.ref 1), none, none]) rfl (Nat.le_of_ble_eq_true rfl) rfl ?_
        refine E_aload_n rfl rfl ?_
        refine E_dup rfl rfl ?_
        refine E_getfield (v := .int (qD s)) rfl w1 rfl (by decide) rfl ?_
        refine E_iconst (x := nI 1) rfl (by decide) ?_
        refine E_iadd (z := (qD s) + (nI 1)) rfl rfl ?_
        refine E_putfield (cs2 := (ww im lf (qs_D s ((qD s) + (nI 1))) d k ls rf rz ra rn rq lt m1 m2 m3 m4 bd fc hd sz el t g fm hm so si sh ce ca td wa kp la bf oo bo pw ow tr)) rfl w1 rfl (by decide) (Nat.le_of_ble_eq_true rfl) rfl rfl rfl w_pt1_D ?_
        refine E_aload_n rfl rfl ?_
        refine E_aload_n rfl rfl ?_
        refine E_getfield (v := .int (nI (qM s))) rfl w1 rfl (by decide) (congrArg (fun z => some (Value.int (nI z))) qg_MD) ?_
        refine E_callV (v := some (.int (nI (dnP s)))) (As := [.ref 1, .int (nI (qM s))]) (r0 := []) (cs2 := (ww im lf (dn2 s) d k ls rf rz ra rn rq lt m1 m2 m3 m4 bd fc hd sz el t g fm hm so si sh ce ca td wa kp la bf oo bo pw ow tr)) rfl rfl rfl (Nat.le_of_ble_eq_true rfl) rfl (ab_rvOf w1 rfl) (w_draw1 (n := qM s) (by omega) (by omega)) (by decide) w_lens ?_
        refine E_istore_n (L2 := [some (.ref 1), some (.int (nI (dnP s))), none]) rfl rfl ?_
        refine E_aload_n rfl rfl ?_
        refine E_iload_n rfl rfl ?_
        have e1 : Ev ab_Z0 1 51 [.ref 1, .int (nI (dnP s))] (ww im lf (dn2 s) d k ls rf rz ra rn rq lt m1 m2 m3 m4 bd fc hd sz el t g fm hm so si sh ce ca td wa kp la bf oo bo pw ow tr) (some (.int (nI 1)), (ww im lf (dn2 s) d k ls rf rz ra rn rq lt m1 m2 m3 m4 bd fc hd sz el t g fm hm so si sh ce ca td wa kp la bf oo bo pw ow tr)) := by
          refine Ef.in (md := mX4_isPerson) (L := [some (.ref 1), some (.int (nI (dnP s)))]) rfl (Nat.le_of_ble_eq_true rfl) rfl ?_
          refine E_iload_n rfl rfl ?_
          refine E_if (t := 16) (b := false) rfl rfl ((cn_lt (nI_toInt (by omega)) (by decide : (0 : Int32).toInt = 0)).trans (decide_eq_false (by omega))) ?_
          refine E_iload_n rfl rfl ?_
          refine E_aload_n rfl rfl ?_
          refine E_getfield (v := .int (nI (qM (dn2 s)))) rfl w1 rfl (by decide) rfl ?_
          refine E_ic (t := 16) (b := false) rfl rfl ((cn_ge (nI_toInt (by omega)) (nI_toInt (by omega))).trans (decide_eq_false (by omega))) ?_
          refine E_iconst (x := nI 1) rfl (by decide) ?_
          refine E_goto (t := 17) rfl rfl ?_
          exact E_iret rfl rfl
        refine E_callV (v := some (.int (nI 1))) (As := [.ref 1, .int (nI (dnP s))]) (r0 := []) (cs2 := (ww im lf (dn2 s) d k ls rf rz ra rn rq lt m1 m2 m3 m4 bd fc hd sz el t g fm hm so si sh ce ca td wa kp la bf oo bo pw ow tr)) rfl rfl rfl (Nat.le_of_ble_eq_true rfl) rfl (ab_rvOf w1 rfl) e1 (by decide) rfl ?_
        refine E_if (t := 28) (b := true) rfl rfl (by decide) ?_
        refine E_aload_n rfl rfl ?_
        refine E_getfield (v := .ref 6) rfl w1 rfl (by decide) rfl ?_
        refine E_iload_n rfl rfl ?_
        refine E_aload_n rfl rfl ?_
        refine E_getfield (v := .ref 6) rfl w1 rfl (by decide) rfl ?_
        refine E_iload_n rfl rfl ?_
        refine E_ialN (l := qU (dn2 s)) (v := (qU (dn2 s)).getD (dnP s) 0) rfl w6 (by omega) (by omega) rfl ?_
        refine E_aload_n rfl rfl ?_
        refine E_bipush (x := nI 20) rfl (by decide) ?_
        refine E_callV (v := some (.int (nI (qDr (dn2 s) 20)))) (As := [.ref 1, .int (nI 20)]) (r0 := [.int (nI ((qU (dn2 s)).getD (dnP s) 0)), .int (nI (dnP s)), .ref 6]) (cs2 := (ww im lf (dnS (dn2 s)) d k ls rf rz ra rn rq lt m1 m2 m3 m4 bd fc hd sz el t g fm hm so si sh ce ca td wa kp la bf oo bo pw ow tr)) rfl rfl rfl (Nat.le_of_ble_eq_true rfl) rfl (ab_rvOf w1 rfl) (w_draw1 (n := 20) (by omega) (by omega)) (by decide) w_lens ?_
        refine E_iadd (z := nI (((qU (dn2 s)).getD (dnP s) 0) + (qDr (dn2 s) 20))) rfl (nI_add _ _) ?_
        refine E_bipush (x := nI 99) rfl (by decide) ?_
        refine E_min (z := nI (dnV s)) rfl (Nat.le_of_ble_eq_true rfl) (ab_min99 (by omega)) ?_
        refine E_iasN (l := qU (dnS (dn2 s))) (cs2 := (ww im lf (qs_U (dnS (dn2 s)) ((qU (dnS (dn2 s))).set (dnP s) (dnV s))) d k ls rf rz ra rn rq lt m1 m2 m3 m4 bd fc hd sz el t g fm hm so si sh ce ca td wa kp la bf oo bo pw ow tr)) rfl w6 (by omega) (by omega) w_pt1_U ?_
        rw [show (qs_U (dnS (dn2 s)) ((qU (dnS (dn2 s))).set (dnP s) (dnV s))) = (dn3 s) from rfl]
        refine E_aload_n rfl rfl ?_
        refine E_getfield (v := .ref 8) rfl w1 rfl (by decide) rfl ?_
        refine E_iload_n rfl rfl ?_
        refine E_aload_n rfl rfl ?_
        refine E_bipush (x := nI 8) rfl (by decide) ?_
        refine E_callV (v := some (.int (nI (qDr (dn3 s) 8)))) (As := [.ref 1, .int (nI 8)]) (r0 := [.int (nI (dnP s)), .ref 8]) (cs2 := (ww im lf (dnS (dn3 s)) d k ls rf rz ra rn rq lt m1 m2 m3 m4 bd fc hd sz el t g fm hm so si sh ce ca td wa kp la bf oo bo pw ow tr)) rfl rfl rfl (Nat.le_of_ble_eq_true rfl) rfl (ab_rvOf w1 rfl) (w_draw1 (n := 8) (by omega) (by omega)) (by decide) w_lens ?_
        refine E_iasN (l := qW (dnS (dn3 s))) (cs2 := (ww im lf (qs_W (dnS (dn3 s)) ((qW (dnS (dn3 s))).set (dnP s) (qDr (dn3 s) 8))) d k ls rf rz ra rn rq lt m1 m2 m3 m4 bd fc hd sz el t g fm hm so si sh ce ca td wa kp la bf oo bo pw ow tr)) rfl w8 (by omega) (by omega) w_pt1_W ?_
        rw [show (qs_W (dnS (dn3 s)) ((qW (dnS (dn3 s))).set (dnP s) (qDr (dn3 s) 8))) = (dn4 s) from rfl]
        refine E_aload_n rfl rfl ?_
        refine E_iload_n rfl rfl ?_
        refine E_callV (v := some (.int (-1))) (As := [.ref 1, .int (nI (dnP s))]) (r0 := []) (cs2 := (ww im lf (dn4 s) d k ls rf rz ra rn rq lt m1 m2 m3 m4 bd fc hd sz el t g fm hm so si sh ce ca td wa kp la bf oo bo pw ow tr)) rfl rfl rfl (Nat.le_of_ble_eq_true rfl) rfl (ab_rvOf w1 rfl) (Ev.vi (show qBest (dn4 s) (dnP s) = _ from if_neg (by omega)) (sq_bestThrow w_q1 I4 hp4)) (by decide) rfl ?_
        refine E_istore_n (L2 := [some (.ref 1), some (.int (nI (dnP s))), some (.int (-1))]) rfl rfl ?_
        refine E_iload_n rfl rfl ?_
        refine E_iconst (x := (-1)) rfl (by decide) ?_
        refine E_ic (t := 85) (b := true) rfl rfl (by decide) ?_
        refine E_aload_n rfl rfl ?_
        refine E_iload_n rfl rfl ?_
        refine E_aload_n rfl rfl ?_
        refine E_aload_n rfl rfl ?_
        refine E_getfield (v := .int (nI (qN (dn4 s)))) rfl w1 rfl (by decide) rfl ?_
        refine E_callV (v := some (.int (nI (dnX s)))) (As := [.ref 1, .int (nI (qN (dn4 s)))]) (r0 := [.int (nI (dnP s)), .ref 1]) (cs2 := (ww im lf (dnS (dn4 s)) d k ls rf rz ra rn rq lt m1 m2 m3 m4 bd fc hd sz el t g fm hm so si sh ce ca td wa kp la bf oo bo pw ow tr)) rfl rfl rfl (Nat.le_of_ble_eq_true rfl) rfl (ab_rvOf w1 rfl) (w_draw1 (n := qN (dn4 s)) (by omega) (by omega)) (by decide) w_lens ?_
        have e3 : Ev ab_Z0 2 74 [.ref 1, .int (nI (dnP s)), .int (nI (dnX s))] (ww im lf (dnS (dn4 s)) d k ls rf rz ra rn rq lt m1 m2 m3 m4 bd fc hd sz el t g fm hm so si sh ce ca td wa kp la bf oo bo pw ow tr) (none, (ww im lf (qs_P (dnS (dn4 s)) ((qP (dnS (dn4 s))).set (dnX s) 99)) d k ls rf rz ra rn rq lt m1 m2 m3 m4 bd fc hd sz el t g fm hm so si sh ce ca td wa kp la bf oo bo pw ow tr)) := by
          refine Ef.in (md := mX4_throwIn) (L := [some (.ref 1), some (.int (nI (dnP s))), some (.int (nI (dnX s)))]) rfl (Nat.le_of_ble_eq_true rfl) rfl ?_
          refine E_aload_n rfl rfl ?_
          refine E_iload_n rfl rfl ?_
          have e2 : Ev ab_Z0 1 50 [.ref 1, .int (nI (dnX s))] (ww im lf (dnS (dn4 s)) d k ls rf rz ra rn rq lt m1 m2 m3 m4 bd fc hd sz el t g fm hm so si sh ce ca td wa kp la bf oo bo pw ow tr) (some (.int (nI 1)), (ww im lf (dnS (dn4 s)) d k ls rf rz ra rn rq lt m1 m2 m3 m4 bd fc hd sz el t g fm hm so si sh ce ca td wa kp la bf oo bo pw ow tr)) := by
            refine Ef.in (md := mX4_isPiece) (L := [some (.ref 1), some (.int (nI (dnX s)))]) rfl (Nat.le_of_ble_eq_true rfl) rfl ?_
            refine E_iload_n rfl rfl ?_
            refine E_if (t := 16) (b := false) rfl rfl ((cn_lt (nI_toInt (by omega)) (by decide : (0 : Int32).toInt = 0)).trans (decide_eq_false (by omega))) ?_
            refine E_iload_n rfl rfl ?_
            refine E_aload_n rfl rfl ?_
            refine E_getfield (v := .int (nI (qN (dnS (dn4 s))))) rfl w1 rfl (by decide) rfl ?_
            refine E_ic (t := 16) (b := false) rfl rfl ((cn_ge (nI_toInt (by omega)) (nI_toInt (by omega))).trans (decide_eq_false (by omega))) ?_
            refine E_iconst (x := nI 1) rfl (by decide) ?_
            refine E_goto (t := 17) rfl rfl ?_
            exact E_iret rfl rfl
          refine E_callV (v := some (.int (nI 1))) (As := [.ref 1, .int (nI (dnX s))]) (r0 := []) (cs2 := (ww im lf (dnS (dn4 s)) d k ls rf rz ra rn rq lt m1 m2 m3 m4 bd fc hd sz el t g fm hm so si sh ce ca td wa kp la bf oo bo pw ow tr)) rfl rfl rfl (Nat.le_of_ble_eq_true rfl) rfl (ab_rvOf w1 rfl) e2 (by decide) rfl ?_
          refine E_if (t := 26) (b := false) rfl rfl (by decide) ?_
          refine E_aload_n rfl rfl ?_
          refine E_getfield (v := .ref 5) rfl w1 rfl (by decide) rfl ?_
          refine E_iload_n rfl rfl ?_
          refine E_ialN (l := qP (dnS (dn4 s))) (v := (qP (dnS (dn4 s))).getD (dnX s) 0) rfl w5 (by omega) (by omega) rfl ?_
          refine E_iload_n rfl rfl ?_
          refine E_ic (t := 26) (b := false) rfl rfl ((cn_ne (nI_toInt (by omega)) (nI_toInt (by omega))).trans (decide_eq_false (by omega))) ?_
          refine E_aload_n rfl rfl ?_
          refine E_getfield (v := .ref 5) rfl w1 rfl (by decide) rfl ?_
          refine E_iload_n rfl rfl ?_
          refine E_bipush (x := nI 99) rfl (by decide) ?_
          refine E_iasN (l := qP (dnS (dn4 s))) (cs2 := (ww im lf (qs_P (dnS (dn4 s)) ((qP (dnS (dn4 s))).set (dnX s) 99)) d k ls rf rz ra rn rq lt m1 m2 m3 m4 bd fc hd sz el t g fm hm so si sh ce ca td wa kp la bf oo bo pw ow tr)) rfl w5 (by omega) (by omega) w_pt1_P ?_
          exact E_vret rfl rfl
        refine E_callV (v := none) (As := [.ref 1, .int (nI (dnP s)), .int (nI (dnX s))]) (r0 := []) (cs2 := (ww im lf (qs_P (dnS (dn4 s)) ((qP (dnS (dn4 s))).set (dnX s) 99)) d k ls rf rz ra rn rq lt m1 m2 m3 m4 bd fc hd sz el t g fm hm so si sh ce ca td wa kp la bf oo bo pw ow tr)) rfl rfl rfl (Nat.le_of_ble_eq_true rfl) rfl (ab_rvOf w1 rfl) e3 (by decide) w_lens ?_
        exact E_vret rfl rfl
      · have : (qU (dn2 s)).length = 6 := by first | omega | (simp only [List.length_set]; omega)
        have hx20 := dr_lt (dn2 s) (n := 20) (by decide)
        have : (qU (dnS (dn2 s))).length = 6 := by first | omega | (simp only [List.length_set]; omega)
        have hx8 := dr_lt (dn3 s) (n := 8) (by decide)
        have : (qW (dnS (dn3 s))).length = 6 := by first | omega | (simp only [List.length_set]; omega)
        have hx := dr_lt (dn4 s) (n := qN (dn4 s)) (by omega)
        have hx2 : dnX s < qN (dn4 s) := hx
        have hM4 := dn4_M s
        have hpl : (qP (dnS (dn4 s))).getD (dnX s) 0 = 99 ∨ (qP (dnS (dn4 s))).getD (dnX s) 0 < qM (dn4 s) := by rw [dnS_P]; exact (I4.2.2.2.1 (dnX s) hx2).2.2.2.2
        have : (qP (dnS (dn4 s))).length = 9 := by first | omega | (simp only [List.length_set]; omega)
        have e : dnx s = (dnS (dn4 s)) := by unfold dnx; rw [if_neg (by omega), if_neg (by omega), if_neg (by omega)]
        rw [e]
        refine Ef.in (md := mX4_drawDay) (L := [some (.ref 1), none, none]) rfl (Nat.le_of_ble_eq_true rfl) rfl ?_
        refine E_aload_n rfl rfl ?_
        refine E_dup rfl rfl ?_
        refine E_getfield (v := .int (qD s)) rfl w1 rfl (by decide) rfl ?_
        refine E_iconst (x := nI 1) rfl (by decide) ?_
        refine E_iadd (z := (qD s) + (nI 1)) rfl rfl ?_
        refine E_putfield (cs2 := (ww im lf (qs_D s ((qD s) + (nI 1))) d k ls rf rz ra rn rq lt m1 m2 m3 m4 bd fc hd sz el t g fm hm so si sh ce ca td wa kp la bf oo bo pw ow tr)) rfl w1 rfl (by decide) (Nat.le_of_ble_eq_true rfl) rfl rfl rfl w_pt1_D ?_
        refine E_aload_n rfl rfl ?_
        refine E_aload_n rfl rfl ?_
        refine E_getfield (v := .int (nI (qM s))) rfl w1 rfl (by decide) (congrArg (fun z => some (Value.int (nI z))) qg_MD) ?_
        refine E_callV (v := some (.int (nI (dnP s)))) (As := [.ref 1, .int (nI (qM s))]) (r0 := []) (cs2 := (ww im lf (dn2 s) d k ls rf rz ra rn rq lt m1 m2 m3 m4 bd fc hd sz el t g fm hm so si sh ce ca td wa kp la bf oo bo pw ow tr)) rfl rfl rfl (Nat.le_of_ble_eq_true rfl) rfl (ab_rvOf w1 rfl) (w_draw1 (n := qM s) (by omega) (by omega)) (by decide) w_lens ?_
        refine E_istore_n (L2 := [some (.ref 1), some (.int (nI (dnP s))), none]) rfl rfl ?_
        refine E_aload_n rfl rfl ?_
        refine E_iload_n rfl rfl ?_
        have e1 : Ev ab_Z0 1 51 [.ref 1, .int (nI (dnP s))] (ww im lf (dn2 s) d k ls rf rz ra rn rq lt m1 m2 m3 m4 bd fc hd sz el t g fm hm so si sh ce ca td wa kp la bf oo bo pw ow tr) (some (.int (nI 1)), (ww im lf (dn2 s) d k ls rf rz ra rn rq lt m1 m2 m3 m4 bd fc hd sz el t g fm hm so si sh ce ca td wa kp la bf oo bo pw ow tr)) := by
          refine Ef.in (md := mX4_isPerson) (L := [some (.ref 1), some (.int (nI (dnP s)))]) rfl (Nat.le_of_ble_eq_true rfl) rfl ?_
          refine E_iload_n rfl rfl ?_
          refine E_if (t := 16) (b := false) rfl rfl ((cn_lt (nI_toInt (by omega)) (by decide : (0 : Int32).toInt = 0)).trans (decide_eq_false (by omega))) ?_
          refine E_iload_n rfl rfl ?_
          refine E_aload_n rfl rfl ?_
          refine E_getfield (v := .int (nI (qM (dn2 s)))) rfl w1 rfl (by decide) rfl ?_
          refine E_ic (t := 16) (b := false) rfl rfl ((cn_ge (nI_toInt (by omega)) (nI_toInt (by omega))).trans (decide_eq_false (by omega))) ?_
          refine E_iconst (x := nI 1) rfl (by decide) ?_
          refine E_goto (t := 17) rfl rfl ?_
          exact E_iret rfl rfl
        refine E_callV (v := some (.int (nI 1))) (As := [.ref 1, .int (nI (dnP s))]) (r0 := []) (cs2 := (ww im lf (dn2 s) d k ls rf rz ra rn rq lt m1 m2 m3 m4 bd fc hd sz el t g fm hm so si sh ce ca td wa kp la bf oo bo pw ow tr)) rfl rfl rfl (Nat.le_of_ble_eq_true rfl) rfl (ab_rvOf w1 rfl) e1 (by decide) rfl ?_
        refine E_if (t := 28) (b := true) rfl rfl (by decide) ?_
        refine E_aload_n rfl rfl ?_
        refine E_getfield (v := .ref 6) rfl w1 rfl (by decide) rfl ?_
        refine E_iload_n rfl rfl ?_
        refine E_aload_n rfl rfl ?_
        refine E_getfield (v := .ref 6) rfl w1 rfl (by decide) rfl ?_
        refine E_iload_n rfl rfl ?_
        refine E_ialN (l := qU (dn2 s)) (v := (qU (dn2 s)).getD (dnP s) 0) rfl w6 (by omega) (by omega) rfl ?_
        refine E_aload_n rfl rfl ?_
        refine E_bipush (x := nI 20) rfl (by decide) ?_
        refine E_callV (v := some (.int (nI (qDr (dn2 s) 20)))) (As := [.ref 1, .int (nI 20)]) (r0 := [.int (nI ((qU (dn2 s)).getD (dnP s) 0)), .int (nI (dnP s)), .ref 6]) (cs2 := (ww im lf (dnS (dn2 s)) d k ls rf rz ra rn rq lt m1 m2 m3 m4 bd fc hd sz el t g fm hm so si sh ce ca td wa kp la bf oo bo pw ow tr)) rfl rfl rfl (Nat.le_of_ble_eq_true rfl) rfl (ab_rvOf w1 rfl) (w_draw1 (n := 20) (by omega) (by omega)) (by decide) w_lens ?_
        refine E_iadd (z := nI (((qU (dn2 s)).getD (dnP s) 0) + (qDr (dn2 s) 20))) rfl (nI_add _ _) ?_
        refine E_bipush (x := nI 99) rfl (by decide) ?_
        refine E_min (z := nI (dnV s)) rfl (Nat.le_of_ble_eq_true rfl) (ab_min99 (by omega)) ?_
        refine E_iasN (l := qU (dnS (dn2 s))) (cs2 := (ww im lf (qs_U (dnS (dn2 s)) ((qU (dnS (dn2 s))).set (dnP s) (dnV s))) d k ls rf rz ra rn rq lt m1 m2 m3 m4 bd fc hd sz el t g fm hm so si sh ce ca td wa kp la bf oo bo pw ow tr)) rfl w6 (by omega) (by omega) w_pt1_U ?_
        rw [show (qs_U (dnS (dn2 s)) ((qU (dnS (dn2 s))).set (dnP s) (dnV s))) = (dn3 s) from rfl]
        refine E_aload_n rfl rfl ?_
        refine E_getfield (v := .ref 8) rfl w1 rfl (by decide) rfl ?_
        refine E_iload_n rfl rfl ?_
        refine E_aload_n rfl rfl ?_
        refine E_bipush (x := nI 8) rfl (by decide) ?_
        refine E_callV (v := some (.int (nI (qDr (dn3 s) 8)))) (As := [.ref 1, .int (nI 8)]) (r0 := [.int (nI (dnP s)), .ref 8]) (cs2 := (ww im lf (dnS (dn3 s)) d k ls rf rz ra rn rq lt m1 m2 m3 m4 bd fc hd sz el t g fm hm so si sh ce ca td wa kp la bf oo bo pw ow tr)) rfl rfl rfl (Nat.le_of_ble_eq_true rfl) rfl (ab_rvOf w1 rfl) (w_draw1 (n := 8) (by omega) (by omega)) (by decide) w_lens ?_
        refine E_iasN (l := qW (dnS (dn3 s))) (cs2 := (ww im lf (qs_W (dnS (dn3 s)) ((qW (dnS (dn3 s))).set (dnP s) (qDr (dn3 s) 8))) d k ls rf rz ra rn rq lt m1 m2 m3 m4 bd fc hd sz el t g fm hm so si sh ce ca td wa kp la bf oo bo pw ow tr)) rfl w8 (by omega) (by omega) w_pt1_W ?_
        rw [show (qs_W (dnS (dn3 s)) ((qW (dnS (dn3 s))).set (dnP s) (qDr (dn3 s) 8))) = (dn4 s) from rfl]
        refine E_aload_n rfl rfl ?_
        refine E_iload_n rfl rfl ?_
        refine E_callV (v := some (.int (-1))) (As := [.ref 1, .int (nI (dnP s))]) (r0 := []) (cs2 := (ww im lf (dn4 s) d k ls rf rz ra rn rq lt m1 m2 m3 m4 bd fc hd sz el t g fm hm so si sh ce ca td wa kp la bf oo bo pw ow tr)) rfl rfl rfl (Nat.le_of_ble_eq_true rfl) rfl (ab_rvOf w1 rfl) (Ev.vi (show qBest (dn4 s) (dnP s) = _ from if_neg (by omega)) (sq_bestThrow w_q1 I4 hp4)) (by decide) rfl ?_
        refine E_istore_n (L2 := [some (.ref 1), some (.int (nI (dnP s))), some (.int (-1))]) rfl rfl ?_
        refine E_iload_n rfl rfl ?_
        refine E_iconst (x := (-1)) rfl (by decide) ?_
        refine E_ic (t := 85) (b := true) rfl rfl (by decide) ?_
        refine E_aload_n rfl rfl ?_
        refine E_iload_n rfl rfl ?_
        refine E_aload_n rfl rfl ?_
        refine E_aload_n rfl rfl ?_
        refine E_getfield (v := .int (nI (qN (dn4 s)))) rfl w1 rfl (by decide) rfl ?_
        refine E_callV (v := some (.int (nI (dnX s)))) (As := [.ref 1, .int (nI (qN (dn4 s)))]) (r0 := [.int (nI (dnP s)), .ref 1]) (cs2 := (ww im lf (dnS (dn4 s)) d k ls rf rz ra rn rq lt m1 m2 m3 m4 bd fc hd sz el t g fm hm so si sh ce ca td wa kp la bf oo bo pw ow tr)) rfl rfl rfl (Nat.le_of_ble_eq_true rfl) rfl (ab_rvOf w1 rfl) (w_draw1 (n := qN (dn4 s)) (by omega) (by omega)) (by decide) w_lens ?_
        have e3 : Ev ab_Z0 2 74 [.ref 1, .int (nI (dnP s)), .int (nI (dnX s))] (ww im lf (dnS (dn4 s)) d k ls rf rz ra rn rq lt m1 m2 m3 m4 bd fc hd sz el t g fm hm so si sh ce ca td wa kp la bf oo bo pw ow tr) (none, (ww im lf (dnS (dn4 s)) d k ls rf rz ra rn rq lt m1 m2 m3 m4 bd fc hd sz el t g fm hm so si sh ce ca td wa kp la bf oo bo pw ow tr)) := by
          refine Ef.in (md := mX4_throwIn) (L := [some (.ref 1), some (.int (nI (dnP s))), some (.int (nI (dnX s)))]) rfl (Nat.le_of_ble_eq_true rfl) rfl ?_
          refine E_aload_n rfl rfl ?_
          refine E_iload_n rfl rfl ?_
          have e2 : Ev ab_Z0 1 50 [.ref 1, .int (nI (dnX s))] (ww im lf (dnS (dn4 s)) d k ls rf rz ra rn rq lt m1 m2 m3 m4 bd fc hd sz el t g fm hm so si sh ce ca td wa kp la bf oo bo pw ow tr) (some (.int (nI 1)), (ww im lf (dnS (dn4 s)) d k ls rf rz ra rn rq lt m1 m2 m3 m4 bd fc hd sz el t g fm hm so si sh ce ca td wa kp la bf oo bo pw ow tr)) := by
            refine Ef.in (md := mX4_isPiece) (L := [some (.ref 1), some (.int (nI (dnX s)))]) rfl (Nat.le_of_ble_eq_true rfl) rfl ?_
            refine E_iload_n rfl rfl ?_
            refine E_if (t := 16) (b := false) rfl rfl ((cn_lt (nI_toInt (by omega)) (by decide : (0 : Int32).toInt = 0)).trans (decide_eq_false (by omega))) ?_
            refine E_iload_n rfl rfl ?_
            refine E_aload_n rfl rfl ?_
            refine E_getfield (v := .int (nI (qN (dnS (dn4 s))))) rfl w1 rfl (by decide) rfl ?_
            refine E_ic (t := 16) (b := false) rfl rfl ((cn_ge (nI_toInt (by omega)) (nI_toInt (by omega))).trans (decide_eq_false (by omega))) ?_
            refine E_iconst (x := nI 1) rfl (by decide) ?_
            refine E_goto (t := 17) rfl rfl ?_
            exact E_iret rfl rfl
          refine E_callV (v := some (.int (nI 1))) (As := [.ref 1, .int (nI (dnX s))]) (r0 := []) (cs2 := (ww im lf (dnS (dn4 s)) d k ls rf rz ra rn rq lt m1 m2 m3 m4 bd fc hd sz el t g fm hm so si sh ce ca td wa kp la bf oo bo pw ow tr)) rfl rfl rfl (Nat.le_of_ble_eq_true rfl) rfl (ab_rvOf w1 rfl) e2 (by decide) rfl ?_
          refine E_if (t := 26) (b := false) rfl rfl (by decide) ?_
          refine E_aload_n rfl rfl ?_
          refine E_getfield (v := .ref 5) rfl w1 rfl (by decide) rfl ?_
          refine E_iload_n rfl rfl ?_
          refine E_ialN (l := qP (dnS (dn4 s))) (v := (qP (dnS (dn4 s))).getD (dnX s) 0) rfl w5 (by omega) (by omega) rfl ?_
          refine E_iload_n rfl rfl ?_
          refine E_ic (t := 26) (b := true) rfl rfl ((cn_ne (nI_toInt (by omega)) (nI_toInt (by omega))).trans (decide_eq_true (by omega))) ?_
          exact E_vret rfl rfl
        refine E_callV (v := none) (As := [.ref 1, .int (nI (dnP s)), .int (nI (dnX s))]) (r0 := []) (cs2 := (ww im lf (dnS (dn4 s)) d k ls rf rz ra rn rq lt m1 m2 m3 m4 bd fc hd sz el t g fm hm so si sh ce ca td wa kp la bf oo bo pw ow tr)) rfl rfl rfl (Nat.le_of_ble_eq_true rfl) rfl (ab_rvOf w1 rfl) e3 (by decide) rfl ?_
        exact E_vret rfl rfl
    · have : (qU (dn2 s)).length = 6 := by first | omega | (simp only [List.length_set]; omega)
      have hx20 := dr_lt (dn2 s) (n := 20) (by decide)
      have : (qU (dnS (dn2 s))).length = 6 := by first | omega | (simp only [List.length_set]; omega)
      have hx8 := dr_lt (dn3 s) (n := 8) (by decide)
      have : (qW (dnS (dn3 s))).length = 6 := by first | omega | (simp only [List.length_set]; omega)
      have e : dnx s = (dn4 s) := by unfold dnx; rw [if_neg (by omega), if_pos (by omega)]
      rw [e]
      refine Ef.in (md := mX4_drawDay) (L := [some (.ref 1), none, none]) rfl (Nat.le_of_ble_eq_true rfl) rfl ?_
      refine E_aload_n rfl rfl ?_
      refine E_dup rfl rfl ?_
      refine E_getfield (v := .int (qD s)) rfl w1 rfl (by decide) rfl ?_
      refine E_iconst (x := nI 1) rfl (by decide) ?_
      refine E_iadd (z := (qD s) + (nI 1)) rfl rfl ?_
      refine E_putfield (cs2 := (ww im lf (qs_D s ((qD s) + (nI 1))) d k ls rf rz ra rn rq lt m1 m2 m3 m4 bd fc hd sz el t g fm hm so si sh ce ca td wa kp la bf oo bo pw ow tr)) rfl w1 rfl (by decide) (Nat.le_of_ble_eq_true rfl) rfl rfl rfl w_pt1_D ?_
      refine E_aload_n rfl rfl ?_
      refine E_aload_n rfl rfl ?_
      refine E_getfield (v := .int (nI (qM s))) rfl w1 rfl (by decide) (congrArg (fun z => some (Value.int (nI z))) qg_MD) ?_
      refine E_callV (v := some (.int (nI (dnP s)))) (As := [.ref 1, .int (nI (qM s))]) (r0 := []) (cs2 := (ww im lf (dn2 s) d k ls rf rz ra rn rq lt m1 m2 m3 m4 bd fc hd sz el t g fm hm so si sh ce ca td wa kp la bf oo bo pw ow tr)) rfl rfl rfl (Nat.le_of_ble_eq_true rfl) rfl (ab_rvOf w1 rfl) (w_draw1 (n := qM s) (by omega) (by omega)) (by decide) w_lens ?_
      refine E_istore_n (L2 := [some (.ref 1), some (.int (nI (dnP s))), none]) rfl rfl ?_
      refine E_aload_n rfl rfl ?_
      refine E_iload_n rfl rfl ?_
      have e1 : Ev ab_Z0 1 51 [.ref 1, .int (nI (dnP s))] (ww im lf (dn2 s) d k ls rf rz ra rn rq lt m1 m2 m3 m4 bd fc hd sz el t g fm hm so si sh ce ca td wa kp la bf oo bo pw ow tr) (some (.int (nI 1)), (ww im lf (dn2 s) d k ls rf rz ra rn rq lt m1 m2 m3 m4 bd fc hd sz el t g fm hm so si sh ce ca td wa kp la bf oo bo pw ow tr)) := by
        refine Ef.in (md := mX4_isPerson) (L := [some (.ref 1), some (.int (nI (dnP s)))]) rfl (Nat.le_of_ble_eq_true rfl) rfl ?_
        refine E_iload_n rfl rfl ?_
        refine E_if (t := 16) (b := false) rfl rfl ((cn_lt (nI_toInt (by omega)) (by decide : (0 : Int32).toInt = 0)).trans (decide_eq_false (by omega))) ?_
        refine E_iload_n rfl rfl ?_
        refine E_aload_n rfl rfl ?_
        refine E_getfield (v := .int (nI (qM (dn2 s)))) rfl w1 rfl (by decide) rfl ?_
        refine E_ic (t := 16) (b := false) rfl rfl ((cn_ge (nI_toInt (by omega)) (nI_toInt (by omega))).trans (decide_eq_false (by omega))) ?_
        refine E_iconst (x := nI 1) rfl (by decide) ?_
        refine E_goto (t := 17) rfl rfl ?_
        exact E_iret rfl rfl
      refine E_callV (v := some (.int (nI 1))) (As := [.ref 1, .int (nI (dnP s))]) (r0 := []) (cs2 := (ww im lf (dn2 s) d k ls rf rz ra rn rq lt m1 m2 m3 m4 bd fc hd sz el t g fm hm so si sh ce ca td wa kp la bf oo bo pw ow tr)) rfl rfl rfl (Nat.le_of_ble_eq_true rfl) rfl (ab_rvOf w1 rfl) e1 (by decide) rfl ?_
      refine E_if (t := 28) (b := true) rfl rfl (by decide) ?_
      refine E_aload_n rfl rfl ?_
      refine E_getfield (v := .ref 6) rfl w1 rfl (by decide) rfl ?_
      refine E_iload_n rfl rfl ?_
      refine E_aload_n rfl rfl ?_
      refine E_getfield (v := .ref 6) rfl w1 rfl (by decide) rfl ?_
      refine E_iload_n rfl rfl ?_
      refine E_ialN (l := qU (dn2 s)) (v := (qU (dn2 s)).getD (dnP s) 0) rfl w6 (by omega) (by omega) rfl ?_
      refine E_aload_n rfl rfl ?_
      refine E_bipush (x := nI 20) rfl (by decide) ?_
      refine E_callV (v := some (.int (nI (qDr (dn2 s) 20)))) (As := [.ref 1, .int (nI 20)]) (r0 := [.int (nI ((qU (dn2 s)).getD (dnP s) 0)), .int (nI (dnP s)), .ref 6]) (cs2 := (ww im lf (dnS (dn2 s)) d k ls rf rz ra rn rq lt m1 m2 m3 m4 bd fc hd sz el t g fm hm so si sh ce ca td wa kp la bf oo bo pw ow tr)) rfl rfl rfl (Nat.le_of_ble_eq_true rfl) rfl (ab_rvOf w1 rfl) (w_draw1 (n := 20) (by omega) (by omega)) (by decide) w_lens ?_
      refine E_iadd (z := nI (((qU (dn2 s)).getD (dnP s) 0) + (qDr (dn2 s) 20))) rfl (nI_add _ _) ?_
      refine E_bipush (x := nI 99) rfl (by decide) ?_
      refine E_min (z := nI (dnV s)) rfl (Nat.le_of_ble_eq_true rfl) (ab_min99 (by omega)) ?_
      refine E_iasN (l := qU (dnS (dn2 s))) (cs2 := (ww im lf (qs_U (dnS (dn2 s)) ((qU (dnS (dn2 s))).set (dnP s) (dnV s))) d k ls rf rz ra rn rq lt m1 m2 m3 m4 bd fc hd sz el t g fm hm so si sh ce ca td wa kp la bf oo bo pw ow tr)) rfl w6 (by omega) (by omega) w_pt1_U ?_
      rw [show (qs_U (dnS (dn2 s)) ((qU (dnS (dn2 s))).set (dnP s) (dnV s))) = (dn3 s) from rfl]
      refine E_aload_n rfl rfl ?_
      refine E_getfield (v := .ref 8) rfl w1 rfl (by decide) rfl ?_
      refine E_iload_n rfl rfl ?_
      refine E_aload_n rfl rfl ?_
      refine E_bipush (x := nI 8) rfl (by decide) ?_
      refine E_callV (v := some (.int (nI (qDr (dn3 s) 8)))) (As := [.ref 1, .int (nI 8)]) (r0 := [.int (nI (dnP s)), .ref 8]) (cs2 := (ww im lf (dnS (dn3 s)) d k ls rf rz ra rn rq lt m1 m2 m3 m4 bd fc hd sz el t g fm hm so si sh ce ca td wa kp la bf oo bo pw ow tr)) rfl rfl rfl (Nat.le_of_ble_eq_true rfl) rfl (ab_rvOf w1 rfl) (w_draw1 (n := 8) (by omega) (by omega)) (by decide) w_lens ?_
      refine E_iasN (l := qW (dnS (dn3 s))) (cs2 := (ww im lf (qs_W (dnS (dn3 s)) ((qW (dnS (dn3 s))).set (dnP s) (qDr (dn3 s) 8))) d k ls rf rz ra rn rq lt m1 m2 m3 m4 bd fc hd sz el t g fm hm so si sh ce ca td wa kp la bf oo bo pw ow tr)) rfl w8 (by omega) (by omega) w_pt1_W ?_
      rw [show (qs_W (dnS (dn3 s)) ((qW (dnS (dn3 s))).set (dnP s) (qDr (dn3 s) 8))) = (dn4 s) from rfl]
      refine E_aload_n rfl rfl ?_
      refine E_iload_n rfl rfl ?_
      refine E_callV (v := some (.int (-1))) (As := [.ref 1, .int (nI (dnP s))]) (r0 := []) (cs2 := (ww im lf (dn4 s) d k ls rf rz ra rn rq lt m1 m2 m3 m4 bd fc hd sz el t g fm hm so si sh ce ca td wa kp la bf oo bo pw ow tr)) rfl rfl rfl (Nat.le_of_ble_eq_true rfl) rfl (ab_rvOf w1 rfl) (Ev.vi (show qBest (dn4 s) (dnP s) = _ from if_neg (by omega)) (sq_bestThrow w_q1 I4 hp4)) (by decide) rfl ?_
      refine E_istore_n (L2 := [some (.ref 1), some (.int (nI (dnP s))), some (.int (-1))]) rfl rfl ?_
      refine E_iload_n rfl rfl ?_
      refine E_iconst (x := (-1)) rfl (by decide) ?_
      refine E_ic (t := 85) (b := true) rfl rfl (by decide) ?_
      refine E_aload_n rfl rfl ?_
      refine E_iload_n rfl rfl ?_
      refine E_aload_n rfl rfl ?_
      refine E_aload_n rfl rfl ?_
      refine E_getfield (v := .int (nI (qN (dn4 s)))) rfl w1 rfl (by decide) rfl ?_
      have e2 : Ev ab_Z0 1 72 [.ref 1, .int (nI (qN (dn4 s)))] (ww im lf (dn4 s) d k ls rf rz ra rn rq lt m1 m2 m3 m4 bd fc hd sz el t g fm hm so si sh ce ca td wa kp la bf oo bo pw ow tr) (some (.int (nI 0)), (ww im lf (dn4 s) d k ls rf rz ra rn rq lt m1 m2 m3 m4 bd fc hd sz el t g fm hm so si sh ce ca td wa kp la bf oo bo pw ow tr)) := by
        refine Ef.in (md := mX4_draw) (L := [some (.ref 1), some (.int (nI (qN (dn4 s))))]) rfl (Nat.le_of_ble_eq_true rfl) rfl ?_
        refine E_iload_n rfl rfl ?_
        refine E_iconst (x := nI 1) rfl (by decide) ?_
        refine E_ic (t := 7) (b := false) rfl rfl ((cn_ge (nI_toInt (by omega)) (nI_toInt (by omega))).trans (decide_eq_false (by omega))) ?_
        refine E_iconst (x := nI 0) rfl (by decide) ?_
        exact E_iret rfl rfl
      refine E_callV (v := some (.int (nI 0))) (As := [.ref 1, .int (nI (qN (dn4 s)))]) (r0 := [.int (nI (dnP s)), .ref 1]) (cs2 := (ww im lf (dn4 s) d k ls rf rz ra rn rq lt m1 m2 m3 m4 bd fc hd sz el t g fm hm so si sh ce ca td wa kp la bf oo bo pw ow tr)) rfl rfl rfl (Nat.le_of_ble_eq_true rfl) rfl (ab_rvOf w1 rfl) e2 (by decide) rfl ?_
      have e4 : Ev ab_Z0 2 74 [.ref 1, .int (nI (dnP s)), .int (nI 0)] (ww im lf (dn4 s) d k ls rf rz ra rn rq lt m1 m2 m3 m4 bd fc hd sz el t g fm hm so si sh ce ca td wa kp la bf oo bo pw ow tr) (none, (ww im lf (dn4 s) d k ls rf rz ra rn rq lt m1 m2 m3 m4 bd fc hd sz el t g fm hm so si sh ce ca td wa kp la bf oo bo pw ow tr)) := by
        refine Ef.in (md := mX4_throwIn) (L := [some (.ref 1), some (.int (nI (dnP s))), some (.int (nI 0))]) rfl (Nat.le_of_ble_eq_true rfl) rfl ?_
        refine E_aload_n rfl rfl ?_
        refine E_iload_n rfl rfl ?_
        have e3 : Ev ab_Z0 1 50 [.ref 1, .int (nI 0)] (ww im lf (dn4 s) d k ls rf rz ra rn rq lt m1 m2 m3 m4 bd fc hd sz el t g fm hm so si sh ce ca td wa kp la bf oo bo pw ow tr) (some (.int (nI 0)), (ww im lf (dn4 s) d k ls rf rz ra rn rq lt m1 m2 m3 m4 bd fc hd sz el t g fm hm so si sh ce ca td wa kp la bf oo bo pw ow tr)) := by
          refine Ef.in (md := mX4_isPiece) (L := [some (.ref 1), some (.int (nI 0))]) rfl (Nat.le_of_ble_eq_true rfl) rfl ?_
          refine E_iload_n rfl rfl ?_
          refine E_if (t := 16) (b := false) rfl rfl (by decide) ?_
          refine E_iload_n rfl rfl ?_
          refine E_aload_n rfl rfl ?_
          refine E_getfield (v := .int (nI (qN (dn4 s)))) rfl w1 rfl (by decide) rfl ?_
          refine E_ic (t := 16) (b := true) rfl rfl ((cn_ge (nI_toInt (by omega)) (nI_toInt (by omega))).trans (decide_eq_true (by omega))) ?_
          refine E_iconst (x := nI 0) rfl (by decide) ?_
          exact E_iret rfl rfl
        refine E_callV (v := some (.int (nI 0))) (As := [.ref 1, .int (nI 0)]) (r0 := []) (cs2 := (ww im lf (dn4 s) d k ls rf rz ra rn rq lt m1 m2 m3 m4 bd fc hd sz el t g fm hm so si sh ce ca td wa kp la bf oo bo pw ow tr)) rfl rfl rfl (Nat.le_of_ble_eq_true rfl) rfl (ab_rvOf w1 rfl) e3 (by decide) rfl ?_
        refine E_if (t := 26) (b := true) rfl rfl (by decide) ?_
        exact E_vret rfl rfl
      refine E_callV (v := none) (As := [.ref 1, .int (nI (dnP s)), .int (nI 0)]) (r0 := []) (cs2 := (ww im lf (dn4 s) d k ls rf rz ra rn rq lt m1 m2 m3 m4 bd fc hd sz el t g fm hm so si sh ce ca td wa kp la bf oo bo pw ow tr)) rfl rfl rfl (Nat.le_of_ble_eq_true rfl) rfl (ab_rvOf w1 rfl) e4 (by decide) rfl ?_
      exact E_vret rfl rfl
set_option maxHeartbeats 4000000 in
theorem w_day65 (I : qI t) (hM : 0 < qM t) (l_bf : bf.length = 100) : Ev ab_Z0 6 200 [.ref 65] (ww im lf s d k ls rf rz ra rn rq lt m1 m2 m3 m4 bd fc hd sz el t g fm hm so si sh ce ca td wa kp la bf oo bo pw ow tr) (none, (ww im lf s d k ls rf rz ra rn rq lt m1 m2 m3 m4 bd fc hd sz el (dnx t) (fUp (fUp g 36 (thA (dn4 t) (dnP t))) 37 (thB (dn4 t) (dnP t))) fm hm so si sh ce ca td wa kp la (lsF (bst (dn4 t) (qPs (dn4 t) 99 (qN (dn4 t))) (qN (dn4 t)) (2 ^ qN (dn4 t)))) oo bo pw ow tr)) := by
  have I2 := dn2_I I
  have I4 := dn4_I I
  have h9 : qN (dn4 t) ≤ 9 := I4.2.2.1.1
  have h6 := I.2.2.1.2
  have hp := dnP_lt hM
  have hp4 : dnP t < qM (dn4 t) := by rw [dn4_M]; exact hp
  have hU2 := (I2.2.2.2.2.1 (dnP t) (by rw [dn2_M]; exact hp)).1
  have hU4 := I4.2.2.2.2.1 (dnP t) hp4
  have hV := dnV_99 t
  have hr := qPr_in I4 (dnP t) (w := (qW (dn4 t)).getD (dnP t) 0) (by omega)
  have l6 : (qU (dnS (dn2 t))).length = 6 := (congrArg List.length (dnS_U _)).trans I2.2.1.1
  have l6b : (qW (dnS (dn3 t))).length = 6 := (congrArg List.length (dnS_W _)).trans (dn3_I I).2.1.2.2.1
  have l6c : (qU (dn4 t)).length = 6 := I4.2.1.1
  have l6d : (qG (dn4 t)).length = 6 := I4.2.1.2.2.2.1
  have l6a : (qU (dn2 t)).length = 6 := I2.2.1.1
  have hM2 := dn2_M t
  have hN5 := dnS_N (dn4 t)
  have l9 : (qP (dnS (dn4 t))).length = 9 := (congrArg List.length (dnS_P _)).trans I4.1.2.2.2
  by_cases f0 : 99 < ((qU (dn2 t)).getD (dnP t) 0) + (qDr (dn2 t) 20)
  · by_cases f1 : (qPr (dn4 t) (dnP t) ((qW (dn4 t)).getD (dnP t) 0)) ≤ ((qU (dn4 t)).getD (dnP t) 0)
    · have : (qU (dn2 t)).length = 6 := by first | omega | (simp only [List.length_set]; omega)
      have hx20 := dr_lt (dn2 t) (n := 20) (by decide)
      have : (qU (dnS (dn2 t))).length = 6 := by first | omega | (simp only [List.length_set]; omega)
      have : ((qU (dnS (dn2 t))).set (dnP t) (((qU (dn2 t)).getD (dnP t) 0) + (qDr (dn2 t) 20))).length = 6 := by first | omega | (simp only [List.length_set]; omega)
      have hx8 := dr_lt (dn3 t) (n := 8) (by decide)
      have : (qW (dnS (dn3 t))).length = 6 := by first | omega | (simp only [List.length_set]; omega)
      have : (qU (dn4 t)).length = 6 := by first | omega | (simp only [List.length_set]; omega)
      have : (qG (dn4 t)).length = 6 := by first | omega | (simp only [List.length_set]; omega)
      have e : dnx t = (qs_P (qs_Y (qs_G (qs_U (dn4 t) ((qU (dn4 t)).set (dnP t) (((qU (dn4 t)).getD (dnP t) 0) - (qPr (dn4 t) (dnP t) ((qW (dn4 t)).getD (dnP t) 0))))) ((qG (dn4 t)).set (dnP t) (((qG (dn4 t)).getD (dnP t) 0) + (nI 1)))) ((qY (dn4 t)) + (nI (qPr (dn4 t) (dnP t) ((qW (dn4 t)).getD (dnP t) 0))))) (qGP (qP (dn4 t)) (dnP t) 0 (qN (dn4 t)))) := by unfold dnx grQ; rw [if_pos (by omega)]
      have eA : thA (dn4 t) (dnP t) = nI (qPr (dn4 t) (dnP t) ((qW (dn4 t)).getD (dnP t) 0)) := if_pos (by omega)
      have eB : thB (dn4 t) (dnP t) = nI 0 := if_pos (by omega)
      rw [e, eA, eB]
      refine Ef.in (md := mX6_day) (L := [some (.ref 65), none, none]) rfl (Nat.le_of_ble_eq_true rfl) rfl ?_
      refine E_aload_n rfl rfl ?_
      refine E_dup rfl rfl ?_
      refine E_getfield (v := .int (qD t)) rfl w65 rfl (by decide) rfl ?_
      refine E_iconst (x := nI 1) rfl (by decide) ?_
      refine E_iadd (z := (qD t) + (nI 1)) rfl rfl ?_
      refine E_putfield (cs2 := (ww im lf s d k ls rf rz ra rn rq lt m1 m2 m3 m4 bd fc hd sz el (qs_D t ((qD t) + (nI 1))) g fm hm so si sh ce ca td wa kp la bf oo bo pw ow tr)) rfl w65 rfl (by decide) (Nat.le_of_ble_eq_true rfl) rfl rfl rfl w_pt65_D ?_
      refine E_aload_n rfl rfl ?_
      refine E_aload_n rfl rfl ?_
      refine E_getfield (v := .int (nI (qM t))) rfl w65 rfl (by decide) (congrArg (fun z => some (Value.int (nI z))) qg_MD) ?_
      refine E_callV (v := some (.int (nI (dnP t)))) (As := [.ref 65, .int (nI (qM t))]) (r0 := []) (cs2 := (ww im lf s d k ls rf rz ra rn rq lt m1 m2 m3 m4 bd fc hd sz el (dn2 t) g fm hm so si sh ce ca td wa kp la bf oo bo pw ow tr)) rfl rfl rfl (Nat.le_of_ble_eq_true rfl) rfl (ab_rvOf w65 rfl) (w_draw65 (n := qM t) (by omega) (by omega)) (by decide) w_lens ?_
      refine E_istore_n (L2 := [some (.ref 65), some (.int (nI (dnP t))), none]) rfl rfl ?_
      refine E_aload_n rfl rfl ?_
      refine E_getfield (v := .ref 71) rfl w65 rfl (by decide) rfl ?_
      refine E_iload_n rfl rfl ?_
      refine E_dup2 rfl ⟨rfl, rfl⟩ ?_
      refine E_ialN (l := qU (dn2 t)) (v := (qU (dn2 t)).getD (dnP t) 0) rfl w71 (by omega) (by omega) rfl ?_
      refine E_aload_n rfl rfl ?_
      refine E_bipush (x := nI 20) rfl (by decide) ?_
      refine E_callV (v := some (.int (nI (qDr (dn2 t) 20)))) (As := [.ref 65, .int (nI 20)]) (r0 := [.int (nI ((qU (dn2 t)).getD (dnP t) 0)), .int (nI (dnP t)), .ref 71]) (cs2 := (ww im lf s d k ls rf rz ra rn rq lt m1 m2 m3 m4 bd fc hd sz el (dnS (dn2 t)) g fm hm so si sh ce ca td wa kp la bf oo bo pw ow tr)) rfl rfl rfl (Nat.le_of_ble_eq_true rfl) rfl (ab_rvOf w65 rfl) (w_draw65 (n := 20) (by omega) (by omega)) (by decide) w_lens ?_
      refine E_iadd (z := nI (((qU (dn2 t)).getD (dnP t) 0) + (qDr (dn2 t) 20))) rfl (nI_add _ _) ?_
      refine E_iasN (l := qU (dnS (dn2 t))) (cs2 := (ww im lf s d k ls rf rz ra rn rq lt m1 m2 m3 m4 bd fc hd sz el (qs_U (dnS (dn2 t)) ((qU (dnS (dn2 t))).set (dnP t) (((qU (dn2 t)).getD (dnP t) 0) + (qDr (dn2 t) 20)))) g fm hm so si sh ce ca td wa kp la bf oo bo pw ow tr)) rfl w71 (by omega) (by omega) w_pt65_U ?_
      refine E_aload_n rfl rfl ?_
      refine E_getfield (v := .ref 71) rfl w65 rfl (by decide) rfl ?_
      refine E_iload_n rfl rfl ?_
      refine E_ialN (l := (qU (dnS (dn2 t))).set (dnP t) (((qU (dn2 t)).getD (dnP t) 0) + (qDr (dn2 t) 20))) (v := (qU (dn2 t)).getD (dnP t) 0 + qDr (dn2 t) 20) rfl (w71v qg_UU) (by omega) (by omega) (ab_gs2 (by omega)) ?_
      refine E_bipush (x := nI 99) rfl (by decide) ?_
      refine E_ic (t := 53) (b := false) rfl rfl ((cn_le (nI_toInt (by omega)) (nI_toInt (by omega))).trans (decide_eq_false (by omega))) ?_
      refine E_aload_n rfl rfl ?_
      refine E_getfield (v := .ref 71) rfl w65 rfl (by decide) rfl ?_
      refine E_iload_n rfl rfl ?_
      refine E_bipush (x := nI 99) rfl (by decide) ?_
      refine E_iasN (l := (qU (dnS (dn2 t))).set (dnP t) (((qU (dn2 t)).getD (dnP t) 0) + (qDr (dn2 t) 20))) (cs2 := (ww im lf s d k ls rf rz ra rn rq lt m1 m2 m3 m4 bd fc hd sz el (qs_U (qs_U (dnS (dn2 t)) ((qU (dnS (dn2 t))).set (dnP t) (((qU (dn2 t)).getD (dnP t) 0) + (qDr (dn2 t) 20)))) (((qU (dnS (dn2 t))).set (dnP t) (((qU (dn2 t)).getD (dnP t) 0) + (qDr (dn2 t) 20))).set (dnP t) 99)) g fm hm so si sh ce ca td wa kp la bf oo bo pw ow tr)) rfl (w71v qg_UU) (by omega) (by omega) w_pt65_U ?_
      rw [dn3_b (q := t) (by omega)]
      refine E_aload_n rfl rfl ?_
      refine E_getfield (v := .ref 73) rfl w65 rfl (by decide) rfl ?_
      refine E_iload_n rfl rfl ?_
      refine E_aload_n rfl rfl ?_
      refine E_bipush (x := nI 8) rfl (by decide) ?_
      refine E_callV (v := some (.int (nI (qDr (dn3 t) 8)))) (As := [.ref 65, .int (nI 8)]) (r0 := [.int (nI (dnP t)), .ref 73]) (cs2 := (ww im lf s d k ls rf rz ra rn rq lt m1 m2 m3 m4 bd fc hd sz el (dnS (dn3 t)) g fm hm so si sh ce ca td wa kp la bf oo bo pw ow tr)) rfl rfl rfl (Nat.le_of_ble_eq_true rfl) rfl (ab_rvOf w65 rfl) (w_draw65 (n := 8) (by omega) (by omega)) (by decide) w_lens ?_
      refine E_iasN (l := qW (dnS (dn3 t))) (cs2 := (ww im lf s d k ls rf rz ra rn rq lt m1 m2 m3 m4 bd fc hd sz el (qs_W (dnS (dn3 t)) ((qW (dnS (dn3 t))).set (dnP t) (qDr (dn3 t) 8))) g fm hm so si sh ce ca td wa kp la bf oo bo pw ow tr)) rfl w73 (by omega) (by omega) w_pt65_W ?_
      rw [show (qs_W (dnS (dn3 t)) ((qW (dnS (dn3 t))).set (dnP t) (qDr (dn3 t) 8))) = (dn4 t) from rfl]
      refine E_aload_n rfl rfl ?_
      refine E_iload_n rfl rfl ?_
      refine E_callV (v := none) (As := [.ref 65, .int (nI (dnP t))]) (r0 := []) (cs2 := (ww im lf s d k ls rf rz ra rn rq lt m1 m2 m3 m4 bd fc hd sz el (dn4 t) (fUp (fUp g 36 (nI (qPr (dn4 t) (dnP t) ((qW (dn4 t)).getD (dnP t) 0)))) 37 (nI 0)) fm hm so si sh ce ca td wa kp la (lsF (bst (dn4 t) (qPs (dn4 t) 99 (qN (dn4 t))) (qN (dn4 t)) (2 ^ qN (dn4 t)))) oo bo pw ow tr)) rfl rfl rfl (Nat.le_of_ble_eq_true rfl) rfl (ab_rvOf w65 rfl) (Ev.to (w_throw I4 hp4 l_bf) (by unfold thA thB; rw [if_pos (by omega), if_pos (by omega)])) (by decide) w_lens ?_
      refine E_aload_n rfl rfl ?_
      refine E_getfield (v := .int (nI (qPr (dn4 t) (dnP t) ((qW (dn4 t)).getD (dnP t) 0)))) rfl w65 rfl (by decide) rfl ?_
      refine E_iconst (x := (-1)) rfl (by decide) ?_
      refine E_ic (t := 99) (b := false) rfl rfl ((cn_eq (nI_toInt (by omega)) (by decide : (-1 : Int32).toInt = -1)).trans (decide_eq_false (by omega))) ?_
      refine E_aload_n rfl rfl ?_
      refine E_iload_n rfl rfl ?_
      refine E_aload_n rfl rfl ?_
      refine E_getfield (v := .int (nI (qPr (dn4 t) (dnP t) ((qW (dn4 t)).getD (dnP t) 0)))) rfl w65 rfl (by decide) rfl ?_
      refine E_aload_n rfl rfl ?_
      refine E_iload_n rfl rfl ?_
      refine E_aload_n rfl rfl ?_
      refine E_getfield (v := .int (nI (qPr (dn4 t) (dnP t) ((qW (dn4 t)).getD (dnP t) 0)))) rfl w65 rfl (by decide) rfl ?_
      refine E_callV (v := some (.int (nI 0))) (As := [.ref 65, .int (nI (dnP t)), .int (nI (qPr (dn4 t) (dnP t) ((qW (dn4 t)).getD (dnP t) 0)))]) (r0 := [.int (nI (qPr (dn4 t) (dnP t) ((qW (dn4 t)).getD (dnP t) 0))), .int (nI (dnP t)), .ref 65]) (cs2 := (ww im lf s d k ls rf rz ra rn rq lt m1 m2 m3 m4 bd fc hd sz el (dn4 t) (fUp (fUp g 36 (nI (qPr (dn4 t) (dnP t) ((qW (dn4 t)).getD (dnP t) 0)))) 37 (nI 0)) fm hm so si sh ce ca td wa kp la (lsF (bst (dn4 t) (qPs (dn4 t) 99 (qN (dn4 t))) (qN (dn4 t)) (2 ^ qN (dn4 t)))) oo bo pw ow tr)) rfl rfl rfl (Nat.le_of_ble_eq_true rfl) rfl (ab_rvOf w65 rfl) (w_thrown0 I4 hp4 (by omega)) (by decide) rfl ?_
      have e1 : Ev ab_Z0 1 183 [.ref 65, .int (nI (dnP t)), .int (nI (qPr (dn4 t) (dnP t) ((qW (dn4 t)).getD (dnP t) 0))), .int (nI 0)] (ww im lf s d k ls rf rz ra rn rq lt m1 m2 m3 m4 bd fc hd sz el (dn4 t) (fUp (fUp g 36 (nI (qPr (dn4 t) (dnP t) ((qW (dn4 t)).getD (dnP t) 0)))) 37 (nI 0)) fm hm so si sh ce ca td wa kp la (lsF (bst (dn4 t) (qPs (dn4 t) 99 (qN (dn4 t))) (qN (dn4 t)) (2 ^ qN (dn4 t)))) oo bo pw ow tr) (none, (ww im lf s d k ls rf rz ra rn rq lt m1 m2 m3 m4 bd fc hd sz el (qs_P (qs_Y (qs_G (qs_U (dn4 t) ((qU (dn4 t)).set (dnP t) (((qU (dn4 t)).getD (dnP t) 0) - (qPr (dn4 t) (dnP t) ((qW (dn4 t)).getD (dnP t) 0))))) ((qG (dn4 t)).set (dnP t) (((qG (dn4 t)).getD (dnP t) 0) + (nI 1)))) ((qY (dn4 t)) + (nI (qPr (dn4 t) (dnP t) ((qW (dn4 t)).getD (dnP t) 0))))) (qGP (qP (dn4 t)) (dnP t) 0 (qN (dn4 t)))) (fUp (fUp g 36 (nI (qPr (dn4 t) (dnP t) ((qW (dn4 t)).getD (dnP t) 0)))) 37 (nI 0)) fm hm so si sh ce ca td wa kp la (lsF (bst (dn4 t) (qPs (dn4 t) 99 (qN (dn4 t))) (qN (dn4 t)) (2 ^ qN (dn4 t)))) oo bo pw ow tr)) := by
        refine Ef.in (md := mX6_throwsIn) (L := [some (.ref 65), some (.int (nI (dnP t))), some (.int (nI (qPr (dn4 t) (dnP t) ((qW (dn4 t)).getD (dnP t) 0)))), some (.int (nI 0)), none]) rfl (Nat.le_of_ble_eq_true rfl) rfl ?_
        refine E_aload_n rfl rfl ?_
        refine E_getfield (v := .ref 71) rfl w65 rfl (by decide) rfl ?_
        refine E_iload_n rfl rfl ?_
        refine E_dup2 rfl ⟨rfl, rfl⟩ ?_
        refine E_ialN (l := qU (dn4 t)) (v := (qU (dn4 t)).getD (dnP t) 0) rfl w71 (by omega) (by omega) rfl ?_
        refine E_iload_n rfl rfl ?_
        refine E_isub (z := nI (((qU (dn4 t)).getD (dnP t) 0) - (qPr (dn4 t) (dnP t) ((qW (dn4 t)).getD (dnP t) 0)))) rfl (pk_sub (by omega)) ?_
        refine E_iasN (l := qU (dn4 t)) (cs2 := (ww im lf s d k ls rf rz ra rn rq lt m1 m2 m3 m4 bd fc hd sz el (qs_U (dn4 t) ((qU (dn4 t)).set (dnP t) (((qU (dn4 t)).getD (dnP t) 0) - (qPr (dn4 t) (dnP t) ((qW (dn4 t)).getD (dnP t) 0))))) (fUp (fUp g 36 (nI (qPr (dn4 t) (dnP t) ((qW (dn4 t)).getD (dnP t) 0)))) 37 (nI 0)) fm hm so si sh ce ca td wa kp la (lsF (bst (dn4 t) (qPs (dn4 t) 99 (qN (dn4 t))) (qN (dn4 t)) (2 ^ qN (dn4 t)))) oo bo pw ow tr)) rfl w71 (by omega) (by omega) w_pt65_U ?_
        refine E_aload_n rfl rfl ?_
        refine E_getfield (v := .ref 74) rfl w65 rfl (by decide) rfl ?_
        refine E_iload_n rfl rfl ?_
        refine E_dup2 rfl ⟨rfl, rfl⟩ ?_
        refine E_ialI (l := qG (dn4 t)) (v := (qG (dn4 t)).getD (dnP t) 0) rfl (w74v qg_GU) (by omega) (by omega) rfl ?_
        refine E_iconst (x := nI 1) rfl (by decide) ?_
        refine E_iadd (z := ((qG (dn4 t)).getD (dnP t) 0) + (nI 1)) rfl rfl ?_
        refine E_iasI (l := qG (dn4 t)) (cs2 := (ww im lf s d k ls rf rz ra rn rq lt m1 m2 m3 m4 bd fc hd sz el (qs_G (qs_U (dn4 t) ((qU (dn4 t)).set (dnP t) (((qU (dn4 t)).getD (dnP t) 0) - (qPr (dn4 t) (dnP t) ((qW (dn4 t)).getD (dnP t) 0))))) ((qG (dn4 t)).set (dnP t) (((qG (dn4 t)).getD (dnP t) 0) + (nI 1)))) (fUp (fUp g 36 (nI (qPr (dn4 t) (dnP t) ((qW (dn4 t)).getD (dnP t) 0)))) 37 (nI 0)) fm hm so si sh ce ca td wa kp la (lsF (bst (dn4 t) (qPs (dn4 t) 99 (qN (dn4 t))) (qN (dn4 t)) (2 ^ qN (dn4 t)))) oo bo pw ow tr)) rfl (w74v qg_GU) (by omega) (by omega) w_pt65_G ?_
        refine E_aload_n rfl rfl ?_
        refine E_dup rfl rfl ?_
        refine E_getfield (v := .int (qY (dn4 t))) rfl w65 rfl (by decide) (congrArg (fun z => some (Value.int z)) (qg_YG.trans qg_YU)) ?_
        refine E_iload_n rfl rfl ?_
        refine E_iadd (z := (qY (dn4 t)) + (nI (qPr (dn4 t) (dnP t) ((qW (dn4 t)).getD (dnP t) 0)))) rfl rfl ?_
        refine E_putfield (cs2 := (ww im lf s d k ls rf rz ra rn rq lt m1 m2 m3 m4 bd fc hd sz el (qs_Y (qs_G (qs_U (dn4 t) ((qU (dn4 t)).set (dnP t) (((qU (dn4 t)).getD (dnP t) 0) - (qPr (dn4 t) (dnP t) ((qW (dn4 t)).getD (dnP t) 0))))) ((qG (dn4 t)).set (dnP t) (((qG (dn4 t)).getD (dnP t) 0) + (nI 1)))) ((qY (dn4 t)) + (nI (qPr (dn4 t) (dnP t) ((qW (dn4 t)).getD (dnP t) 0))))) (fUp (fUp g 36 (nI (qPr (dn4 t) (dnP t) ((qW (dn4 t)).getD (dnP t) 0)))) 37 (nI 0)) fm hm so si sh ce ca td wa kp la (lsF (bst (dn4 t) (qPs (dn4 t) 99 (qN (dn4 t))) (qN (dn4 t)) (2 ^ qN (dn4 t)))) oo bo pw ow tr)) rfl w65 rfl (by decide) (Nat.le_of_ble_eq_true rfl) rfl rfl rfl w_pt65_Y ?_
        refine E_iconst (x := nI 0) rfl (by decide) ?_
        refine E_istore (L2 := [some (.ref 65), some (.int (nI (dnP t))), some (.int (nI (qPr (dn4 t) (dnP t) ((qW (dn4 t)).getD (dnP t) 0)))), some (.int (nI 0)), some (.int (nI 0))]) rfl rfl ?_
        exact grant_s65 (t := (qs_Y (qs_G (qs_U (dn4 t) ((qU (dn4 t)).set (dnP t) (((qU (dn4 t)).getD (dnP t) 0) - (qPr (dn4 t) (dnP t) ((qW (dn4 t)).getD (dnP t) 0))))) ((qG (dn4 t)).set (dnP t) (((qG (dn4 t)).getD (dnP t) 0) + (nI 1)))) ((qY (dn4 t)) + (nI (qPr (dn4 t) (dnP t) ((qW (dn4 t)).getD (dnP t) 0)))))) (p := dnP t) (n := qPr (dn4 t) (dnP t) ((qW (dn4 t)).getD (dnP t) 0)) (m := 0) (l := qP (dn4 t)) (n1 := qN (dn4 t)) ((congrArg (qs_P _) (Eq.symm (qg_PY.trans (qg_PG.trans qg_PU)))).trans qs_Pself) (qg_NY.trans (qg_NG.trans qg_NU)) (by omega) I4.1.2.2.2 (by omega) (by omega)
      refine E_callV (v := none) (As := [.ref 65, .int (nI (dnP t)), .int (nI (qPr (dn4 t) (dnP t) ((qW (dn4 t)).getD (dnP t) 0))), .int (nI 0)]) (r0 := []) (cs2 := (ww im lf s d k ls rf rz ra rn rq lt m1 m2 m3 m4 bd fc hd sz el (qs_P (qs_Y (qs_G (qs_U (dn4 t) ((qU (dn4 t)).set (dnP t) (((qU (dn4 t)).getD (dnP t) 0) - (qPr (dn4 t) (dnP t) ((qW (dn4 t)).getD (dnP t) 0))))) ((qG (dn4 t)).set (dnP t) (((qG (dn4 t)).getD (dnP t) 0) + (nI 1)))) ((qY (dn4 t)) + (nI (qPr (dn4 t) (dnP t) ((qW (dn4 t)).getD (dnP t) 0))))) (qGP (qP (dn4 t)) (dnP t) 0 (qN (dn4 t)))) (fUp (fUp g 36 (nI (qPr (dn4 t) (dnP t) ((qW (dn4 t)).getD (dnP t) 0)))) 37 (nI 0)) fm hm so si sh ce ca td wa kp la (lsF (bst (dn4 t) (qPs (dn4 t) 99 (qN (dn4 t))) (qN (dn4 t)) (2 ^ qN (dn4 t)))) oo bo pw ow tr)) rfl rfl rfl (Nat.le_of_ble_eq_true rfl) rfl (ab_rvOf w65 rfl) e1 (by decide) w_lens ?_
      refine E_goto (t := 133) rfl rfl ?_
      exact E_vret rfl rfl
    · by_cases f2 : 0 < (qN (dn4 t))
      · by_cases f3 : ((qP (dnS (dn4 t))).getD (dnX t) 0) = (dnP t)
        · have : (qU (dn2 t)).length = 6 := by first | omega | (simp only [List.length_set]; omega)
          have hx20 := dr_lt (dn2 t) (n := 20) (by decide)
          have : (qU (dnS (dn2 t))).length = 6 := by first | omega | (simp only [List.length_set]; omega)
          have : ((qU (dnS (dn2 t))).set (dnP t) (((qU (dn2 t)).getD (dnP t) 0) + (qDr (dn2 t) 20))).length = 6 := by first | omega | (simp only [List.length_set]; omega)
          have hx8 := dr_lt (dn3 t) (n := 8) (by decide)
          have : (qW (dnS (dn3 t))).length = 6 := by first | omega | (simp only [List.length_set]; omega)
          have hx := dr_lt (dn4 t) (n := qN (dn4 t)) (by omega)
          have hx2 : dnX t < qN (dn4 t) := hx
          have hM4 := dn4_M t
          have hpl : (qP (dnS (dn4 t))).getD (dnX t) 0 = 99 ∨ (qP (dnS (dn4 t))).getD (dnX t) 0 < qM (dn4 t) := by rw [dnS_P]; exact (I4.2.2.2.1 (dnX t) hx2).2.2.2.2
          have : (qP (dnS (dn4 t))).length = 9 := by first | omega | (simp only [List.length_set]; omega)
          have e : dnx t = (qs_P (dnS (dn4 t)) ((qP (dnS (dn4 t))).set (dnX t) 99)) := by unfold dnx; rw [if_neg (by omega), if_neg (by omega), if_pos (by omega)]
          have eA : thA (dn4 t) (dnP t) = (-1) := if_neg (by omega)
          have eB : thB (dn4 t) (dnP t) = (-1) := if_neg (by omega)
          rw [e, eA, eB]
          refine Ef.in (md := mX6_day) (L := [some (.ref 65), none, none]) rfl (Nat.le_of_ble_eq_true rfl) rfl ?_
          refine E_aload_n rfl rfl ?_
          refine E_dup rfl rfl ?_
          refine E_getfield (v := .int (qD t)) rfl w65 rfl (by decide) rfl ?_
          refine E_iconst (x := nI 1) rfl (by decide) ?_
          refine E_iadd (z := (qD t) + (nI 1)) rfl rfl ?_
          refine E_putfield (cs2 := (ww im lf s d k ls rf rz ra rn rq lt m1 m2 m3 m4 bd fc hd sz el (qs_D t ((qD t) + (nI 1))) g fm hm so si sh ce ca td wa kp la bf oo bo pw ow tr)) rfl w65 rfl (by decide) (Nat.le_of_ble_eq_true rfl) rfl rfl rfl w_pt65_D ?_
          refine E_aload_n rfl rfl ?_
          refine E_aload_n rfl rfl ?_
          refine E_getfield (v := .int (nI (qM t))) rfl w65 rfl (by decide) (congrArg (fun z => some (Value.int (nI z))) qg_MD) ?_
          refine E_callV (v := some (.int (nI (dnP t)))) (As := [.ref 65, .int (nI (qM t))]) (r0 := []) (cs2 := (ww im lf s d k ls rf rz ra rn rq lt m1 m2 m3 m4 bd fc hd sz el (dn2 t) g fm hm so si sh ce ca td wa kp la bf oo bo pw ow tr)) rfl rfl rfl (Nat.le_of_ble_eq_true rfl) rfl (ab_rvOf w65 rfl) (w_draw65 (n := qM t) (by omega) (by omega)) (by decide) w_lens ?_
          refine E_istore_n (L2 := [some (.ref 65), some (.int (nI (dnP t))), none]) rfl rfl ?_
          refine E_aload_n rfl rfl ?_
          refine E_getfield (v := .ref 71) rfl w65 rfl (by decide) rfl ?_
          refine E_iload_n rfl rfl ?_
          refine E_dup2 rfl ⟨rfl, rfl⟩ ?_
          refine E_ialN (l := qU (dn2 t)) (v := (qU (dn2 t)).getD (dnP t) 0) rfl w71 (by omega) (by omega) rfl ?_
          refine E_aload_n rfl rfl ?_
          refine E_bipush (x := nI 20) rfl (by decide) ?_
          refine E_callV (v := some (.int (nI (qDr (dn2 t) 20)))) (As := [.ref 65, .int (nI 20)]) (r0 := [.int (nI ((qU (dn2 t)).getD (dnP t) 0)), .int (nI (dnP t)), .ref 71]) (cs2 := (ww im lf s d k ls rf rz ra rn rq lt m1 m2 m3 m4 bd fc hd sz el (dnS (dn2 t)) g fm hm so si sh ce ca td wa kp la bf oo bo pw ow tr)) rfl rfl rfl (Nat.le_of_ble_eq_true rfl) rfl (ab_rvOf w65 rfl) (w_draw65 (n := 20) (by omega) (by omega)) (by decide) w_lens ?_
          refine E_iadd (z := nI (((qU (dn2 t)).getD (dnP t) 0) + (qDr (dn2 t) 20))) rfl (nI_add _ _) ?_
          refine E_iasN (l := qU (dnS (dn2 t))) (cs2 := (ww im lf s d k ls rf rz ra rn rq lt m1 m2 m3 m4 bd fc hd sz el (qs_U (dnS (dn2 t)) ((qU (dnS (dn2 t))).set (dnP t) (((qU (dn2 t)).getD (dnP t) 0) + (qDr (dn2 t) 20)))) g fm hm so si sh ce ca td wa kp la bf oo bo pw ow tr)) rfl w71 (by omega) (by omega) w_pt65_U ?_
          refine E_aload_n rfl rfl ?_
          refine E_getfield (v := .ref 71) rfl w65 rfl (by decide) rfl ?_
          refine E_iload_n rfl rfl ?_
          refine E_ialN (l := (qU (dnS (dn2 t))).set (dnP t) (((qU (dn2 t)).getD (dnP t) 0) + (qDr (dn2 t) 20))) (v := (qU (dn2 t)).getD (dnP t) 0 + qDr (dn2 t) 20) rfl (w71v qg_UU) (by omega) (by omega) (ab_gs2 (by omega)) ?_
          refine E_bipush (x := nI 99) rfl (by decide) ?_
          refine E_ic (t := 53) (b := false) rfl rfl ((cn_le (nI_toInt (by omega)) (nI_toInt (by omega))).trans (decide_eq_false (by omega))) ?_
          refine E_aload_n rfl rfl ?_
          refine E_getfield (v := .ref 71) rfl w65 rfl (by decide) rfl ?_
          refine E_iload_n rfl rfl ?_
          refine E_bipush (x := nI 99) rfl (by decide) ?_
          refine E_iasN (l := (qU (dnS (dn2 t))).set (dnP t) (((qU (dn2 t)).getD (dnP t) 0) + (qDr (dn2 t) 20))) (cs2 := (ww im lf s d k ls rf rz ra rn rq lt m1 m2 m3 m4 bd fc hd sz el (qs_U (qs_U (dnS (dn2 t)) ((qU (dnS (dn2 t))).set (dnP t) (((qU (dn2 t)).getD (dnP t) 0) + (qDr (dn2 t) 20)))) (((qU (dnS (dn2 t))).set (dnP t) (((qU (dn2 t)).getD (dnP t) 0) + (qDr (dn2 t) 20))).set (dnP t) 99)) g fm hm so si sh ce ca td wa kp la bf oo bo pw ow tr)) rfl (w71v qg_UU) (by omega) (by omega) w_pt65_U ?_
          rw [dn3_b (q := t) (by omega)]
          refine E_aload_n rfl rfl ?_
          refine E_getfield (v := .ref 73) rfl w65 rfl (by decide) rfl ?_
          refine E_iload_n rfl rfl ?_
          refine E_aload_n rfl rfl ?_
          refine E_bipush (x := nI 8) rfl (by decide) ?_
          refine E_callV (v := some (.int (nI (qDr (dn3 t) 8)))) (As := [.ref 65, .int (nI 8)]) (r0 := [.int (nI (dnP t)), .ref 73]) (cs2 := (ww im lf s d k ls rf rz ra rn rq lt m1 m2 m3 m4 bd fc hd sz el (dnS (dn3 t)) g fm hm so si sh ce ca td wa kp la bf oo bo pw ow tr)) rfl rfl rfl (Nat.le_of_ble_eq_true rfl) rfl (ab_rvOf w65 rfl) (w_draw65 (n := 8) (by omega) (by omega)) (by decide) w_lens ?_
          refine E_iasN (l := qW (dnS (dn3 t))) (cs2 := (ww im lf s d k ls rf rz ra rn rq lt m1 m2 m3 m4 bd fc hd sz el (qs_W (dnS (dn3 t)) ((qW (dnS (dn3 t))).set (dnP t) (qDr (dn3 t) 8))) g fm hm so si sh ce ca td wa kp la bf oo bo pw ow tr)) rfl w73 (by omega) (by omega) w_pt65_W ?_
          rw [show (qs_W (dnS (dn3 t)) ((qW (dnS (dn3 t))).set (dnP t) (qDr (dn3 t) 8))) = (dn4 t) from rfl]
          refine E_aload_n rfl rfl ?_
          refine E_iload_n rfl rfl ?_
          refine E_callV (v := none) (As := [.ref 65, .int (nI (dnP t))]) (r0 := []) (cs2 := (ww im lf s d k ls rf rz ra rn rq lt m1 m2 m3 m4 bd fc hd sz el (dn4 t) (fUp (fUp g 36 (-1)) 37 (-1)) fm hm so si sh ce ca td wa kp la (lsF (bst (dn4 t) (qPs (dn4 t) 99 (qN (dn4 t))) (qN (dn4 t)) (2 ^ qN (dn4 t)))) oo bo pw ow tr)) rfl rfl rfl (Nat.le_of_ble_eq_true rfl) rfl (ab_rvOf w65 rfl) (Ev.to (w_throw I4 hp4 l_bf) (by unfold thA thB; rw [if_neg (by omega), if_neg (by omega)])) (by decide) w_lens ?_
          refine E_aload_n rfl rfl ?_
          refine E_getfield (v := .int (-1)) rfl w65 rfl (by decide) rfl ?_
          refine E_iconst (x := (-1)) rfl (by decide) ?_
          refine E_ic (t := 99) (b := true) rfl rfl (by decide) ?_
          refine E_aload_n rfl rfl ?_
          refine E_getfield (v := .int (nI (qN (dn4 t)))) rfl w65 rfl (by decide) rfl ?_
          refine E_if (t := 133) (b := false) rfl rfl ((cn_le (nI_toInt (by omega)) (by decide : (0 : Int32).toInt = 0)).trans (decide_eq_false (by omega))) ?_
          refine E_aload_n rfl rfl ?_
          refine E_aload_n rfl rfl ?_
          refine E_getfield (v := .int (nI (qN (dn4 t)))) rfl w65 rfl (by decide) rfl ?_
          refine E_callV (v := some (.int (nI (dnX t)))) (As := [.ref 65, .int (nI (qN (dn4 t)))]) (r0 := []) (cs2 := (ww im lf s d k ls rf rz ra rn rq lt m1 m2 m3 m4 bd fc hd sz el (dnS (dn4 t)) (fUp (fUp g 36 (-1)) 37 (-1)) fm hm so si sh ce ca td wa kp la (lsF (bst (dn4 t) (qPs (dn4 t) 99 (qN (dn4 t))) (qN (dn4 t)) (2 ^ qN (dn4 t)))) oo bo pw ow tr)) rfl rfl rfl (Nat.le_of_ble_eq_true rfl) rfl (ab_rvOf w65 rfl) (w_draw65 (n := qN (dn4 t)) (by omega) (by omega)) (by decide) w_lens ?_
          refine E_istore_n (L2 := [some (.ref 65), some (.int (nI (dnP t))), some (.int (nI (dnX t)))]) rfl rfl ?_
          refine E_aload_n rfl rfl ?_
          refine E_getfield (v := .ref 70) rfl w65 rfl (by decide) rfl ?_
          refine E_iload_n rfl rfl ?_
          refine E_ialN (l := qP (dnS (dn4 t))) (v := (qP (dnS (dn4 t))).getD (dnX t) 0) rfl w70 (by omega) (by omega) rfl ?_
          refine E_iload_n rfl rfl ?_
          refine E_ic (t := 133) (b := false) rfl rfl ((cn_ne (nI_toInt (by omega)) (nI_toInt (by omega))).trans (decide_eq_false (by omega))) ?_
          refine E_aload_n rfl rfl ?_
          refine E_getfield (v := .ref 70) rfl w65 rfl (by decide) rfl ?_
          refine E_iload_n rfl rfl ?_
          refine E_bipush (x := nI 99) rfl (by decide) ?_
          refine E_iasN (l := qP (dnS (dn4 t))) (cs2 := (ww im lf s d k ls rf rz ra rn rq lt m1 m2 m3 m4 bd fc hd sz el (qs_P (dnS (dn4 t)) ((qP (dnS (dn4 t))).set (dnX t) 99)) (fUp (fUp g 36 (-1)) 37 (-1)) fm hm so si sh ce ca td wa kp la (lsF (bst (dn4 t) (qPs (dn4 t) 99 (qN (dn4 t))) (qN (dn4 t)) (2 ^ qN (dn4 t)))) oo bo pw ow tr)) rfl w70 (by omega) (by omega) w_pt65_P ?_
          exact E_vret rfl rfl
        · have : (qU (dn2 t)).length = 6 := by first | omega | (simp only [List.length_set]; omega)
          have hx20 := dr_lt (dn2 t) (n := 20) (by decide)
          have : (qU (dnS (dn2 t))).length = 6 := by first | omega | (simp only [List.length_set]; omega)
          have : ((qU (dnS (dn2 t))).set (dnP t) (((qU (dn2 t)).getD (dnP t) 0) + (qDr (dn2 t) 20))).length = 6 := by first | omega | (simp only [List.length_set]; omega)
          have hx8 := dr_lt (dn3 t) (n := 8) (by decide)
          have : (qW (dnS (dn3 t))).length = 6 := by first | omega | (simp only [List.length_set]; omega)
          have hx := dr_lt (dn4 t) (n := qN (dn4 t)) (by omega)
          have hx2 : dnX t < qN (dn4 t) := hx
          have hM4 := dn4_M t
          have hpl : (qP (dnS (dn4 t))).getD (dnX t) 0 = 99 ∨ (qP (dnS (dn4 t))).getD (dnX t) 0 < qM (dn4 t) := by rw [dnS_P]; exact (I4.2.2.2.1 (dnX t) hx2).2.2.2.2
          have : (qP (dnS (dn4 t))).length = 9 := by first | omega | (simp only [List.length_set]; omega)
          have e : dnx t = (dnS (dn4 t)) := by unfold dnx; rw [if_neg (by omega), if_neg (by omega), if_neg (by omega)]
          have eA : thA (dn4 t) (dnP t) = (-1) := if_neg (by omega)
          have eB : thB (dn4 t) (dnP t) = (-1) := if_neg (by omega)
          rw [e, eA, eB]
          refine Ef.in (md := mX6_day) (L := [some (.ref 65), none, none]) rfl (Nat.le_of_ble_eq_true rfl) rfl ?_
          refine E_aload_n rfl rfl ?_
          refine E_dup rfl rfl ?_
          refine E_getfield (v := .int (qD t)) rfl w65 rfl (by decide) rfl ?_
          refine E_iconst (x := nI 1) rfl (by decide) ?_
          refine E_iadd (z := (qD t) + (nI 1)) rfl rfl ?_
          refine E_putfield (cs2 := (ww im lf s d k ls rf rz ra rn rq lt m1 m2 m3 m4 bd fc hd sz el (qs_D t ((qD t) + (nI 1))) g fm hm so si sh ce ca td wa kp la bf oo bo pw ow tr)) rfl w65 rfl (by decide) (Nat.le_of_ble_eq_true rfl) rfl rfl rfl w_pt65_D ?_
          refine E_aload_n rfl rfl ?_
          refine E_aload_n rfl rfl ?_
          refine E_getfield (v := .int (nI (qM t))) rfl w65 rfl (by decide) (congrArg (fun z => some (Value.int (nI z))) qg_MD) ?_
          refine E_callV (v := some (.int (nI (dnP t)))) (As := [.ref 65, .int (nI (qM t))]) (r0 := []) (cs2 := (ww im lf s d k ls rf rz ra rn rq lt m1 m2 m3 m4 bd fc hd sz el (dn2 t) g fm hm so si sh ce ca td wa kp la bf oo bo pw ow tr)) rfl rfl rfl (Nat.le_of_ble_eq_true rfl) rfl (ab_rvOf w65 rfl) (w_draw65 (n := qM t) (by omega) (by omega)) (by decide) w_lens ?_
          refine E_istore_n (L2 := [some (.ref 65), some (.int (nI (dnP t))), none]) rfl rfl ?_
          refine E_aload_n rfl rfl ?_
          refine E_getfield (v := .ref 71) rfl w65 rfl (by decide) rfl ?_
          refine E_iload_n rfl rfl ?_
          refine E_dup2 rfl ⟨rfl, rfl⟩ ?_
          refine E_ialN (l := qU (dn2 t)) (v := (qU (dn2 t)).getD (dnP t) 0) rfl w71 (by omega) (by omega) rfl ?_
          refine E_aload_n rfl rfl ?_
          refine E_bipush (x := nI 20) rfl (by decide) ?_
          refine E_callV (v := some (.int (nI (qDr (dn2 t) 20)))) (As := [.ref 65, .int (nI 20)]) (r0 := [.int (nI ((qU (dn2 t)).getD (dnP t) 0)), .int (nI (dnP t)), .ref 71]) (cs2 := (ww im lf s d k ls rf rz ra rn rq lt m1 m2 m3 m4 bd fc hd sz el (dnS (dn2 t)) g fm hm so si sh ce ca td wa kp la bf oo bo pw ow tr)) rfl rfl rfl (Nat.le_of_ble_eq_true rfl) rfl (ab_rvOf w65 rfl) (w_draw65 (n := 20) (by omega) (by omega)) (by decide) w_lens ?_
          refine E_iadd (z := nI (((qU (dn2 t)).getD (dnP t) 0) + (qDr (dn2 t) 20))) rfl (nI_add _ _) ?_
          refine E_iasN (l := qU (dnS (dn2 t))) (cs2 := (ww im lf s d k ls rf rz ra rn rq lt m1 m2 m3 m4 bd fc hd sz el (qs_U (dnS (dn2 t)) ((qU (dnS (dn2 t))).set (dnP t) (((qU (dn2 t)).getD (dnP t) 0) + (qDr (dn2 t) 20)))) g fm hm so si sh ce ca td wa kp la bf oo bo pw ow tr)) rfl w71 (by omega) (by omega) w_pt65_U ?_
          refine E_aload_n rfl rfl ?_
          refine E_getfield (v := .ref 71) rfl w65 rfl (by decide) rfl ?_
          refine E_iload_n rfl rfl ?_
          refine E_ialN (l := (qU (dnS (dn2 t))).set (dnP t) (((qU (dn2 t)).getD (dnP t) 0) + (qDr (dn2 t) 20))) (v := (qU (dn2 t)).getD (dnP t) 0 + qDr (dn2 t) 20) rfl (w71v qg_UU) (by omega) (by omega) (ab_gs2 (by omega)) ?_
          refine E_bipush (x := nI 99) rfl (by decide) ?_
          refine E_ic (t := 53) (b := false) rfl rfl ((cn_le (nI_toInt (by omega)) (nI_toInt (by omega))).trans (decide_eq_false (by omega))) ?_
          refine E_aload_n rfl rfl ?_
          refine E_getfield (v := .ref 71) rfl w65 rfl (by decide) rfl ?_
          refine E_iload_n rfl rfl ?_
          refine E_bipush (x := nI 99) rfl (by decide) ?_
          refine E_iasN (l := (qU (dnS (dn2 t))).set (dnP t) (((qU (dn2 t)).getD (dnP t) 0) + (qDr (dn2 t) 20))) (cs2 := (ww im lf s d k ls rf rz ra rn rq lt m1 m2 m3 m4 bd fc hd sz el (qs_U (qs_U (dnS (dn2 t)) ((qU (dnS (dn2 t))).set (dnP t) (((qU (dn2 t)).getD (dnP t) 0) + (qDr (dn2 t) 20)))) (((qU (dnS (dn2 t))).set (dnP t) (((qU (dn2 t)).getD (dnP t) 0) + (qDr (dn2 t) 20))).set (dnP t) 99)) g fm hm so si sh ce ca td wa kp la bf oo bo pw ow tr)) rfl (w71v qg_UU) (by omega) (by omega) w_pt65_U ?_
          rw [dn3_b (q := t) (by omega)]
          refine E_aload_n rfl rfl ?_
          refine E_getfield (v := .ref 73) rfl w65 rfl (by decide) rfl ?_
          refine E_iload_n rfl rfl ?_
          refine E_aload_n rfl rfl ?_
          refine E_bipush (x := nI 8) rfl (by decide) ?_
          refine E_callV (v := some (.int (nI (qDr (dn3 t) 8)))) (As := [.ref 65, .int (nI 8)]) (r0 := [.int (nI (dnP t)), .ref 73]) (cs2 := (ww im lf s d k ls rf rz ra rn rq lt m1 m2 m3 m4 bd fc hd sz el (dnS (dn3 t)) g fm hm so si sh ce ca td wa kp la bf oo bo pw ow tr)) rfl rfl rfl (Nat.le_of_ble_eq_true rfl) rfl (ab_rvOf w65 rfl) (w_draw65 (n := 8) (by omega) (by omega)) (by decide) w_lens ?_
          refine E_iasN (l := qW (dnS (dn3 t))) (cs2 := (ww im lf s d k ls rf rz ra rn rq lt m1 m2 m3 m4 bd fc hd sz el (qs_W (dnS (dn3 t)) ((qW (dnS (dn3 t))).set (dnP t) (qDr (dn3 t) 8))) g fm hm so si sh ce ca td wa kp la bf oo bo pw ow tr)) rfl w73 (by omega) (by omega) w_pt65_W ?_
          rw [show (qs_W (dnS (dn3 t)) ((qW (dnS (dn3 t))).set (dnP t) (qDr (dn3 t) 8))) = (dn4 t) from rfl]
          refine E_aload_n rfl rfl ?_
          refine E_iload_n rfl rfl ?_
          refine E_callV (v := none) (As := [.ref 65, .int (nI (dnP t))]) (r0 := []) (cs2 := (ww im lf s d k ls rf rz ra rn rq lt m1 m2 m3 m4 bd fc hd sz el (dn4 t) (fUp (fUp g 36 (-1)) 37 (-1)) fm hm so si sh ce ca td wa kp la (lsF (bst (dn4 t) (qPs (dn4 t) 99 (qN (dn4 t))) (qN (dn4 t)) (2 ^ qN (dn4 t)))) oo bo pw ow tr)) rfl rfl rfl (Nat.le_of_ble_eq_true rfl) rfl (ab_rvOf w65 rfl) (Ev.to (w_throw I4 hp4 l_bf) (by unfold thA thB; rw [if_neg (by omega), if_neg (by omega)])) (by decide) w_lens ?_
          refine E_aload_n rfl rfl ?_
          refine E_getfield (v := .int (-1)) rfl w65 rfl (by decide) rfl ?_
          refine E_iconst (x := (-1)) rfl (by decide) ?_
          refine E_ic (t := 99) (b := true) rfl rfl (by decide) ?_
          refine E_aload_n rfl rfl ?_
          refine E_getfield (v := .int (nI (qN (dn4 t)))) rfl w65 rfl (by decide) rfl ?_
          refine E_if (t := 133) (b := false) rfl rfl ((cn_le (nI_toInt (by omega)) (by decide : (0 : Int32).toInt = 0)).trans (decide_eq_false (by omega))) ?_
          refine E_aload_n rfl rfl ?_
          refine E_aload_n rfl rfl ?_
          refine E_getfield (v := .int (nI (qN (dn4 t)))) rfl w65 rfl (by decide) rfl ?_
          refine E_callV (v := some (.int (nI (dnX t)))) (As := [.ref 65, .int (nI (qN (dn4 t)))]) (r0 := []) (cs2 := (ww im lf s d k ls rf rz ra rn rq lt m1 m2 m3 m4 bd fc hd sz el (dnS (dn4 t)) (fUp (fUp g 36 (-1)) 37 (-1)) fm hm so si sh ce ca td wa kp la (lsF (bst (dn4 t) (qPs (dn4 t) 99 (qN (dn4 t))) (qN (dn4 t)) (2 ^ qN (dn4 t)))) oo bo pw ow tr)) rfl rfl rfl (Nat.le_of_ble_eq_true rfl) rfl (ab_rvOf w65 rfl) (w_draw65 (n := qN (dn4 t)) (by omega) (by omega)) (by decide) w_lens ?_
          refine E_istore_n (L2 := [some (.ref 65), some (.int (nI (dnP t))), some (.int (nI (dnX t)))]) rfl rfl ?_
          refine E_aload_n rfl rfl ?_
          refine E_getfield (v := .ref 70) rfl w65 rfl (by decide) rfl ?_
          refine E_iload_n rfl rfl ?_
          refine E_ialN (l := qP (dnS (dn4 t))) (v := (qP (dnS (dn4 t))).getD (dnX t) 0) rfl w70 (by omega) (by omega) rfl ?_
          refine E_iload_n rfl rfl ?_
          refine E_ic (t := 133) (b := true) rfl rfl ((cn_ne (nI_toInt (by omega)) (nI_toInt (by omega))).trans (decide_eq_true (by omega))) ?_
          exact E_vret rfl rfl
      · have : (qU (dn2 t)).length = 6 := by first | omega | (simp only [List.length_set]; omega)
        have hx20 := dr_lt (dn2 t) (n := 20) (by decide)
        have : (qU (dnS (dn2 t))).length = 6 := by first | omega | (simp only [List.length_set]; omega)
        have : ((qU (dnS (dn2 t))).set (dnP t) (((qU (dn2 t)).getD (dnP t) 0) + (qDr (dn2 t) 20))).length = 6 := by first | omega | (simp only [List.length_set]; omega)
        have hx8 := dr_lt (dn3 t) (n := 8) (by decide)
        have : (qW (dnS (dn3 t))).length = 6 := by first | omega | (simp only [List.length_set]; omega)
        have e : dnx t = (dn4 t) := by unfold dnx; rw [if_neg (by omega), if_pos (by omega)]
        have eA : thA (dn4 t) (dnP t) = (-1) := if_neg (by omega)
        have eB : thB (dn4 t) (dnP t) = (-1) := if_neg (by omega)
        rw [e, eA, eB]
        refine Ef.in (md := mX6_day) (L := [some (.ref 65), none, none]) rfl (Nat.le_of_ble_eq_true rfl) rfl ?_
        refine E_aload_n rfl rfl ?_
        refine E_dup rfl rfl ?_
        refine E_getfield (v := .int (qD t)) rfl w65 rfl (by decide) rfl ?_
        refine E_iconst (x := nI 1) rfl (by decide) ?_
        refine E_iadd (z := (qD t) + (nI 1)) rfl rfl ?_
        refine E_putfield (cs2 := (ww im lf s d k ls rf rz ra rn rq lt m1 m2 m3 m4 bd fc hd sz el (qs_D t ((qD t) + (nI 1))) g fm hm so si sh ce ca td wa kp la bf oo bo pw ow tr)) rfl w65 rfl (by decide) (Nat.le_of_ble_eq_true rfl) rfl rfl rfl w_pt65_D ?_
        refine E_aload_n rfl rfl ?_
        refine E_aload_n rfl rfl ?_
        refine E_getfield (v := .int (nI (qM t))) rfl w65 rfl (by decide) (congrArg (fun z => some (Value.int (nI z))) qg_MD) ?_
        refine E_callV (v := some (.int (nI (dnP t)))) (As := [.ref 65, .int (nI (qM t))]) (r0 := []) (cs2 := (ww im lf s d k ls rf rz ra rn rq lt m1 m2 m3 m4 bd fc hd sz el (dn2 t) g fm hm so si sh ce ca td wa kp la bf oo bo pw ow tr)) rfl rfl rfl (Nat.le_of_ble_eq_true rfl) rfl (ab_rvOf w65 rfl) (w_draw65 (n := qM t) (by omega) (by omega)) (by decide) w_lens ?_
        refine E_istore_n (L2 := [some (.ref 65), some (.int (nI (dnP t))), none]) rfl rfl ?_
        refine E_aload_n rfl rfl ?_
        refine E_getfield (v := .ref 71) rfl w65 rfl (by decide) rfl ?_
        refine E_iload_n rfl rfl ?_
        refine E_dup2 rfl ⟨rfl, rfl⟩ ?_
        refine E_ialN (l := qU (dn2 t)) (v := (qU (dn2 t)).getD (dnP t) 0) rfl w71 (by omega) (by omega) rfl ?_
        refine E_aload_n rfl rfl ?_
        refine E_bipush (x := nI 20) rfl (by decide) ?_
        refine E_callV (v := some (.int (nI (qDr (dn2 t) 20)))) (As := [.ref 65, .int (nI 20)]) (r0 := [.int (nI ((qU (dn2 t)).getD (dnP t) 0)), .int (nI (dnP t)), .ref 71]) (cs2 := (ww im lf s d k ls rf rz ra rn rq lt m1 m2 m3 m4 bd fc hd sz el (dnS (dn2 t)) g fm hm so si sh ce ca td wa kp la bf oo bo pw ow tr)) rfl rfl rfl (Nat.le_of_ble_eq_true rfl) rfl (ab_rvOf w65 rfl) (w_draw65 (n := 20) (by omega) (by omega)) (by decide) w_lens ?_
        refine E_iadd (z := nI (((qU (dn2 t)).getD (dnP t) 0) + (qDr (dn2 t) 20))) rfl (nI_add _ _) ?_
        refine E_iasN (l := qU (dnS (dn2 t))) (cs2 := (ww im lf s d k ls rf rz ra rn rq lt m1 m2 m3 m4 bd fc hd sz el (qs_U (dnS (dn2 t)) ((qU (dnS (dn2 t))).set (dnP t) (((qU (dn2 t)).getD (dnP t) 0) + (qDr (dn2 t) 20)))) g fm hm so si sh ce ca td wa kp la bf oo bo pw ow tr)) rfl w71 (by omega) (by omega) w_pt65_U ?_
        refine E_aload_n rfl rfl ?_
        refine E_getfield (v := .ref 71) rfl w65 rfl (by decide) rfl ?_
        refine E_iload_n rfl rfl ?_
        refine E_ialN (l := (qU (dnS (dn2 t))).set (dnP t) (((qU (dn2 t)).getD (dnP t) 0) + (qDr (dn2 t) 20))) (v := (qU (dn2 t)).getD (dnP t) 0 + qDr (dn2 t) 20) rfl (w71v qg_UU) (by omega) (by omega) (ab_gs2 (by omega)) ?_
        refine E_bipush (x := nI 99) rfl (by decide) ?_
        refine E_ic (t := 53) (b := false) rfl rfl ((cn_le (nI_toInt (by omega)) (nI_toInt (by omega))).trans (decide_eq_false (by omega))) ?_
        refine E_aload_n rfl rfl ?_
        refine E_getfield (v := .ref 71) rfl w65 rfl (by decide) rfl ?_
        refine E_iload_n rfl rfl ?_
        refine E_bipush (x := nI 99) rfl (by decide) ?_
        refine E_iasN (l := (qU (dnS (dn2 t))).set (dnP t) (((qU (dn2 t)).getD (dnP t) 0) + (qDr (dn2 t) 20))) (cs2 := (ww im lf s d k ls rf rz ra rn rq lt m1 m2 m3 m4 bd fc hd sz el (qs_U (qs_U (dnS (dn2 t)) ((qU (dnS (dn2 t))).set (dnP t) (((qU (dn2 t)).getD (dnP t) 0) + (qDr (dn2 t) 20)))) (((qU (dnS (dn2 t))).set (dnP t) (((qU (dn2 t)).getD (dnP t) 0) + (qDr (dn2 t) 20))).set (dnP t) 99)) g fm hm so si sh ce ca td wa kp la bf oo bo pw ow tr)) rfl (w71v qg_UU) (by omega) (by omega) w_pt65_U ?_
        rw [dn3_b (q := t) (by omega)]
        refine E_aload_n rfl rfl ?_
        refine E_getfield (v := .ref 73) rfl w65 rfl (by decide) rfl ?_
        refine E_iload_n rfl rfl ?_
        refine E_aload_n rfl rfl ?_
        refine E_bipush (x := nI 8) rfl (by decide) ?_
        refine E_callV (v := some (.int (nI (qDr (dn3 t) 8)))) (As := [.ref 65, .int (nI 8)]) (r0 := [.int (nI (dnP t)), .ref 73]) (cs2 := (ww im lf s d k ls rf rz ra rn rq lt m1 m2 m3 m4 bd fc hd sz el (dnS (dn3 t)) g fm hm so si sh ce ca td wa kp la bf oo bo pw ow tr)) rfl rfl rfl (Nat.le_of_ble_eq_true rfl) rfl (ab_rvOf w65 rfl) (w_draw65 (n := 8) (by omega) (by omega)) (by decide) w_lens ?_
        refine E_iasN (l := qW (dnS (dn3 t))) (cs2 := (ww im lf s d k ls rf rz ra rn rq lt m1 m2 m3 m4 bd fc hd sz el (qs_W (dnS (dn3 t)) ((qW (dnS (dn3 t))).set (dnP t) (qDr (dn3 t) 8))) g fm hm so si sh ce ca td wa kp la bf oo bo pw ow tr)) rfl w73 (by omega) (by omega) w_pt65_W ?_
        rw [show (qs_W (dnS (dn3 t)) ((qW (dnS (dn3 t))).set (dnP t) (qDr (dn3 t) 8))) = (dn4 t) from rfl]
        refine E_aload_n rfl rfl ?_
        refine E_iload_n rfl rfl ?_
        refine E_callV (v := none) (As := [.ref 65, .int (nI (dnP t))]) (r0 := []) (cs2 := (ww im lf s d k ls rf rz ra rn rq lt m1 m2 m3 m4 bd fc hd sz el (dn4 t) (fUp (fUp g 36 (-1)) 37 (-1)) fm hm so si sh ce ca td wa kp la (lsF (bst (dn4 t) (qPs (dn4 t) 99 (qN (dn4 t))) (qN (dn4 t)) (2 ^ qN (dn4 t)))) oo bo pw ow tr)) rfl rfl rfl (Nat.le_of_ble_eq_true rfl) rfl (ab_rvOf w65 rfl) (Ev.to (w_throw I4 hp4 l_bf) (by unfold thA thB; rw [if_neg (by omega), if_neg (by omega)])) (by decide) w_lens ?_
        refine E_aload_n rfl rfl ?_
        refine E_getfield (v := .int (-1)) rfl w65 rfl (by decide) rfl ?_
        refine E_iconst (x := (-1)) rfl (by decide) ?_
        refine E_ic (t := 99) (b := true) rfl rfl (by decide) ?_
        refine E_aload_n rfl rfl ?_
        refine E_getfield (v := .int (nI (qN (dn4 t)))) rfl w65 rfl (by decide) rfl ?_
        refine E_if (t := 133) (b := true) rfl rfl ((cn_le (nI_toInt (by omega)) (by decide : (0 : Int32).toInt = 0)).trans (decide_eq_true (by omega))) ?_
        exact E_vret rfl rfl
  · by_cases f1 : (qPr (dn4 t) (dnP t) ((qW (dn4 t)).getD (dnP t) 0)) ≤ ((qU (dn4 t)).getD (dnP t) 0)
    · have : (qU (dn2 t)).length = 6 := by first | omega | (simp only [List.length_set]; omega)
      have hx20 := dr_lt (dn2 t) (n := 20) (by decide)
      have : (qU (dnS (dn2 t))).length = 6 := by first | omega | (simp only [List.length_set]; omega)
      have : ((qU (dnS (dn2 t))).set (dnP t) (((qU (dn2 t)).getD (dnP t) 0) + (qDr (dn2 t) 20))).length = 6 := by first | omega | (simp only [List.length_set]; omega)
      have hx8 := dr_lt (dn3 t) (n := 8) (by decide)
      have : (qW (dnS (dn3 t))).length = 6 := by first | omega | (simp only [List.length_set]; omega)
      have : (qU (dn4 t)).length = 6 := by first | omega | (simp only [List.length_set]; omega)
      have : (qG (dn4 t)).length = 6 := by first | omega | (simp only [List.length_set]; omega)
      have e : dnx t = (qs_P (qs_Y (qs_G (qs_U (dn4 t) ((qU (dn4 t)).set (dnP t) (((qU (dn4 t)).getD (dnP t) 0) - (qPr (dn4 t) (dnP t) ((qW (dn4 t)).getD (dnP t) 0))))) ((qG (dn4 t)).set (dnP t) (((qG (dn4 t)).getD (dnP t) 0) + (nI 1)))) ((qY (dn4 t)) + (nI (qPr (dn4 t) (dnP t) ((qW (dn4 t)).getD (dnP t) 0))))) (qGP (qP (dn4 t)) (dnP t) 0 (qN (dn4 t)))) := by unfold dnx grQ; rw [if_pos (by omega)]
      have eA : thA (dn4 t) (dnP t) = nI (qPr (dn4 t) (dnP t) ((qW (dn4 t)).getD (dnP t) 0)) := if_pos (by omega)
      have eB : thB (dn4 t) (dnP t) = nI 0 := if_pos (by omega)
      rw [e, eA, eB]
      refine Ef.in (md := mX6_day) (L := [some (.ref 65), none, none]) rfl (Nat.le_of_ble_eq_true rfl) rfl ?_
      refine E_aload_n rfl rfl ?_
      refine E_dup rfl rfl ?_
      refine E_getfield (v := .int (qD t)) rfl w65 rfl (by decide) rfl ?_
      refine E_iconst (x := nI 1) rfl (by decide) ?_
      refine E_iadd (z := (qD t) + (nI 1)) rfl rfl ?_
      refine E_putfield (cs2 := (ww im lf s d k ls rf rz ra rn rq lt m1 m2 m3 m4 bd fc hd sz el (qs_D t ((qD t) + (nI 1))) g fm hm so si sh ce ca td wa kp la bf oo bo pw ow tr)) rfl w65 rfl (by decide) (Nat.le_of_ble_eq_true rfl) rfl rfl rfl w_pt65_D ?_
      refine E_aload_n rfl rfl ?_
      refine E_aload_n rfl rfl ?_
      refine E_getfield (v := .int (nI (qM t))) rfl w65 rfl (by decide) (congrArg (fun z => some (Value.int (nI z))) qg_MD) ?_
      refine E_callV (v := some (.int (nI (dnP t)))) (As := [.ref 65, .int (nI (qM t))]) (r0 := []) (cs2 := (ww im lf s d k ls rf rz ra rn rq lt m1 m2 m3 m4 bd fc hd sz el (dn2 t) g fm hm so si sh ce ca td wa kp la bf oo bo pw ow tr)) rfl rfl rfl (Nat.le_of_ble_eq_true rfl) rfl (ab_rvOf w65 rfl) (w_draw65 (n := qM t) (by omega) (by omega)) (by decide) w_lens ?_
      refine E_istore_n (L2 := [some (.ref 65), some (.int (nI (dnP t))), none]) rfl rfl ?_
      refine E_aload_n rfl rfl ?_
      refine E_getfield (v := .ref 71) rfl w65 rfl (by decide) rfl ?_
      refine E_iload_n rfl rfl ?_
      refine E_dup2 rfl ⟨rfl, rfl⟩ ?_
      refine E_ialN (l := qU (dn2 t)) (v := (qU (dn2 t)).getD (dnP t) 0) rfl w71 (by omega) (by omega) rfl ?_
      refine E_aload_n rfl rfl ?_
      refine E_bipush (x := nI 20) rfl (by decide) ?_
      refine E_callV (v := some (.int (nI (qDr (dn2 t) 20)))) (As := [.ref 65, .int (nI 20)]) (r0 := [.int (nI ((qU (dn2 t)).getD (dnP t) 0)), .int (nI (dnP t)), .ref 71]) (cs2 := (ww im lf s d k ls rf rz ra rn rq lt m1 m2 m3 m4 bd fc hd sz el (dnS (dn2 t)) g fm hm so si sh ce ca td wa kp la bf oo bo pw ow tr)) rfl rfl rfl (Nat.le_of_ble_eq_true rfl) rfl (ab_rvOf w65 rfl) (w_draw65 (n := 20) (by omega) (by omega)) (by decide) w_lens ?_
      refine E_iadd (z := nI (((qU (dn2 t)).getD (dnP t) 0) + (qDr (dn2 t) 20))) rfl (nI_add _ _) ?_
      refine E_iasN (l := qU (dnS (dn2 t))) (cs2 := (ww im lf s d k ls rf rz ra rn rq lt m1 m2 m3 m4 bd fc hd sz el (qs_U (dnS (dn2 t)) ((qU (dnS (dn2 t))).set (dnP t) (((qU (dn2 t)).getD (dnP t) 0) + (qDr (dn2 t) 20)))) g fm hm so si sh ce ca td wa kp la bf oo bo pw ow tr)) rfl w71 (by omega) (by omega) w_pt65_U ?_
      refine E_aload_n rfl rfl ?_
      refine E_getfield (v := .ref 71) rfl w65 rfl (by decide) rfl ?_
      refine E_iload_n rfl rfl ?_
      refine E_ialN (l := (qU (dnS (dn2 t))).set (dnP t) (((qU (dn2 t)).getD (dnP t) 0) + (qDr (dn2 t) 20))) (v := (qU (dn2 t)).getD (dnP t) 0 + qDr (dn2 t) 20) rfl (w71v qg_UU) (by omega) (by omega) (ab_gs2 (by omega)) ?_
      refine E_bipush (x := nI 99) rfl (by decide) ?_
      refine E_ic (t := 53) (b := true) rfl rfl ((cn_le (nI_toInt (by omega)) (nI_toInt (by omega))).trans (decide_eq_true (by omega))) ?_
      rw [dn3_a (q := t) (by omega)]
      refine E_aload_n rfl rfl ?_
      refine E_getfield (v := .ref 73) rfl w65 rfl (by decide) rfl ?_
      refine E_iload_n rfl rfl ?_
      refine E_aload_n rfl rfl ?_
      refine E_bipush (x := nI 8) rfl (by decide) ?_
      refine E_callV (v := some (.int (nI (qDr (dn3 t) 8)))) (As := [.ref 65, .int (nI 8)]) (r0 := [.int (nI (dnP t)), .ref 73]) (cs2 := (ww im lf s d k ls rf rz ra rn rq lt m1 m2 m3 m4 bd fc hd sz el (dnS (dn3 t)) g fm hm so si sh ce ca td wa kp la bf oo bo pw ow tr)) rfl rfl rfl (Nat.le_of_ble_eq_true rfl) rfl (ab_rvOf w65 rfl) (w_draw65 (n := 8) (by omega) (by omega)) (by decide) w_lens ?_
      refine E_iasN (l := qW (dnS (dn3 t))) (cs2 := (ww im lf s d k ls rf rz ra rn rq lt m1 m2 m3 m4 bd fc hd sz el (qs_W (dnS (dn3 t)) ((qW (dnS (dn3 t))).set (dnP t) (qDr (dn3 t) 8))) g fm hm so si sh ce ca td wa kp la bf oo bo pw ow tr)) rfl w73 (by omega) (by omega) w_pt65_W ?_
      rw [show (qs_W (dnS (dn3 t)) ((qW (dnS (dn3 t))).set (dnP t) (qDr (dn3 t) 8))) = (dn4 t) from rfl]
      refine E_aload_n rfl rfl ?_
      refine E_iload_n rfl rfl ?_
      refine E_callV (v := none) (As := [.ref 65, .int (nI (dnP t))]) (r0 := []) (cs2 := (ww im lf s d k ls rf rz ra rn rq lt m1 m2 m3 m4 bd fc hd sz el (dn4 t) (fUp (fUp g 36 (nI (qPr (dn4 t) (dnP t) ((qW (dn4 t)).getD (dnP t) 0)))) 37 (nI 0)) fm hm so si sh ce ca td wa kp la (lsF (bst (dn4 t) (qPs (dn4 t) 99 (qN (dn4 t))) (qN (dn4 t)) (2 ^ qN (dn4 t)))) oo bo pw ow tr)) rfl rfl rfl (Nat.le_of_ble_eq_true rfl) rfl (ab_rvOf w65 rfl) (Ev.to (w_throw I4 hp4 l_bf) (by unfold thA thB; rw [if_pos (by omega), if_pos (by omega)])) (by decide) w_lens ?_
      refine E_aload_n rfl rfl ?_
      refine E_getfield (v := .int (nI (qPr (dn4 t) (dnP t) ((qW (dn4 t)).getD (dnP t) 0)))) rfl w65 rfl (by decide) rfl ?_
      refine E_iconst (x := (-1)) rfl (by decide) ?_
      refine E_ic (t := 99) (b := false) rfl rfl ((cn_eq (nI_toInt (by omega)) (by decide : (-1 : Int32).toInt = -1)).trans (decide_eq_false (by omega))) ?_
      refine E_aload_n rfl rfl ?_
      refine E_iload_n rfl rfl ?_
      refine E_aload_n rfl rfl ?_
      refine E_getfield (v := .int (nI (qPr (dn4 t) (dnP t) ((qW (dn4 t)).getD (dnP t) 0)))) rfl w65 rfl (by decide) rfl ?_
      refine E_aload_n rfl rfl ?_
      refine E_iload_n rfl rfl ?_
      refine E_aload_n rfl rfl ?_
      refine E_getfield (v := .int (nI (qPr (dn4 t) (dnP t) ((qW (dn4 t)).getD (dnP t) 0)))) rfl w65 rfl (by decide) rfl ?_
      refine E_callV (v := some (.int (nI 0))) (As := [.ref 65, .int (nI (dnP t)), .int (nI (qPr (dn4 t) (dnP t) ((qW (dn4 t)).getD (dnP t) 0)))]) (r0 := [.int (nI (qPr (dn4 t) (dnP t) ((qW (dn4 t)).getD (dnP t) 0))), .int (nI (dnP t)), .ref 65]) (cs2 := (ww im lf s d k ls rf rz ra rn rq lt m1 m2 m3 m4 bd fc hd sz el (dn4 t) (fUp (fUp g 36 (nI (qPr (dn4 t) (dnP t) ((qW (dn4 t)).getD (dnP t) 0)))) 37 (nI 0)) fm hm so si sh ce ca td wa kp la (lsF (bst (dn4 t) (qPs (dn4 t) 99 (qN (dn4 t))) (qN (dn4 t)) (2 ^ qN (dn4 t)))) oo bo pw ow tr)) rfl rfl rfl (Nat.le_of_ble_eq_true rfl) rfl (ab_rvOf w65 rfl) (w_thrown0 I4 hp4 (by omega)) (by decide) rfl ?_
      have e1 : Ev ab_Z0 1 183 [.ref 65, .int (nI (dnP t)), .int (nI (qPr (dn4 t) (dnP t) ((qW (dn4 t)).getD (dnP t) 0))), .int (nI 0)] (ww im lf s d k ls rf rz ra rn rq lt m1 m2 m3 m4 bd fc hd sz el (dn4 t) (fUp (fUp g 36 (nI (qPr (dn4 t) (dnP t) ((qW (dn4 t)).getD (dnP t) 0)))) 37 (nI 0)) fm hm so si sh ce ca td wa kp la (lsF (bst (dn4 t) (qPs (dn4 t) 99 (qN (dn4 t))) (qN (dn4 t)) (2 ^ qN (dn4 t)))) oo bo pw ow tr) (none, (ww im lf s d k ls rf rz ra rn rq lt m1 m2 m3 m4 bd fc hd sz el (qs_P (qs_Y (qs_G (qs_U (dn4 t) ((qU (dn4 t)).set (dnP t) (((qU (dn4 t)).getD (dnP t) 0) - (qPr (dn4 t) (dnP t) ((qW (dn4 t)).getD (dnP t) 0))))) ((qG (dn4 t)).set (dnP t) (((qG (dn4 t)).getD (dnP t) 0) + (nI 1)))) ((qY (dn4 t)) + (nI (qPr (dn4 t) (dnP t) ((qW (dn4 t)).getD (dnP t) 0))))) (qGP (qP (dn4 t)) (dnP t) 0 (qN (dn4 t)))) (fUp (fUp g 36 (nI (qPr (dn4 t) (dnP t) ((qW (dn4 t)).getD (dnP t) 0)))) 37 (nI 0)) fm hm so si sh ce ca td wa kp la (lsF (bst (dn4 t) (qPs (dn4 t) 99 (qN (dn4 t))) (qN (dn4 t)) (2 ^ qN (dn4 t)))) oo bo pw ow tr)) := by
        refine Ef.in (md := mX6_throwsIn) (L := [some (.ref 65), some (.int (nI (dnP t))), some (.int (nI (qPr (dn4 t) (dnP t) ((qW (dn4 t)).getD (dnP t) 0)))), some (.int (nI 0)), none]) rfl (Nat.le_of_ble_eq_true rfl) rfl ?_
        refine E_aload_n rfl rfl ?_
        refine E_getfield (v := .ref 71) rfl w65 rfl (by decide) rfl ?_
        refine E_iload_n rfl rfl ?_
        refine E_dup2 rfl ⟨rfl, rfl⟩ ?_
        refine E_ialN (l := qU (dn4 t)) (v := (qU (dn4 t)).getD (dnP t) 0) rfl w71 (by omega) (by omega) rfl ?_
        refine E_iload_n rfl rfl ?_
        refine E_isub (z := nI (((qU (dn4 t)).getD (dnP t) 0) - (qPr (dn4 t) (dnP t) ((qW (dn4 t)).getD (dnP t) 0)))) rfl (pk_sub (by omega)) ?_
        refine E_iasN (l := qU (dn4 t)) (cs2 := (ww im lf s d k ls rf rz ra rn rq lt m1 m2 m3 m4 bd fc hd sz el (qs_U (dn4 t) ((qU (dn4 t)).set (dnP t) (((qU (dn4 t)).getD (dnP t) 0) - (qPr (dn4 t) (dnP t) ((qW (dn4 t)).getD (dnP t) 0))))) (fUp (fUp g 36 (nI (qPr (dn4 t) (dnP t) ((qW (dn4 t)).getD (dnP t) 0)))) 37 (nI 0)) fm hm so si sh ce ca td wa kp la (lsF (bst (dn4 t) (qPs (dn4 t) 99 (qN (dn4 t))) (qN (dn4 t)) (2 ^ qN (dn4 t)))) oo bo pw ow tr)) rfl w71 (by omega) (by omega) w_pt65_U ?_
        refine E_aload_n rfl rfl ?_
        refine E_getfield (v := .ref 74) rfl w65 rfl (by decide) rfl ?_
        refine E_iload_n rfl rfl ?_
        refine E_dup2 rfl ⟨rfl, rfl⟩ ?_
        refine E_ialI (l := qG (dn4 t)) (v := (qG (dn4 t)).getD (dnP t) 0) rfl (w74v qg_GU) (by omega) (by omega) rfl ?_
        refine E_iconst (x := nI 1) rfl (by decide) ?_
        refine E_iadd (z := ((qG (dn4 t)).getD (dnP t) 0) + (nI 1)) rfl rfl ?_
        refine E_iasI (l := qG (dn4 t)) (cs2 := (ww im lf s d k ls rf rz ra rn rq lt m1 m2 m3 m4 bd fc hd sz el (qs_G (qs_U (dn4 t) ((qU (dn4 t)).set (dnP t) (((qU (dn4 t)).getD (dnP t) 0) - (qPr (dn4 t) (dnP t) ((qW (dn4 t)).getD (dnP t) 0))))) ((qG (dn4 t)).set (dnP t) (((qG (dn4 t)).getD (dnP t) 0) + (nI 1)))) (fUp (fUp g 36 (nI (qPr (dn4 t) (dnP t) ((qW (dn4 t)).getD (dnP t) 0)))) 37 (nI 0)) fm hm so si sh ce ca td wa kp la (lsF (bst (dn4 t) (qPs (dn4 t) 99 (qN (dn4 t))) (qN (dn4 t)) (2 ^ qN (dn4 t)))) oo bo pw ow tr)) rfl (w74v qg_GU) (by omega) (by omega) w_pt65_G ?_
        refine E_aload_n rfl rfl ?_
        refine E_dup rfl rfl ?_
        refine E_getfield (v := .int (qY (dn4 t))) rfl w65 rfl (by decide) (congrArg (fun z => some (Value.int z)) (qg_YG.trans qg_YU)) ?_
        refine E_iload_n rfl rfl ?_
        refine E_iadd (z := (qY (dn4 t)) + (nI (qPr (dn4 t) (dnP t) ((qW (dn4 t)).getD (dnP t) 0)))) rfl rfl ?_
        refine E_putfield (cs2 := (ww im lf s d k ls rf rz ra rn rq lt m1 m2 m3 m4 bd fc hd sz el (qs_Y (qs_G (qs_U (dn4 t) ((qU (dn4 t)).set (dnP t) (((qU (dn4 t)).getD (dnP t) 0) - (qPr (dn4 t) (dnP t) ((qW (dn4 t)).getD (dnP t) 0))))) ((qG (dn4 t)).set (dnP t) (((qG (dn4 t)).getD (dnP t) 0) + (nI 1)))) ((qY (dn4 t)) + (nI (qPr (dn4 t) (dnP t) ((qW (dn4 t)).getD (dnP t) 0))))) (fUp (fUp g 36 (nI (qPr (dn4 t) (dnP t) ((qW (dn4 t)).getD (dnP t) 0)))) 37 (nI 0)) fm hm so si sh ce ca td wa kp la (lsF (bst (dn4 t) (qPs (dn4 t) 99 (qN (dn4 t))) (qN (dn4 t)) (2 ^ qN (dn4 t)))) oo bo pw ow tr)) rfl w65 rfl (by decide) (Nat.le_of_ble_eq_true rfl) rfl rfl rfl w_pt65_Y ?_
        refine E_iconst (x := nI 0) rfl (by decide) ?_
        refine E_istore (L2 := [some (.ref 65), some (.int (nI (dnP t))), some (.int (nI (qPr (dn4 t) (dnP t) ((qW (dn4 t)).getD (dnP t) 0)))), some (.int (nI 0)), some (.int (nI 0))]) rfl rfl ?_
        exact grant_s65 (t := (qs_Y (qs_G (qs_U (dn4 t) ((qU (dn4 t)).set (dnP t) (((qU (dn4 t)).getD (dnP t) 0) - (qPr (dn4 t) (dnP t) ((qW (dn4 t)).getD (dnP t) 0))))) ((qG (dn4 t)).set (dnP t) (((qG (dn4 t)).getD (dnP t) 0) + (nI 1)))) ((qY (dn4 t)) + (nI (qPr (dn4 t) (dnP t) ((qW (dn4 t)).getD (dnP t) 0)))))) (p := dnP t) (n := qPr (dn4 t) (dnP t) ((qW (dn4 t)).getD (dnP t) 0)) (m := 0) (l := qP (dn4 t)) (n1 := qN (dn4 t)) ((congrArg (qs_P _) (Eq.symm (qg_PY.trans (qg_PG.trans qg_PU)))).trans qs_Pself) (qg_NY.trans (qg_NG.trans qg_NU)) (by omega) I4.1.2.2.2 (by omega) (by omega)
      refine E_callV (v := none) (As := [.ref 65, .int (nI (dnP t)), .int (nI (qPr (dn4 t) (dnP t) ((qW (dn4 t)).getD (dnP t) 0))), .int (nI 0)]) (r0 := []) (cs2 := (ww im lf s d k ls rf rz ra rn rq lt m1 m2 m3 m4 bd fc hd sz el (qs_P (qs_Y (qs_G (qs_U (dn4 t) ((qU (dn4 t)).set (dnP t) (((qU (dn4 t)).getD (dnP t) 0) - (qPr (dn4 t) (dnP t) ((qW (dn4 t)).getD (dnP t) 0))))) ((qG (dn4 t)).set (dnP t) (((qG (dn4 t)).getD (dnP t) 0) + (nI 1)))) ((qY (dn4 t)) + (nI (qPr (dn4 t) (dnP t) ((qW (dn4 t)).getD (dnP t) 0))))) (qGP (qP (dn4 t)) (dnP t) 0 (qN (dn4 t)))) (fUp (fUp g 36 (nI (qPr (dn4 t) (dnP t) ((qW (dn4 t)).getD (dnP t) 0)))) 37 (nI 0)) fm hm so si sh ce ca td wa kp la (lsF (bst (dn4 t) (qPs (dn4 t) 99 (qN (dn4 t))) (qN (dn4 t)) (2 ^ qN (dn4 t)))) oo bo pw ow tr)) rfl rfl rfl (Nat.le_of_ble_eq_true rfl) rfl (ab_rvOf w65 rfl) e1 (by decide) w_lens ?_
      refine E_goto (t := 133) rfl rfl ?_
      exact E_vret rfl rfl
    · by_cases f2 : 0 < (qN (dn4 t))
      · by_cases f3 : ((qP (dnS (dn4 t))).getD (dnX t) 0) = (dnP t)
        · have : (qU (dn2 t)).length = 6 := by first | omega | (simp only [List.length_set]; omega)
          have hx20 := dr_lt (dn2 t) (n := 20) (by decide)
          have : (qU (dnS (dn2 t))).length = 6 := by first | omega | (simp only [List.length_set]; omega)
          have : ((qU (dnS (dn2 t))).set (dnP t) (((qU (dn2 t)).getD (dnP t) 0) + (qDr (dn2 t) 20))).length = 6 := by first | omega | (simp only [List.length_set]; omega)
          have hx8 := dr_lt (dn3 t) (n := 8) (by decide)
          have : (qW (dnS (dn3 t))).length = 6 := by first | omega | (simp only [List.length_set]; omega)
          have hx := dr_lt (dn4 t) (n := qN (dn4 t)) (by omega)
          have hx2 : dnX t < qN (dn4 t) := hx
          have hM4 := dn4_M t
          have hpl : (qP (dnS (dn4 t))).getD (dnX t) 0 = 99 ∨ (qP (dnS (dn4 t))).getD (dnX t) 0 < qM (dn4 t) := by rw [dnS_P]; exact (I4.2.2.2.1 (dnX t) hx2).2.2.2.2
          have : (qP (dnS (dn4 t))).length = 9 := by first | omega | (simp only [List.length_set]; omega)
          have e : dnx t = (qs_P (dnS (dn4 t)) ((qP (dnS (dn4 t))).set (dnX t) 99)) := by unfold dnx; rw [if_neg (by omega), if_neg (by omega), if_pos (by omega)]
          have eA : thA (dn4 t) (dnP t) = (-1) := if_neg (by omega)
          have eB : thB (dn4 t) (dnP t) = (-1) := if_neg (by omega)
          rw [e, eA, eB]
          refine Ef.in (md := mX6_day) (L := [some (.ref 65), none, none]) rfl (Nat.le_of_ble_eq_true rfl) rfl ?_
          refine E_aload_n rfl rfl ?_
          refine E_dup rfl rfl ?_
          refine E_getfield (v := .int (qD t)) rfl w65 rfl (by decide) rfl ?_
          refine E_iconst (x := nI 1) rfl (by decide) ?_
          refine E_iadd (z := (qD t) + (nI 1)) rfl rfl ?_
          refine E_putfield (cs2 := (ww im lf s d k ls rf rz ra rn rq lt m1 m2 m3 m4 bd fc hd sz el (qs_D t ((qD t) + (nI 1))) g fm hm so si sh ce ca td wa kp la bf oo bo pw ow tr)) rfl w65 rfl (by decide) (Nat.le_of_ble_eq_true rfl) rfl rfl rfl w_pt65_D ?_
          refine E_aload_n rfl rfl ?_
          refine E_aload_n rfl rfl ?_
          refine E_getfield (v := .int (nI (qM t))) rfl w65 rfl (by decide) (congrArg (fun z => some (Value.int (nI z))) qg_MD) ?_
          refine E_callV (v := some (.int (nI (dnP t)))) (As := [.ref 65, .int (nI (qM t))]) (r0 := []) (cs2 := (ww im lf s d k ls rf rz ra rn rq lt m1 m2 m3 m4 bd fc hd sz el (dn2 t) g fm hm so si sh ce ca td wa kp la bf oo bo pw ow tr)) rfl rfl rfl (Nat.le_of_ble_eq_true rfl) rfl (ab_rvOf w65 rfl) (w_draw65 (n := qM t) (by omega) (by omega)) (by decide) w_lens ?_
          refine E_istore_n (L2 := [some (.ref 65), some (.int (nI (dnP t))), none]) rfl rfl ?_
          refine E_aload_n rfl rfl ?_
          refine E_getfield (v := .ref 71) rfl w65 rfl (by decide) rfl ?_
          refine E_iload_n rfl rfl ?_
          refine E_dup2 rfl ⟨rfl, rfl⟩ ?_
          refine E_ialN (l := qU (dn2 t)) (v := (qU (dn2 t)).getD (dnP t) 0) rfl w71 (by omega) (by omega) rfl ?_
          refine E_aload_n rfl rfl ?_
          refine E_bipush (x := nI 20) rfl (by decide) ?_
          refine E_callV (v := some (.int (nI (qDr (dn2 t) 20)))) (As := [.ref 65, .int (nI 20)]) (r0 := [.int (nI ((qU (dn2 t)).getD (dnP t) 0)), .int (nI (dnP t)), .ref 71]) (cs2 := (ww im lf s d k ls rf rz ra rn rq lt m1 m2 m3 m4 bd fc hd sz el (dnS (dn2 t)) g fm hm so si sh ce ca td wa kp la bf oo bo pw ow tr)) rfl rfl rfl (Nat.le_of_ble_eq_true rfl) rfl (ab_rvOf w65 rfl) (w_draw65 (n := 20) (by omega) (by omega)) (by decide) w_lens ?_
          refine E_iadd (z := nI (((qU (dn2 t)).getD (dnP t) 0) + (qDr (dn2 t) 20))) rfl (nI_add _ _) ?_
          refine E_iasN (l := qU (dnS (dn2 t))) (cs2 := (ww im lf s d k ls rf rz ra rn rq lt m1 m2 m3 m4 bd fc hd sz el (qs_U (dnS (dn2 t)) ((qU (dnS (dn2 t))).set (dnP t) (((qU (dn2 t)).getD (dnP t) 0) + (qDr (dn2 t) 20)))) g fm hm so si sh ce ca td wa kp la bf oo bo pw ow tr)) rfl w71 (by omega) (by omega) w_pt65_U ?_
          refine E_aload_n rfl rfl ?_
          refine E_getfield (v := .ref 71) rfl w65 rfl (by decide) rfl ?_
          refine E_iload_n rfl rfl ?_
          refine E_ialN (l := (qU (dnS (dn2 t))).set (dnP t) (((qU (dn2 t)).getD (dnP t) 0) + (qDr (dn2 t) 20))) (v := (qU (dn2 t)).getD (dnP t) 0 + qDr (dn2 t) 20) rfl (w71v qg_UU) (by omega) (by omega) (ab_gs2 (by omega)) ?_
          refine E_bipush (x := nI 99) rfl (by decide) ?_
          refine E_ic (t := 53) (b := true) rfl rfl ((cn_le (nI_toInt (by omega)) (nI_toInt (by omega))).trans (decide_eq_true (by omega))) ?_
          rw [dn3_a (q := t) (by omega)]
          refine E_aload_n rfl rfl ?_
          refine E_getfield (v := .ref 73) rfl w65 rfl (by decide) rfl ?_
          refine E_iload_n rfl rfl ?_
          refine E_aload_n rfl rfl ?_
          refine E_bipush (x := nI 8) rfl (by decide) ?_
          refine E_callV (v := some (.int (nI (qDr (dn3 t) 8)))) (As := [.ref 65, .int (nI 8)]) (r0 := [.int (nI (dnP t)), .ref 73]) (cs2 := (ww im lf s d k ls rf rz ra rn rq lt m1 m2 m3 m4 bd fc hd sz el (dnS (dn3 t)) g fm hm so si sh ce ca td wa kp la bf oo bo pw ow tr)) rfl rfl rfl (Nat.le_of_ble_eq_true rfl) rfl (ab_rvOf w65 rfl) (w_draw65 (n := 8) (by omega) (by omega)) (by decide) w_lens ?_
          refine E_iasN (l := qW (dnS (dn3 t))) (cs2 := (ww im lf s d k ls rf rz ra rn rq lt m1 m2 m3 m4 bd fc hd sz el (qs_W (dnS (dn3 t)) ((qW (dnS (dn3 t))).set (dnP t) (qDr (dn3 t) 8))) g fm hm so si sh ce ca td wa kp la bf oo bo pw ow tr)) rfl w73 (by omega) (by omega) w_pt65_W ?_
          rw [show (qs_W (dnS (dn3 t)) ((qW (dnS (dn3 t))).set (dnP t) (qDr (dn3 t) 8))) = (dn4 t) from rfl]
          refine E_aload_n rfl rfl ?_
          refine E_iload_n rfl rfl ?_
          refine E_callV (v := none) (As := [.ref 65, .int (nI (dnP t))]) (r0 := []) (cs2 := (ww im lf s d k ls rf rz ra rn rq lt m1 m2 m3 m4 bd fc hd sz el (dn4 t) (fUp (fUp g 36 (-1)) 37 (-1)) fm hm so si sh ce ca td wa kp la (lsF (bst (dn4 t) (qPs (dn4 t) 99 (qN (dn4 t))) (qN (dn4 t)) (2 ^ qN (dn4 t)))) oo bo pw ow tr)) rfl rfl rfl (Nat.le_of_ble_eq_true rfl) rfl (ab_rvOf w65 rfl) (Ev.to (w_throw I4 hp4 l_bf) (by unfold thA thB; rw [if_neg (by omega), if_neg (by omega)])) (by decide) w_lens ?_
          refine E_aload_n rfl rfl ?_
          refine E_getfield (v := .int (-1)) rfl w65 rfl (by decide) rfl ?_
          refine E_iconst (x := (-1)) rfl (by decide) ?_
          refine E_ic (t := 99) (b := true) rfl rfl (by decide) ?_
          refine E_aload_n rfl rfl ?_
          refine E_getfield (v := .int (nI (qN (dn4 t)))) rfl w65 rfl (by decide) rfl ?_
          refine E_if (t := 133) (b := false) rfl rfl ((cn_le (nI_toInt (by omega)) (by decide : (0 : Int32).toInt = 0)).trans (decide_eq_false (by omega))) ?_
          refine E_aload_n rfl rfl ?_
          refine E_aload_n rfl rfl ?_
          refine E_getfield (v := .int (nI (qN (dn4 t)))) rfl w65 rfl (by decide) rfl ?_
          refine E_callV (v := some (.int (nI (dnX t)))) (As := [.ref 65, .int (nI (qN (dn4 t)))]) (r0 := []) (cs2 := (ww im lf s d k ls rf rz ra rn rq lt m1 m2 m3 m4 bd fc hd sz el (dnS (dn4 t)) (fUp (fUp g 36 (-1)) 37 (-1)) fm hm so si sh ce ca td wa kp la (lsF (bst (dn4 t) (qPs (dn4 t) 99 (qN (dn4 t))) (qN (dn4 t)) (2 ^ qN (dn4 t)))) oo bo pw ow tr)) rfl rfl rfl (Nat.le_of_ble_eq_true rfl) rfl (ab_rvOf w65 rfl) (w_draw65 (n := qN (dn4 t)) (by omega) (by omega)) (by decide) w_lens ?_
          refine E_istore_n (L2 := [some (.ref 65), some (.int (nI (dnP t))), some (.int (nI (dnX t)))]) rfl rfl ?_
          refine E_aload_n rfl rfl ?_
          refine E_getfield (v := .ref 70) rfl w65 rfl (by decide) rfl ?_
          refine E_iload_n rfl rfl ?_
          refine E_ialN (l := qP (dnS (dn4 t))) (v := (qP (dnS (dn4 t))).getD (dnX t) 0) rfl w70 (by omega) (by omega) rfl ?_
          refine E_iload_n rfl rfl ?_
          refine E_ic (t := 133) (b := false) rfl rfl ((cn_ne (nI_toInt (by omega)) (nI_toInt (by omega))).trans (decide_eq_false (by omega))) ?_
          refine E_aload_n rfl rfl ?_
          refine E_getfield (v := .ref 70) rfl w65 rfl (by decide) rfl ?_
          refine E_iload_n rfl rfl ?_
          refine E_bipush (x := nI 99) rfl (by decide) ?_
          refine E_iasN (l := qP (dnS (dn4 t))) (cs2 := (ww im lf s d k ls rf rz ra rn rq lt m1 m2 m3 m4 bd fc hd sz el (qs_P (dnS (dn4 t)) ((qP (dnS (dn4 t))).set (dnX t) 99)) (fUp (fUp g 36 (-1)) 37 (-1)) fm hm so si sh ce ca td wa kp la (lsF (bst (dn4 t) (qPs (dn4 t) 99 (qN (dn4 t))) (qN (dn4 t)) (2 ^ qN (dn4 t)))) oo bo pw ow tr)) rfl w70 (by omega) (by omega) w_pt65_P ?_
          exact E_vret rfl rfl
        · have : (qU (dn2 t)).length = 6 := by first | omega | (simp only [List.length_set]; omega)
          have hx20 := dr_lt (dn2 t) (n := 20) (by decide)
          have : (qU (dnS (dn2 t))).length = 6 := by first | omega | (simp only [List.length_set]; omega)
          have : ((qU (dnS (dn2 t))).set (dnP t) (((qU (dn2 t)).getD (dnP t) 0) + (qDr (dn2 t) 20))).length = 6 := by first | omega | (simp only [List.length_set]; omega)
          have hx8 := dr_lt (dn3 t) (n := 8) (by decide)
          have : (qW (dnS (dn3 t))).length = 6 := by first | omega | (simp only [List.length_set]; omega)
          have hx := dr_lt (dn4 t) (n := qN (dn4 t)) (by omega)
          have hx2 : dnX t < qN (dn4 t) := hx
          have hM4 := dn4_M t
          have hpl : (qP (dnS (dn4 t))).getD (dnX t) 0 = 99 ∨ (qP (dnS (dn4 t))).getD (dnX t) 0 < qM (dn4 t) := by rw [dnS_P]; exact (I4.2.2.2.1 (dnX t) hx2).2.2.2.2
          have : (qP (dnS (dn4 t))).length = 9 := by first | omega | (simp only [List.length_set]; omega)
          have e : dnx t = (dnS (dn4 t)) := by unfold dnx; rw [if_neg (by omega), if_neg (by omega), if_neg (by omega)]
          have eA : thA (dn4 t) (dnP t) = (-1) := if_neg (by omega)
          have eB : thB (dn4 t) (dnP t) = (-1) := if_neg (by omega)
          rw [e, eA, eB]
          refine Ef.in (md := mX6_day) (L := [some (.ref 65), none, none]) rfl (Nat.le_of_ble_eq_true rfl) rfl ?_
          refine E_aload_n rfl rfl ?_
          refine E_dup rfl rfl ?_
          refine E_getfield (v := .int (qD t)) rfl w65 rfl (by decide) rfl ?_
          refine E_iconst (x := nI 1) rfl (by decide) ?_
          refine E_iadd (z := (qD t) + (nI 1)) rfl rfl ?_
          refine E_putfield (cs2 := (ww im lf s d k ls rf rz ra rn rq lt m1 m2 m3 m4 bd fc hd sz el (qs_D t ((qD t) + (nI 1))) g fm hm so si sh ce ca td wa kp la bf oo bo pw ow tr)) rfl w65 rfl (by decide) (Nat.le_of_ble_eq_true rfl) rfl rfl rfl w_pt65_D ?_
          refine E_aload_n rfl rfl ?_
          refine E_aload_n rfl rfl ?_
          refine E_getfield (v := .int (nI (qM t))) rfl w65 rfl (by decide) (congrArg (fun z => some (Value.int (nI z))) qg_MD) ?_
          refine E_callV (v := some (.int (nI (dnP t)))) (As := [.ref 65, .int (nI (qM t))]) (r0 := []) (cs2 := (ww im lf s d k ls rf rz ra rn rq lt m1 m2 m3 m4 bd fc hd sz el (dn2 t) g fm hm so si sh ce ca td wa kp la bf oo bo pw ow tr)) rfl rfl rfl (Nat.le_of_ble_eq_true rfl) rfl (ab_rvOf w65 rfl) (w_draw65 (n := qM t) (by omega) (by omega)) (by decide) w_lens ?_
          refine E_istore_n (L2 := [some (.ref 65), some (.int (nI (dnP t))), none]) rfl rfl ?_
          refine E_aload_n rfl rfl ?_
          refine E_getfield (v := .ref 71) rfl w65 rfl (by decide) rfl ?_
          refine E_iload_n rfl rfl ?_
          refine E_dup2 rfl ⟨rfl, rfl⟩ ?_
          refine E_ialN (l := qU (dn2 t)) (v := (qU (dn2 t)).getD (dnP t) 0) rfl w71 (by omega) (by omega) rfl ?_
          refine E_aload_n rfl rfl ?_
          refine E_bipush (x := nI 20) rfl (by decide) ?_
          refine E_callV (v := some (.int (nI (qDr (dn2 t) 20)))) (As := [.ref 65, .int (nI 20)]) (r0 := [.int (nI ((qU (dn2 t)).getD (dnP t) 0)), .int (nI (dnP t)), .ref 71]) (cs2 := (ww im lf s d k ls rf rz ra rn rq lt m1 m2 m3 m4 bd fc hd sz el (dnS (dn2 t)) g fm hm so si sh ce ca td wa kp la bf oo bo pw ow tr)) rfl rfl rfl (Nat.le_of_ble_eq_true rfl) rfl (ab_rvOf w65 rfl) (w_draw65 (n := 20) (by omega) (by omega)) (by decide) w_lens ?_
          refine E_iadd (z := nI (((qU (dn2 t)).getD (dnP t) 0) + (qDr (dn2 t) 20))) rfl (nI_add _ _) ?_
          refine E_iasN (l := qU (dnS (dn2 t))) (cs2 := (ww im lf s d k ls rf rz ra rn rq lt m1 m2 m3 m4 bd fc hd sz el (qs_U (dnS (dn2 t)) ((qU (dnS (dn2 t))).set (dnP t) (((qU (dn2 t)).getD (dnP t) 0) + (qDr (dn2 t) 20)))) g fm hm so si sh ce ca td wa kp la bf oo bo pw ow tr)) rfl w71 (by omega) (by omega) w_pt65_U ?_
          refine E_aload_n rfl rfl ?_
          refine E_getfield (v := .ref 71) rfl w65 rfl (by decide) rfl ?_
          refine E_iload_n rfl rfl ?_
          refine E_ialN (l := (qU (dnS (dn2 t))).set (dnP t) (((qU (dn2 t)).getD (dnP t) 0) + (qDr (dn2 t) 20))) (v := (qU (dn2 t)).getD (dnP t) 0 + qDr (dn2 t) 20) rfl (w71v qg_UU) (by omega) (by omega) (ab_gs2 (by omega)) ?_
          refine E_bipush (x := nI 99) rfl (by decide) ?_
          refine E_ic (t := 53) (b := true) rfl rfl ((cn_le (nI_toInt (by omega)) (nI_toInt (by omega))).trans (decide_eq_true (by omega))) ?_
          rw [dn3_a (q := t) (by omega)]
          refine E_aload_n rfl rfl ?_
          refine E_getfield (v := .ref 73) rfl w65 rfl (by decide) rfl ?_
          refine E_iload_n rfl rfl ?_
          refine E_aload_n rfl rfl ?_
          refine E_bipush (x := nI 8) rfl (by decide) ?_
          refine E_callV (v := some (.int (nI (qDr (dn3 t) 8)))) (As := [.ref 65, .int (nI 8)]) (r0 := [.int (nI (dnP t)), .ref 73]) (cs2 := (ww im lf s d k ls rf rz ra rn rq lt m1 m2 m3 m4 bd fc hd sz el (dnS (dn3 t)) g fm hm so si sh ce ca td wa kp la bf oo bo pw ow tr)) rfl rfl rfl (Nat.le_of_ble_eq_true rfl) rfl (ab_rvOf w65 rfl) (w_draw65 (n := 8) (by omega) (by omega)) (by decide) w_lens ?_
          refine E_iasN (l := qW (dnS (dn3 t))) (cs2 := (ww im lf s d k ls rf rz ra rn rq lt m1 m2 m3 m4 bd fc hd sz el (qs_W (dnS (dn3 t)) ((qW (dnS (dn3 t))).set (dnP t) (qDr (dn3 t) 8))) g fm hm so si sh ce ca td wa kp la bf oo bo pw ow tr)) rfl w73 (by omega) (by omega) w_pt65_W ?_
          rw [show (qs_W (dnS (dn3 t)) ((qW (dnS (dn3 t))).set (dnP t) (qDr (dn3 t) 8))) = (dn4 t) from rfl]
          refine E_aload_n rfl rfl ?_
          refine E_iload_n rfl rfl ?_
          refine E_callV (v := none) (As := [.ref 65, .int (nI (dnP t))]) (r0 := []) (cs2 := (ww im lf s d k ls rf rz ra rn rq lt m1 m2 m3 m4 bd fc hd sz el (dn4 t) (fUp (fUp g 36 (-1)) 37 (-1)) fm hm so si sh ce ca td wa kp la (lsF (bst (dn4 t) (qPs (dn4 t) 99 (qN (dn4 t))) (qN (dn4 t)) (2 ^ qN (dn4 t)))) oo bo pw ow tr)) rfl rfl rfl (Nat.le_of_ble_eq_true rfl) rfl (ab_rvOf w65 rfl) (Ev.to (w_throw I4 hp4 l_bf) (by unfold thA thB; rw [if_neg (by omega), if_neg (by omega)])) (by decide) w_lens ?_
          refine E_aload_n rfl rfl ?_
          refine E_getfield (v := .int (-1)) rfl w65 rfl (by decide) rfl ?_
          refine E_iconst (x := (-1)) rfl (by decide) ?_
          refine E_ic (t := 99) (b := true) rfl rfl (by decide) ?_
          refine E_aload_n rfl rfl ?_
          refine E_getfield (v := .int (nI (qN (dn4 t)))) rfl w65 rfl (by decide) rfl ?_
          refine E_if (t := 133) (b := false) rfl rfl ((cn_le (nI_toInt (by omega)) (by decide : (0 : Int32).toInt = 0)).trans (decide_eq_false (by omega))) ?_
          refine E_aload_n rfl rfl ?_
          refine E_aload_n rfl rfl ?_
          refine E_getfield (v := .int (nI (qN (dn4 t)))) rfl w65 rfl (by decide) rfl ?_
          refine E_callV (v := some (.int (nI (dnX t)))) (As := [.ref 65, .int (nI (qN (dn4 t)))]) (r0 := []) (cs2 := (ww im lf s d k ls rf rz ra rn rq lt m1 m2 m3 m4 bd fc hd sz el (dnS (dn4 t)) (fUp (fUp g 36 (-1)) 37 (-1)) fm hm so si sh ce ca td wa kp la (lsF (bst (dn4 t) (qPs (dn4 t) 99 (qN (dn4 t))) (qN (dn4 t)) (2 ^ qN (dn4 t)))) oo bo pw ow tr)) rfl rfl rfl (Nat.le_of_ble_eq_true rfl) rfl (ab_rvOf w65 rfl) (w_draw65 (n := qN (dn4 t)) (by omega) (by omega)) (by decide) w_lens ?_
          refine E_istore_n (L2 := [some (.ref 65), some (.int (nI (dnP t))), some (.int (nI (dnX t)))]) rfl rfl ?_
          refine E_aload_n rfl rfl ?_
          refine E_getfield (v := .ref 70) rfl w65 rfl (by decide) rfl ?_
          refine E_iload_n rfl rfl ?_
          refine E_ialN (l := qP (dnS (dn4 t))) (v := (qP (dnS (dn4 t))).getD (dnX t) 0) rfl w70 (by omega) (by omega) rfl ?_
          refine E_iload_n rfl rfl ?_
          refine E_ic (t := 133) (b := true) rfl rfl ((cn_ne (nI_toInt (by omega)) (nI_toInt (by omega))).trans (decide_eq_true (by omega))) ?_
          exact E_vret rfl rfl
      · have : (qU (dn2 t)).length = 6 := by first | omega | (simp only [List.length_set]; omega)
        have hx20 := dr_lt (dn2 t) (n := 20) (by decide)
        have : (qU (dnS (dn2 t))).length = 6 := by first | omega | (simp only [List.length_set]; omega)
        have : ((qU (dnS (dn2 t))).set (dnP t) (((qU (dn2 t)).getD (dnP t) 0) + (qDr (dn2 t) 20))).length = 6 := by first | omega | (simp only [List.length_set]; omega)
        have hx8 := dr_lt (dn3 t) (n := 8) (by decide)
        have : (qW (dnS (dn3 t))).length = 6 := by first | omega | (simp only [List.length_set]; omega)
        have e : dnx t = (dn4 t) := by unfold dnx; rw [if_neg (by omega), if_pos (by omega)]
        have eA : thA (dn4 t) (dnP t) = (-1) := if_neg (by omega)
        have eB : thB (dn4 t) (dnP t) = (-1) := if_neg (by omega)
        rw [e, eA, eB]
        refine Ef.in (md := mX6_day) (L := [some (.ref 65), none, none]) rfl (Nat.le_of_ble_eq_true rfl) rfl ?_
        refine E_aload_n rfl rfl ?_
        refine E_dup rfl rfl ?_
        refine E_getfield (v := .int (qD t)) rfl w65 rfl (by decide) rfl ?_
        refine E_iconst (x := nI 1) rfl (by decide) ?_
        refine E_iadd (z := (qD t) + (nI 1)) rfl rfl ?_
        refine E_putfield (cs2 := (ww im lf s d k ls rf rz ra rn rq lt m1 m2 m3 m4 bd fc hd sz el (qs_D t ((qD t) + (nI 1))) g fm hm so si sh ce ca td wa kp la bf oo bo pw ow tr)) rfl w65 rfl (by decide) (Nat.le_of_ble_eq_true rfl) rfl rfl rfl w_pt65_D ?_
        refine E_aload_n rfl rfl ?_
        refine E_aload_n rfl rfl ?_
        refine E_getfield (v := .int (nI (qM t))) rfl w65 rfl (by decide) (congrArg (fun z => some (Value.int (nI z))) qg_MD) ?_
        refine E_callV (v := some (.int (nI (dnP t)))) (As := [.ref 65, .int (nI (qM t))]) (r0 := []) (cs2 := (ww im lf s d k ls rf rz ra rn rq lt m1 m2 m3 m4 bd fc hd sz el (dn2 t) g fm hm so si sh ce ca td wa kp la bf oo bo pw ow tr)) rfl rfl rfl (Nat.le_of_ble_eq_true rfl) rfl (ab_rvOf w65 rfl) (w_draw65 (n := qM t) (by omega) (by omega)) (by decide) w_lens ?_
        refine E_istore_n (L2 := [some (.ref 65), some (.int (nI (dnP t))), none]) rfl rfl ?_
        refine E_aload_n rfl rfl ?_
        refine E_getfield (v := .ref 71) rfl w65 rfl (by decide) rfl ?_
        refine E_iload_n rfl rfl ?_
        refine E_dup2 rfl ⟨rfl, rfl⟩ ?_
        refine E_ialN (l := qU (dn2 t)) (v := (qU (dn2 t)).getD (dnP t) 0) rfl w71 (by omega) (by omega) rfl ?_
        refine E_aload_n rfl rfl ?_
        refine E_bipush (x := nI 20) rfl (by decide) ?_
        refine E_callV (v := some (.int (nI (qDr (dn2 t) 20)))) (As := [.ref 65, .int (nI 20)]) (r0 := [.int (nI ((qU (dn2 t)).getD (dnP t) 0)), .int (nI (dnP t)), .ref 71]) (cs2 := (ww im lf s d k ls rf rz ra rn rq lt m1 m2 m3 m4 bd fc hd sz el (dnS (dn2 t)) g fm hm so si sh ce ca td wa kp la bf oo bo pw ow tr)) rfl rfl rfl (Nat.le_of_ble_eq_true rfl) rfl (ab_rvOf w65 rfl) (w_draw65 (n := 20) (by omega) (by omega)) (by decide) w_lens ?_
        refine E_iadd (z := nI (((qU (dn2 t)).getD (dnP t) 0) + (qDr (dn2 t) 20))) rfl (nI_add _ _) ?_
        refine E_iasN (l := qU (dnS (dn2 t))) (cs2 := (ww im lf s d k ls rf rz ra rn rq lt m1 m2 m3 m4 bd fc hd sz el (qs_U (dnS (dn2 t)) ((qU (dnS (dn2 t))).set (dnP t) (((qU (dn2 t)).getD (dnP t) 0) + (qDr (dn2 t) 20)))) g fm hm so si sh ce ca td wa kp la bf oo bo pw ow tr)) rfl w71 (by omega) (by omega) w_pt65_U ?_
        refine E_aload_n rfl rfl ?_
        refine E_getfield (v := .ref 71) rfl w65 rfl (by decide) rfl ?_
        refine E_iload_n rfl rfl ?_
        refine E_ialN (l := (qU (dnS (dn2 t))).set (dnP t) (((qU (dn2 t)).getD (dnP t) 0) + (qDr (dn2 t) 20))) (v := (qU (dn2 t)).getD (dnP t) 0 + qDr (dn2 t) 20) rfl (w71v qg_UU) (by omega) (by omega) (ab_gs2 (by omega)) ?_
        refine E_bipush (x := nI 99) rfl (by decide) ?_
        refine E_ic (t := 53) (b := true) rfl rfl ((cn_le (nI_toInt (by omega)) (nI_toInt (by omega))).trans (decide_eq_true (by omega))) ?_
        rw [dn3_a (q := t) (by omega)]
        refine E_aload_n rfl rfl ?_
        refine E_getfield (v := .ref 73) rfl w65 rfl (by decide) rfl ?_
        refine E_iload_n rfl rfl ?_
        refine E_aload_n rfl rfl ?_
        refine E_bipush (x := nI 8) rfl (by decide) ?_
        refine E_callV (v := some (.int (nI (qDr (dn3 t) 8)))) (As := [.ref 65, .int (nI 8)]) (r0 := [.int (nI (dnP t)), .ref 73]) (cs2 := (ww im lf s d k ls rf rz ra rn rq lt m1 m2 m3 m4 bd fc hd sz el (dnS (dn3 t)) g fm hm so si sh ce ca td wa kp la bf oo bo pw ow tr)) rfl rfl rfl (Nat.le_of_ble_eq_true rfl) rfl (ab_rvOf w65 rfl) (w_draw65 (n := 8) (by omega) (by omega)) (by decide) w_lens ?_
        refine E_iasN (l := qW (dnS (dn3 t))) (cs2 := (ww im lf s d k ls rf rz ra rn rq lt m1 m2 m3 m4 bd fc hd sz el (qs_W (dnS (dn3 t)) ((qW (dnS (dn3 t))).set (dnP t) (qDr (dn3 t) 8))) g fm hm so si sh ce ca td wa kp la bf oo bo pw ow tr)) rfl w73 (by omega) (by omega) w_pt65_W ?_
        rw [show (qs_W (dnS (dn3 t)) ((qW (dnS (dn3 t))).set (dnP t) (qDr (dn3 t) 8))) = (dn4 t) from rfl]
        refine E_aload_n rfl rfl ?_
        refine E_iload_n rfl rfl ?_
        refine E_callV (v := none) (As := [.ref 65, .int (nI (dnP t))]) (r0 := []) (cs2 := (ww im lf s d k ls rf rz ra rn rq lt m1 m2 m3 m4 bd fc hd sz el (dn4 t) (fUp (fUp g 36 (-1)) 37 (-1)) fm hm so si sh ce ca td wa kp la (lsF (bst (dn4 t) (qPs (dn4 t) 99 (qN (dn4 t))) (qN (dn4 t)) (2 ^ qN (dn4 t)))) oo bo pw ow tr)) rfl rfl rfl (Nat.le_of_ble_eq_true rfl) rfl (ab_rvOf w65 rfl) (Ev.to (w_throw I4 hp4 l_bf) (by unfold thA thB; rw [if_neg (by omega), if_neg (by omega)])) (by decide) w_lens ?_
        refine E_aload_n rfl rfl ?_
        refine E_getfield (v := .int (-1)) rfl w65 rfl (by decide) rfl ?_
        refine E_iconst (x := (-1)) rfl (by decide) ?_
        refine E_ic (t := 99) (b := true) rfl rfl (by decide) ?_
        refine E_aload_n rfl rfl ?_
        refine E_getfield (v := .int (nI (qN (dn4 t)))) rfl w65 rfl (by decide) rfl ?_
        refine E_if (t := 133) (b := true) rfl rfl ((cn_le (nI_toInt (by omega)) (by decide : (0 : Int32).toInt = 0)).trans (decide_eq_true (by omega))) ?_
        exact E_vret rfl rfl
set_option maxHeartbeats 1000000 in
theorem dn_c {n : Nat} (I : qI s) (hM : 0 < qM s) (hn : n ≤ 40) {r : Option Value × List ab_C} (K : Ef ab_Z0 5 mX5_days (53, [some (.ref 0), some (.int (nI n)), some (.int (nI n))], [], (ww im lf (dnI s n) d k ls rf rz ra rn rq lt m1 m2 m3 m4 bd fc hd sz el t g fm hm so si sh ce ca td wa kp la bf oo bo pw ow tr)) r) : ∀ n0 v , v + n0 = n → Ef ab_Z0 5 mX5_days (35, [some (.ref 0), some (.int (nI n)), some (.int (nI v))], [], (ww im lf (dnI s v) d k ls rf rz ra rn rq lt m1 m2 m3 m4 bd fc hd sz el t g fm hm so si sh ce ca td wa kp la bf oo bo pw ow tr)) r := by
  intro n0
  induction n0 with
  | zero =>
    intro v  hi
    have hi : v = n := by omega
    rw [hi]
    refine E_iload_n rfl rfl ?_
    refine E_iload_n rfl rfl ?_
    refine E_ic (t := 53) (b := true) rfl rfl ((cn_ge (nI_toInt (by omega)) (nI_toInt (by omega))).trans (decide_eq_true (by omega))) ?_
    exact K
  | succ n0 ih =>
    intro v  hi
    refine E_iload_n rfl rfl ?_
    refine E_iload_n rfl rfl ?_
    refine E_ic (t := 53) (b := false) rfl rfl ((cn_ge (nI_toInt (by omega)) (nI_toInt (by omega))).trans (decide_eq_false (by omega))) ?_
    refine E_aload_n rfl rfl ?_
    refine E_getfield (v := .ref 1) rfl w0 rfl (by decide) rfl ?_
    refine E_callV (v := none) (As := [.ref 1]) (r0 := []) (cs2 := (ww im lf (dnI s (v + 1)) d k ls rf rz ra rn rq lt m1 m2 m3 m4 bd fc hd sz el t g fm hm so si sh ce ca td wa kp la bf oo bo pw ow tr)) rfl rfl rfl (Nat.le_of_ble_eq_true rfl) rfl (ab_rvOf w1 rfl) (w_day1 (dnI_I I hM v).1 ((dnI_I I hM v).2.1 ▸ hM)) (by decide) w_lens ?_
    refine E_iinc (y := nI (v + 1)) (L2 := [some (.ref 0), some (.int (nI n)), some (.int (nI (v + 1)))]) rfl rfl (nI_1 _) rfl ?_
    refine E_goto (t := 35) rfl rfl ?_
    exact ih (v + 1) (by omega)
set_option maxHeartbeats 1000000 in
theorem dn_m {n : Nat} (I : qI t) (hM : 0 < qM t) (hn : n ≤ 40) : ∀ n0 v (a b : Int32) (bf : List Int32), v + n0 = n → bf.length = 100 → ∃ (a2 b2 : Int32) (bf2 : List Int32), bf2.length = 100 ∧ ∀ r, Ef ab_Z0 6 mX6_days (34, [some (.ref 65), some (.int (nI n)), some (.int (nI n))], [], (ww im lf s d k ls rf rz ra rn rq lt m1 m2 m3 m4 bd fc hd sz el (dnI t n) (fUp (fUp g 36 a2) 37 b2) fm hm so si sh ce ca td wa kp la bf2 oo bo pw ow tr)) r → Ef ab_Z0 6 mX6_days (34, [some (.ref 65), some (.int (nI n)), some (.int (nI v))], [], (ww im lf s d k ls rf rz ra rn rq lt m1 m2 m3 m4 bd fc hd sz el (dnI t v) (fUp (fUp g 36 a) 37 b) fm hm so si sh ce ca td wa kp la bf oo bo pw ow tr)) r := by
  intro n0
  induction n0 with
  | zero =>
    intro v a b bf hi hl
    have hi : v = n := by omega
    rw [hi]
    exact ⟨a, b, bf, hl, fun r K => K⟩
  | succ n0 ih =>
    intro v a b bf hi hl
    obtain ⟨a2, b2, bf2, l2, K2⟩ := ih (v + 1) (thA (dn4 (dnI t v)) (dnP (dnI t v))) (thB (dn4 (dnI t v)) (dnP (dnI t v))) (lsF (bst (dn4 (dnI t v)) (qPs (dn4 (dnI t v)) 99 (qN (dn4 (dnI t v)))) (qN (dn4 (dnI t v))) (2 ^ qN (dn4 (dnI t v))))) (by omega) (lsF_len _)
    refine ⟨a2, b2, bf2, l2, fun r K => ?_⟩
    refine E_iload_n rfl rfl ?_
    refine E_iload_n rfl rfl ?_
    refine E_ic (t := 49) (b := false) rfl rfl ((cn_ge (nI_toInt (by omega)) (nI_toInt (by omega))).trans (decide_eq_false (by omega))) ?_
    refine E_aload_n rfl rfl ?_
    refine E_callV (v := none) (As := [.ref 65]) (r0 := []) (cs2 := (ww im lf s d k ls rf rz ra rn rq lt m1 m2 m3 m4 bd fc hd sz el (dnI t (v + 1)) (fUp (fUp g 36 (thA (dn4 (dnI t v)) (dnP (dnI t v)))) 37 (thB (dn4 (dnI t v)) (dnP (dnI t v)))) fm hm so si sh ce ca td wa kp la (lsF (bst (dn4 (dnI t v)) (qPs (dn4 (dnI t v)) 99 (qN (dn4 (dnI t v)))) (qN (dn4 (dnI t v))) (2 ^ qN (dn4 (dnI t v))))) oo bo pw ow tr)) rfl rfl rfl (Nat.le_of_ble_eq_true rfl) rfl (ab_rvOf w65 rfl) (Ev.to (w_day65 (dnI_I I hM v).1 ((dnI_I I hM v).2.1 ▸ hM) hl) (by rw [fUp_4]; rfl)) (by decide) w_lens ?_
    refine E_iinc (y := nI (v + 1)) (L2 := [some (.ref 65), some (.int (nI n)), some (.int (nI (v + 1)))]) rfl rfl (nI_1 _) rfl ?_
    refine E_goto (t := 34) rfl rfl ?_
    exact K2 r K
theorem dn_m0 {n : Nat} (I : qI t) (hM : 0 < qM t) (hn : n ≤ 40) (l_bf : bf.length = 100) : ∃ (a2 b2 : Int32) (bf2 : List Int32), bf2.length = 100 ∧ ∀ r, Ef ab_Z0 6 mX6_days (34, [some (.ref 65), some (.int (nI n)), some (.int (nI n))], [], (ww im lf s d k ls rf rz ra rn rq lt m1 m2 m3 m4 bd fc hd sz el (dnI t n) (fUp (fUp g 36 a2) 37 b2) fm hm so si sh ce ca td wa kp la bf2 oo bo pw ow tr)) r → Ef ab_Z0 6 mX6_days (34, [some (.ref 65), some (.int (nI n)), some (.int (nI 0))], [], (ww im lf s d k ls rf rz ra rn rq lt m1 m2 m3 m4 bd fc hd sz el t g fm hm so si sh ce ca td wa kp la bf oo bo pw ow tr)) r := by
  have X : ∃ (a2 b2 : Int32) (bf2 : List Int32), bf2.length = 100 ∧ ∀ r, Ef ab_Z0 6 mX6_days (34, [some (.ref 65), some (.int (nI n)), some (.int (nI n))], [], (ww im lf s d k ls rf rz ra rn rq lt m1 m2 m3 m4 bd fc hd sz el (dnI t n) (fUp (fUp g 36 a2) 37 b2) fm hm so si sh ce ca td wa kp la bf2 oo bo pw ow tr)) r → Ef ab_Z0 6 mX6_days (34, [some (.ref 65), some (.int (nI n)), some (.int (nI 0))], [], (ww im lf s d k ls rf rz ra rn rq lt m1 m2 m3 m4 bd fc hd sz el (dnI t 0) (fUp (fUp g 36 (g 36)) 37 (g 37)) fm hm so si sh ce ca td wa kp la bf oo bo pw ow tr)) r := dn_m I hM hn n 0 (g 36) (g 37) bf (Nat.zero_add _) l_bf
  rw [show dnI t 0 = t from rfl, fUp_self, fUp_self] at X
  exact X
end DN
