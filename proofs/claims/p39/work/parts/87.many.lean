/-! how many amounts, the methods; by program (wip/tools/mk87.py) -/
theorem bst_bd {s : ab_q} {m n N : Nat} (h : N ≤ 512) (c : Nat) : bst s m n N c ≤ 16777216 := by
  rcases e : bst s m n N c with _ | S
  · omega
  · have := (bst_in _ _ _ e).1
    omega
section CM
variable {im : Int32} {lf : Int32} {s : ab_q} {d : ab_q} {k : ab_q} {ls : List Int32} {rf : Int32} {rz : Int32} {ra : Int32} {rn : Int32} {rq : ab_q} {lt : List Int32} {m1 : Int32} {m2 : Int32} {m3 : Int32} {m4 : Int32} {bd : List Int32} {fc : List Int32} {hd : Nat → Int32} {sz : Nat → Int32} {el : Nat → List Int64} {t : ab_q} {g : Nat → Int32} {fm : List Int32} {hm : List Nat} {so : List Nat} {si : List Nat} {sh : List Int32} {ce : List Int64} {ca : List Int64} {td : List Int32} {wa : List Int32} {kp : List Int32} {la : List Int32} {bf : List Int32} {oo : List Int32} {bo : List Int32} {pw : List Int32} {ow : List Int32} {tr : List Int32}
theorem w_amounts1 {m : Nat} (I : qI s) (hM : m < 2147483648) (l_ls : ls.length = 100) : Ev ab_Z0 3 5 [.ref 32, .ref 1, .int (nI m)] (ww im lf s d k ls rf rz ra rn rq lt m1 m2 m3 m4 bd fc hd sz el t g fm hm so si sh ce ca td wa kp la bf oo bo pw ow tr) (some (.int (nI (cntF (wgh s m (qN s)) 100))), (ww im lf s d k (lsF (wgh s m (qN s))) rf rz ra rn rq lt m1 m2 m3 m4 bd fc hd sz el t g fm hm so si sh ce ca td wa kp la bf oo bo pw ow tr)) := by
  have h9 := I.2.2.1.1
  refine Ef.in (md := mX0_amountsOf) (L := [some (.ref 32), some (.ref 1), some (.int (nI m)), none, none]) rfl (Nat.le_of_ble_eq_true rfl) rfl ?_
  refine E_aload_n rfl rfl ?_
  refine E_aload_n rfl rfl ?_
  refine E_iload_n rfl rfl ?_
  refine E_callV (v := none) (As := [.ref 32, .ref 1, .int (nI m)]) (r0 := []) (cs2 := (ww im lf s d k (lsF (wgh s m (qN s))) rf rz ra rn rq lt m1 m2 m3 m4 bd fc hd sz el t g fm hm so si sh ce ca td wa kp la bf oo bo pw ow tr)) rfl rfl rfl (Nat.le_of_ble_eq_true rfl) rfl (ab_rvOf w32 rfl) (w_weigh1 (m := m) I (by omega) l_ls) (by decide) w_lens ?_
  refine E_iconst (x := nI 0) rfl (by decide) ?_
  refine E_istore_n (L2 := [some (.ref 32), some (.ref 1), some (.int (nI m)), some (.int (nI 0)), none]) rfl rfl ?_
  refine E_iconst (x := nI 1) rfl (by decide) ?_
  refine E_istore (L2 := [some (.ref 32), some (.ref 1), some (.int (nI m)), some (.int (nI 0)), some (.int (nI 1))]) rfl rfl ?_
  exact cnt_ls (fun z => wgh_bd I (Nat.le_refl _)) 99 1 rfl (Nat.le_refl _)
theorem w_amounts11 {m : Nat} (I : qI d) (hM : m < 2147483648) (l_ls : ls.length = 100) : Ev ab_Z0 3 5 [.ref 32, .ref 11, .int (nI m)] (ww im lf s d k ls rf rz ra rn rq lt m1 m2 m3 m4 bd fc hd sz el t g fm hm so si sh ce ca td wa kp la bf oo bo pw ow tr) (some (.int (nI (cntF (wgh d m (qN d)) 100))), (ww im lf s d k (lsF (wgh d m (qN d))) rf rz ra rn rq lt m1 m2 m3 m4 bd fc hd sz el t g fm hm so si sh ce ca td wa kp la bf oo bo pw ow tr)) := by
  have h9 := I.2.2.1.1
  refine Ef.in (md := mX0_amountsOf) (L := [some (.ref 32), some (.ref 11), some (.int (nI m)), none, none]) rfl (Nat.le_of_ble_eq_true rfl) rfl ?_
  refine E_aload_n rfl rfl ?_
  refine E_aload_n rfl rfl ?_
  refine E_iload_n rfl rfl ?_
  refine E_callV (v := none) (As := [.ref 32, .ref 11, .int (nI m)]) (r0 := []) (cs2 := (ww im lf s d k (lsF (wgh d m (qN d))) rf rz ra rn rq lt m1 m2 m3 m4 bd fc hd sz el t g fm hm so si sh ce ca td wa kp la bf oo bo pw ow tr)) rfl rfl rfl (Nat.le_of_ble_eq_true rfl) rfl (ab_rvOf w32 rfl) (w_weigh11 (m := m) I (by omega) l_ls) (by decide) w_lens ?_
  refine E_iconst (x := nI 0) rfl (by decide) ?_
  refine E_istore_n (L2 := [some (.ref 32), some (.ref 11), some (.int (nI m)), some (.int (nI 0)), none]) rfl rfl ?_
  refine E_iconst (x := nI 1) rfl (by decide) ?_
  refine E_istore (L2 := [some (.ref 32), some (.ref 11), some (.int (nI m)), some (.int (nI 0)), some (.int (nI 1))]) rfl rfl ?_
  exact cnt_ls (fun z => wgh_bd I (Nat.le_refl _)) 99 1 rfl (Nat.le_refl _)
theorem w_many0 {f : Nat → Nat} (hb : ∀ c, f c ≤ 16777216) : Ev ab_Z0 3 181 [.ref 65, .int (nI 0)] (ww im lf s d k ls rf rz ra rn rq lt m1 m2 m3 m4 bd fc hd sz el t g fm hm so si sh ce ca td wa kp la (lsF f) oo bo pw ow tr) (some (.int (nI (cntF f 100))), (ww im lf s d k ls rf rz ra rn rq lt m1 m2 m3 m4 bd fc hd sz el t g fm hm so si sh ce ca td wa kp la (lsF f) oo bo pw ow tr)) := by
  refine Ef.in (md := mX6_manyAmounts) (L := [some (.ref 65), some (.int (nI 0)), none, none]) rfl (Nat.le_of_ble_eq_true rfl) rfl ?_
  refine E_iconst (x := nI 0) rfl (by decide) ?_
  refine E_istore_n (L2 := [some (.ref 65), some (.int (nI 0)), some (.int (nI 0)), none]) rfl rfl ?_
  refine E_iconst (x := nI 1) rfl (by decide) ?_
  refine E_istore_n (L2 := [some (.ref 65), some (.int (nI 0)), some (.int (nI 0)), some (.int (nI 1))]) rfl rfl ?_
  exact cnt_bf hb 99 1 rfl (Nat.le_refl _)
theorem w_many1 (I : qI t) : Ev ab_Z0 3 181 [.ref 65, .int (nI 1)] (ww im lf s d k ls rf rz ra rn rq lt m1 m2 m3 m4 bd fc hd sz el t g fm hm so si sh ce ca td wa kp la bf oo bo pw ow tr) (some (.int (nI (cntF (qGreedy t) 100))), (ww im lf s d k ls rf rz ra rn rq lt m1 m2 m3 m4 bd fc hd sz el t g fm hm so si sh ce ca td wa kp la bf oo bo pw ow tr)) := by
  refine Ef.in (md := mX6_manyAmounts) (L := [some (.ref 65), some (.int (nI 1)), none, none]) rfl (Nat.le_of_ble_eq_true rfl) rfl ?_
  refine E_iconst (x := nI 0) rfl (by decide) ?_
  refine E_istore_n (L2 := [some (.ref 65), some (.int (nI 1)), some (.int (nI 0)), none]) rfl rfl ?_
  refine E_iconst (x := nI 1) rfl (by decide) ?_
  refine E_istore_n (L2 := [some (.ref 65), some (.int (nI 1)), some (.int (nI 0)), some (.int (nI 1))]) rfl rfl ?_
  exact cnt_mg I 99 1 rfl (Nat.le_refl _)
end CM
