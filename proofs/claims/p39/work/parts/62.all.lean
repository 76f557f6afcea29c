/-! the reference carries its square away, and back; by program (wip/tools/mk62.py) -/
theorem mo_carBX {cs : List ab_C} {A B n f : Nat} {F G X : List Int32} (hA : cs[A]? = some (.inl F)) (hB : cs[B]? = some (.inl G)) (hF : F.length = n) (hG : G.length = 75) (hf : f + n ≤ 75) (hne : ¬ A = B) (hX : ab_cp G F f 0 n = X) : Ev ab_Z0 1 163 [.ref 65, .ref A, .int (nI n), .ref B, .int (nI f), .int (nI 1)] cs (some (.int (nI (f + n))), cs.set A (.inl X)) := by
  rw [← hX]
  exact mo_carB hA hB hF hG hf hne
theorem Ev.to {Z : ab_Z} {d y : Nat} {As : List Value} {cs c1 c2 : List ab_C} {v : Option Value} (h : Ev Z d y As cs (v, c1)) (e : c1 = c2) : Ev Z d y As cs (v, c2) := e ▸ h
theorem qs_all (t u : ab_q) : (qs_S (qs_D (qs_Y (qs_R (qs_M (qs_N (qs_C (qs_G (qs_W (qs_L (qs_U (qs_P (qs_B (qs_A (qs_K t (qK u)) (qA u)) (qB u)) (qP u)) (qU u)) (qL u)) (qW u)) (qG u)) (qC u)) (qN u)) (qM u)) (qR u)) (qY u)) (qD u)) (qS u)) = u := by
  obtain ⟨tK, tA, tB, tP, tU, tL, tW, tG, tC, tN, tM, tR, tY, tD, tS⟩ := t
  obtain ⟨uK, uA, uB, uP, uU, uL, uW, uG, uC, uN, uM, uR, uY, uD, uS⟩ := u
  rfl
section AL
variable {im : Int32} {lf : Int32} {s : ab_q} {d : ab_q} {k : ab_q} {ls : List Int32} {rf : Int32} {rz : Int32} {ra : Int32} {rn : Int32} {rq : ab_q} {lt : List Int32} {m1 : Int32} {m2 : Int32} {m3 : Int32} {m4 : Int32} {bd : List Int32} {fc : List Int32} {hd : Nat → Int32} {sz : Nat → Int32} {el : Nat → List Int64} {t : ab_q} {g : Nat → Int32} {fm : List Int32} {hm : List Nat} {so : List Nat} {si : List Nat} {sh : List Int32} {ce : List Int64} {ca : List Int64} {td : List Int32} {wa : List Int32} {kp : List Int32} {la : List Int32} {bf : List Int32} {oo : List Int32} {bo : List Int32} {pw : List Int32} {ow : List Int32} {tr : List Int32}
set_option maxHeartbeats 400000 in
theorem m_allO_86 (l : qLn t) (lg : wa.length = 75) : Ev ab_Z0 2 164 [.ref 65, .ref 86, .int (nI 0)] (ww im lf s d k ls rf rz ra rn rq lt m1 m2 m3 m4 bd fc hd sz el t g fm hm so si sh ce ca td wa kp la bf oo bo pw ow tr) (none, (ww im lf s d k ls rf rz ra rn rq lt m1 m2 m3 m4 bd fc hd sz el t g fm hm so si sh ce ca td (qFn t wa) kp la bf oo bo pw ow tr)) := by
  obtain ⟨a1, a2, a3, a4, a5, a6, a7, a8, a9⟩ := id l
  show Ev ab_Z0 2 164 [.ref 65, .ref 86, .int (nI 0)] (ww im lf s d k ls rf rz ra rn rq lt m1 m2 m3 m4 bd fc hd sz el t g fm hm so si sh ce ca td wa kp la bf oo bo pw ow tr) (none, (ww im lf s d k ls rf rz ra rn rq lt m1 m2 m3 m4 bd fc hd sz el t g fm hm so si sh ce ca td (((((((ab_cp ((qC t).map nI) (ab_cp (qG t) (ab_cp ((qW t).map nI) (ab_cp ((qL t).map nI) (ab_cp ((qU t).map nI) (ab_cp ((qP t).map nI) (ab_cp ((qB t).map nI) (ab_cp ((qA t).map nI) (ab_cp ((qK t).map nI) wa 0 0 9) 0 9 9) 0 18 9) 0 27 9) 0 36 6) 0 42 6) 0 48 6) 0 54 6) 0 60 8).set 68 (nI (qN t))).set 69 (nI (qM t))).set 70 (qR t)).set 71 (qY t)).set 72 (qD t)).set 73 (qS t)) kp la bf oo bo pw ow tr))
  have lz0 : (ab_cp ((qK t).map nI) wa 0 0 9).length = 75 := (ab_cpl (by rw [List.length_map]; omega) (by omega)).trans lg
  have lz9 : (ab_cp ((qA t).map nI) (ab_cp ((qK t).map nI) wa 0 0 9) 0 9 9).length = 75 := (ab_cpl (by rw [List.length_map]; omega) (by omega)).trans lz0
  have lz18 : (ab_cp ((qB t).map nI) (ab_cp ((qA t).map nI) (ab_cp ((qK t).map nI) wa 0 0 9) 0 9 9) 0 18 9).length = 75 := (ab_cpl (by rw [List.length_map]; omega) (by omega)).trans lz9
  have lz27 : (ab_cp ((qP t).map nI) (ab_cp ((qB t).map nI) (ab_cp ((qA t).map nI) (ab_cp ((qK t).map nI) wa 0 0 9) 0 9 9) 0 18 9) 0 27 9).length = 75 := (ab_cpl (by rw [List.length_map]; omega) (by omega)).trans lz18
  have lz36 : (ab_cp ((qU t).map nI) (ab_cp ((qP t).map nI) (ab_cp ((qB t).map nI) (ab_cp ((qA t).map nI) (ab_cp ((qK t).map nI) wa 0 0 9) 0 9 9) 0 18 9) 0 27 9) 0 36 6).length = 75 := (ab_cpl (by rw [List.length_map]; omega) (by omega)).trans lz27
  have lz42 : (ab_cp ((qL t).map nI) (ab_cp ((qU t).map nI) (ab_cp ((qP t).map nI) (ab_cp ((qB t).map nI) (ab_cp ((qA t).map nI) (ab_cp ((qK t).map nI) wa 0 0 9) 0 9 9) 0 18 9) 0 27 9) 0 36 6) 0 42 6).length = 75 := (ab_cpl (by rw [List.length_map]; omega) (by omega)).trans lz36
  have lz48 : (ab_cp ((qW t).map nI) (ab_cp ((qL t).map nI) (ab_cp ((qU t).map nI) (ab_cp ((qP t).map nI) (ab_cp ((qB t).map nI) (ab_cp ((qA t).map nI) (ab_cp ((qK t).map nI) wa 0 0 9) 0 9 9) 0 18 9) 0 27 9) 0 36 6) 0 42 6) 0 48 6).length = 75 := (ab_cpl (by rw [List.length_map]; omega) (by omega)).trans lz42
  have lz54 : (ab_cp (qG t) (ab_cp ((qW t).map nI) (ab_cp ((qL t).map nI) (ab_cp ((qU t).map nI) (ab_cp ((qP t).map nI) (ab_cp ((qB t).map nI) (ab_cp ((qA t).map nI) (ab_cp ((qK t).map nI) wa 0 0 9) 0 9 9) 0 18 9) 0 27 9) 0 36 6) 0 42 6) 0 48 6) 0 54 6).length = 75 := (ab_cpl (by omega) (by omega)).trans lz48
  have lz60 : (ab_cp ((qC t).map nI) (ab_cp (qG t) (ab_cp ((qW t).map nI) (ab_cp ((qL t).map nI) (ab_cp ((qU t).map nI) (ab_cp ((qP t).map nI) (ab_cp ((qB t).map nI) (ab_cp ((qA t).map nI) (ab_cp ((qK t).map nI) wa 0 0 9) 0 9 9) 0 18 9) 0 27 9) 0 36 6) 0 42 6) 0 48 6) 0 54 6) 0 60 8).length = 75 := (ab_cpl (by rw [List.length_map]; omega) (by omega)).trans lz54
  have : ((ab_cp ((qC t).map nI) (ab_cp (qG t) (ab_cp ((qW t).map nI) (ab_cp ((qL t).map nI) (ab_cp ((qU t).map nI) (ab_cp ((qP t).map nI) (ab_cp ((qB t).map nI) (ab_cp ((qA t).map nI) (ab_cp ((qK t).map nI) wa 0 0 9) 0 9 9) 0 18 9) 0 27 9) 0 36 6) 0 42 6) 0 48 6) 0 54 6) 0 60 8).set 68 (nI (qN t))).length = 75 := by simp only [List.length_set]; exact lz60
  have : (((ab_cp ((qC t).map nI) (ab_cp (qG t) (ab_cp ((qW t).map nI) (ab_cp ((qL t).map nI) (ab_cp ((qU t).map nI) (ab_cp ((qP t).map nI) (ab_cp ((qB t).map nI) (ab_cp ((qA t).map nI) (ab_cp ((qK t).map nI) wa 0 0 9) 0 9 9) 0 18 9) 0 27 9) 0 36 6) 0 42 6) 0 48 6) 0 54 6) 0 60 8).set 68 (nI (qN t))).set 69 (nI (qM t))).length = 75 := by simp only [List.length_set]; exact lz60
  have : ((((ab_cp ((qC t).map nI) (ab_cp (qG t) (ab_cp ((qW t).map nI) (ab_cp ((qL t).map nI) (ab_cp ((qU t).map nI) (ab_cp ((qP t).map nI) (ab_cp ((qB t).map nI) (ab_cp ((qA t).map nI) (ab_cp ((qK t).map nI) wa 0 0 9) 0 9 9) 0 18 9) 0 27 9) 0 36 6) 0 42 6) 0 48 6) 0 54 6) 0 60 8).set 68 (nI (qN t))).set 69 (nI (qM t))).set 70 (qR t)).length = 75 := by simp only [List.length_set]; exact lz60
  have : (((((ab_cp ((qC t).map nI) (ab_cp (qG t) (ab_cp ((qW t).map nI) (ab_cp ((qL t).map nI) (ab_cp ((qU t).map nI) (ab_cp ((qP t).map nI) (ab_cp ((qB t).map nI) (ab_cp ((qA t).map nI) (ab_cp ((qK t).map nI) wa 0 0 9) 0 9 9) 0 18 9) 0 27 9) 0 36 6) 0 42 6) 0 48 6) 0 54 6) 0 60 8).set 68 (nI (qN t))).set 69 (nI (qM t))).set 70 (qR t)).set 71 (qY t)).length = 75 := by simp only [List.length_set]; exact lz60
  have : ((((((ab_cp ((qC t).map nI) (ab_cp (qG t) (ab_cp ((qW t).map nI) (ab_cp ((qL t).map nI) (ab_cp ((qU t).map nI) (ab_cp ((qP t).map nI) (ab_cp ((qB t).map nI) (ab_cp ((qA t).map nI) (ab_cp ((qK t).map nI) wa 0 0 9) 0 9 9) 0 18 9) 0 27 9) 0 36 6) 0 42 6) 0 48 6) 0 54 6) 0 60 8).set 68 (nI (qN t))).set 69 (nI (qM t))).set 70 (qR t)).set 71 (qY t)).set 72 (qD t)).length = 75 := by simp only [List.length_set]; exact lz60
  refine Ef.in (md := mX6_all) (L := [some (.ref 65), some (.ref 86), some (.int (nI 0)), none]) rfl (Nat.le_of_ble_eq_true rfl) rfl ?_
  refine E_aload_n at_X6_all_0 rfl ?_
  refine E_aload_n at_X6_all_1 rfl ?_
  refine E_getfield (v := .ref 67) at_X6_all_2 w65 rfl (by decide) rfl ?_
  refine E_bipush (x := nI 9) at_X6_all_5 (by decide) ?_
  refine E_aload_n at_X6_all_7 rfl ?_
  refine E_iconst (x := nI 0) at_X6_all_8 (by decide) ?_
  refine E_iload_n at_X6_all_9 rfl ?_
  refine E_callV (v := some (.int (nI 9))) (As := [.ref 65, .ref 67, .int (nI 9), .ref 86, .int (nI 0), .int (nI 0)]) (r0 := []) (cs2 := (ww im lf s d k ls rf rz ra rn rq lt m1 m2 m3 m4 bd fc hd sz el t g fm hm so si sh ce ca td (ab_cp ((qK t).map nI) wa 0 0 9) kp la bf oo bo pw ow tr)) at_X6_all_10 rfl rfl (Nat.le_of_ble_eq_true rfl) rfl (ab_rvOf w65 rfl) (mo_carO (F := (qK t).map nI) (G := wa) w67 w86 (by rw [List.length_map]; omega) lg (by omega) (by decide)) (by decide) w_lens ?_
  refine E_istore_n (L2 := [some (.ref 65), some (.ref 86), some (.int (nI 0)), some (.int (nI 9))]) at_X6_all_13 rfl ?_
  refine E_aload_n at_X6_all_14 rfl ?_
  refine E_aload_n at_X6_all_15 rfl ?_
  refine E_getfield (v := .ref 68) at_X6_all_16 w65 rfl (by decide) rfl ?_
  refine E_bipush (x := nI 9) at_X6_all_19 (by decide) ?_
  refine E_aload_n at_X6_all_21 rfl ?_
  refine E_iload_n at_X6_all_22 rfl ?_
  refine E_iload_n at_X6_all_23 rfl ?_
  refine E_callV (v := some (.int (nI 18))) (As := [.ref 65, .ref 68, .int (nI 9), .ref 86, .int (nI 9), .int (nI 0)]) (r0 := []) (cs2 := (ww im lf s d k ls rf rz ra rn rq lt m1 m2 m3 m4 bd fc hd sz el t g fm hm so si sh ce ca td (ab_cp ((qA t).map nI) (ab_cp ((qK t).map nI) wa 0 0 9) 0 9 9) kp la bf oo bo pw ow tr)) at_X6_all_24 rfl rfl (Nat.le_of_ble_eq_true rfl) rfl (ab_rvOf w65 rfl) (mo_carO (F := (qA t).map nI) (G := (ab_cp ((qK t).map nI) wa 0 0 9)) w68 w86 (by rw [List.length_map]; omega) lz0 (by omega) (by decide)) (by decide) w_lens ?_
  refine E_istore_n (L2 := [some (.ref 65), some (.ref 86), some (.int (nI 0)), some (.int (nI 18))]) at_X6_all_27 rfl ?_
  refine E_aload_n at_X6_all_28 rfl ?_
  refine E_aload_n at_X6_all_29 rfl ?_
  refine E_getfield (v := .ref 69) at_X6_all_30 w65 rfl (by decide) rfl ?_
  refine E_bipush (x := nI 9) at_X6_all_33 (by decide) ?_
  refine E_aload_n at_X6_all_35 rfl ?_
  refine E_iload_n at_X6_all_36 rfl ?_
  refine E_iload_n at_X6_all_37 rfl ?_
  refine E_callV (v := some (.int (nI 27))) (As := [.ref 65, .ref 69, .int (nI 9), .ref 86, .int (nI 18), .int (nI 0)]) (r0 := []) (cs2 := (ww im lf s d k ls rf rz ra rn rq lt m1 m2 m3 m4 bd fc hd sz el t g fm hm so si sh ce ca td (ab_cp ((qB t).map nI) (ab_cp ((qA t).map nI) (ab_cp ((qK t).map nI) wa 0 0 9) 0 9 9) 0 18 9) kp la bf oo bo pw ow tr)) at_X6_all_38 rfl rfl (Nat.le_of_ble_eq_true rfl) rfl (ab_rvOf w65 rfl) (mo_carO (F := (qB t).map nI) (G := (ab_cp ((qA t).map nI) (ab_cp ((qK t).map nI) wa 0 0 9) 0 9 9)) w69 w86 (by rw [List.length_map]; omega) lz9 (by omega) (by decide)) (by decide) w_lens ?_
  refine E_istore_n (L2 := [some (.ref 65), some (.ref 86), some (.int (nI 0)), some (.int (nI 27))]) at_X6_all_41 rfl ?_
  refine E_aload_n at_X6_all_42 rfl ?_
  refine E_aload_n at_X6_all_43 rfl ?_
  refine E_getfield (v := .ref 70) at_X6_all_44 w65 rfl (by decide) rfl ?_
  refine E_bipush (x := nI 9) at_X6_all_47 (by decide) ?_
  refine E_aload_n at_X6_all_49 rfl ?_
  refine E_iload_n at_X6_all_50 rfl ?_
  refine E_iload_n at_X6_all_51 rfl ?_
  refine E_callV (v := some (.int (nI 36))) (As := [.ref 65, .ref 70, .int (nI 9), .ref 86, .int (nI 27), .int (nI 0)]) (r0 := []) (cs2 := (ww im lf s d k ls rf rz ra rn rq lt m1 m2 m3 m4 bd fc hd sz el t g fm hm so si sh ce ca td (ab_cp ((qP t).map nI) (ab_cp ((qB t).map nI) (ab_cp ((qA t).map nI) (ab_cp ((qK t).map nI) wa 0 0 9) 0 9 9) 0 18 9) 0 27 9) kp la bf oo bo pw ow tr)) at_X6_all_52 rfl rfl (Nat.le_of_ble_eq_true rfl) rfl (ab_rvOf w65 rfl) (mo_carO (F := (qP t).map nI) (G := (ab_cp ((qB t).map nI) (ab_cp ((qA t).map nI) (ab_cp ((qK t).map nI) wa 0 0 9) 0 9 9) 0 18 9)) w70 w86 (by rw [List.length_map]; omega) lz18 (by omega) (by decide)) (by decide) w_lens ?_
  refine E_istore_n (L2 := [some (.ref 65), some (.ref 86), some (.int (nI 0)), some (.int (nI 36))]) at_X6_all_55 rfl ?_
  refine E_aload_n at_X6_all_56 rfl ?_
  refine E_aload_n at_X6_all_57 rfl ?_
  refine E_getfield (v := .ref 71) at_X6_all_58 w65 rfl (by decide) rfl ?_
  refine E_bipush (x := nI 6) at_X6_all_61 (by decide) ?_
  refine E_aload_n at_X6_all_63 rfl ?_
  refine E_iload_n at_X6_all_64 rfl ?_
  refine E_iload_n at_X6_all_65 rfl ?_
  refine E_callV (v := some (.int (nI 42))) (As := [.ref 65, .ref 71, .int (nI 6), .ref 86, .int (nI 36), .int (nI 0)]) (r0 := []) (cs2 := (ww im lf s d k ls rf rz ra rn rq lt m1 m2 m3 m4 bd fc hd sz el t g fm hm so si sh ce ca td (ab_cp ((qU t).map nI) (ab_cp ((qP t).map nI) (ab_cp ((qB t).map nI) (ab_cp ((qA t).map nI) (ab_cp ((qK t).map nI) wa 0 0 9) 0 9 9) 0 18 9) 0 27 9) 0 36 6) kp la bf oo bo pw ow tr)) at_X6_all_66 rfl rfl (Nat.le_of_ble_eq_true rfl) rfl (ab_rvOf w65 rfl) (mo_carO (F := (qU t).map nI) (G := (ab_cp ((qP t).map nI) (ab_cp ((qB t).map nI) (ab_cp ((qA t).map nI) (ab_cp ((qK t).map nI) wa 0 0 9) 0 9 9) 0 18 9) 0 27 9)) w71 w86 (by rw [List.length_map]; omega) lz27 (by omega) (by decide)) (by decide) w_lens ?_
  refine E_istore_n (L2 := [some (.ref 65), some (.ref 86), some (.int (nI 0)), some (.int (nI 42))]) at_X6_all_69 rfl ?_
  refine E_aload_n at_X6_all_70 rfl ?_
  refine E_aload_n at_X6_all_71 rfl ?_
  refine E_getfield (v := .ref 72) at_X6_all_72 w65 rfl (by decide) rfl ?_
  refine E_bipush (x := nI 6) at_X6_all_75 (by decide) ?_
  refine E_aload_n at_X6_all_77 rfl ?_
  refine E_iload_n at_X6_all_78 rfl ?_
  refine E_iload_n at_X6_all_79 rfl ?_
  refine E_callV (v := some (.int (nI 48))) (As := [.ref 65, .ref 72, .int (nI 6), .ref 86, .int (nI 42), .int (nI 0)]) (r0 := []) (cs2 := (ww im lf s d k ls rf rz ra rn rq lt m1 m2 m3 m4 bd fc hd sz el t g fm hm so si sh ce ca td (ab_cp ((qL t).map nI) (ab_cp ((qU t).map nI) (ab_cp ((qP t).map nI) (ab_cp ((qB t).map nI) (ab_cp ((qA t).map nI) (ab_cp ((qK t).map nI) wa 0 0 9) 0 9 9) 0 18 9) 0 27 9) 0 36 6) 0 42 6) kp la bf oo bo pw ow tr)) at_X6_all_80 rfl rfl (Nat.le_of_ble_eq_true rfl) rfl (ab_rvOf w65 rfl) (mo_carO (F := (qL t).map nI) (G := (ab_cp ((qU t).map nI) (ab_cp ((qP t).map nI) (ab_cp ((qB t).map nI) (ab_cp ((qA t).map nI) (ab_cp ((qK t).map nI) wa 0 0 9) 0 9 9) 0 18 9) 0 27 9) 0 36 6)) w72 w86 (by rw [List.length_map]; omega) lz36 (by omega) (by decide)) (by decide) w_lens ?_
  refine E_istore_n (L2 := [some (.ref 65), some (.ref 86), some (.int (nI 0)), some (.int (nI 48))]) at_X6_all_83 rfl ?_
  refine E_aload_n at_X6_all_84 rfl ?_
  refine E_aload_n at_X6_all_85 rfl ?_
  refine E_getfield (v := .ref 73) at_X6_all_86 w65 rfl (by decide) rfl ?_
  refine E_bipush (x := nI 6) at_X6_all_89 (by decide) ?_
  refine E_aload_n at_X6_all_91 rfl ?_
  refine E_iload_n at_X6_all_92 rfl ?_
  refine E_iload_n at_X6_all_93 rfl ?_
  refine E_callV (v := some (.int (nI 54))) (As := [.ref 65, .ref 73, .int (nI 6), .ref 86, .int (nI 48), .int (nI 0)]) (r0 := []) (cs2 := (ww im lf s d k ls rf rz ra rn rq lt m1 m2 m3 m4 bd fc hd sz el t g fm hm so si sh ce ca td (ab_cp ((qW t).map nI) (ab_cp ((qL t).map nI) (ab_cp ((qU t).map nI) (ab_cp ((qP t).map nI) (ab_cp ((qB t).map nI) (ab_cp ((qA t).map nI) (ab_cp ((qK t).map nI) wa 0 0 9) 0 9 9) 0 18 9) 0 27 9) 0 36 6) 0 42 6) 0 48 6) kp la bf oo bo pw ow tr)) at_X6_all_94 rfl rfl (Nat.le_of_ble_eq_true rfl) rfl (ab_rvOf w65 rfl) (mo_carO (F := (qW t).map nI) (G := (ab_cp ((qL t).map nI) (ab_cp ((qU t).map nI) (ab_cp ((qP t).map nI) (ab_cp ((qB t).map nI) (ab_cp ((qA t).map nI) (ab_cp ((qK t).map nI) wa 0 0 9) 0 9 9) 0 18 9) 0 27 9) 0 36 6) 0 42 6)) w73 w86 (by rw [List.length_map]; omega) lz42 (by omega) (by decide)) (by decide) w_lens ?_
  refine E_istore_n (L2 := [some (.ref 65), some (.ref 86), some (.int (nI 0)), some (.int (nI 54))]) at_X6_all_97 rfl ?_
  refine E_aload_n at_X6_all_98 rfl ?_
  refine E_aload_n at_X6_all_99 rfl ?_
  refine E_getfield (v := .ref 74) at_X6_all_100 w65 rfl (by decide) rfl ?_
  refine E_bipush (x := nI 6) at_X6_all_103 (by decide) ?_
  refine E_aload_n at_X6_all_105 rfl ?_
  refine E_iload_n at_X6_all_106 rfl ?_
  refine E_iload_n at_X6_all_107 rfl ?_
  refine E_callV (v := some (.int (nI 60))) (As := [.ref 65, .ref 74, .int (nI 6), .ref 86, .int (nI 54), .int (nI 0)]) (r0 := []) (cs2 := (ww im lf s d k ls rf rz ra rn rq lt m1 m2 m3 m4 bd fc hd sz el t g fm hm so si sh ce ca td (ab_cp (qG t) (ab_cp ((qW t).map nI) (ab_cp ((qL t).map nI) (ab_cp ((qU t).map nI) (ab_cp ((qP t).map nI) (ab_cp ((qB t).map nI) (ab_cp ((qA t).map nI) (ab_cp ((qK t).map nI) wa 0 0 9) 0 9 9) 0 18 9) 0 27 9) 0 36 6) 0 42 6) 0 48 6) 0 54 6) kp la bf oo bo pw ow tr)) at_X6_all_108 rfl rfl (Nat.le_of_ble_eq_true rfl) rfl (ab_rvOf w65 rfl) (mo_carO (F := qG t) (G := (ab_cp ((qW t).map nI) (ab_cp ((qL t).map nI) (ab_cp ((qU t).map nI) (ab_cp ((qP t).map nI) (ab_cp ((qB t).map nI) (ab_cp ((qA t).map nI) (ab_cp ((qK t).map nI) wa 0 0 9) 0 9 9) 0 18 9) 0 27 9) 0 36 6) 0 42 6) 0 48 6)) w74 w86 (by omega) lz48 (by omega) (by decide)) (by decide) w_lens ?_
  refine E_istore_n (L2 := [some (.ref 65), some (.ref 86), some (.int (nI 0)), some (.int (nI 60))]) at_X6_all_111 rfl ?_
  refine E_aload_n at_X6_all_112 rfl ?_
  refine E_aload_n at_X6_all_113 rfl ?_
  refine E_getfield (v := .ref 75) at_X6_all_114 w65 rfl (by decide) rfl ?_
  refine E_bipush (x := nI 8) at_X6_all_117 (by decide) ?_
  refine E_aload_n at_X6_all_119 rfl ?_
  refine E_iload_n at_X6_all_120 rfl ?_
  refine E_iload_n at_X6_all_121 rfl ?_
  refine E_callV (v := some (.int (nI 68))) (As := [.ref 65, .ref 75, .int (nI 8), .ref 86, .int (nI 60), .int (nI 0)]) (r0 := []) (cs2 := (ww im lf s d k ls rf rz ra rn rq lt m1 m2 m3 m4 bd fc hd sz el t g fm hm so si sh ce ca td (ab_cp ((qC t).map nI) (ab_cp (qG t) (ab_cp ((qW t).map nI) (ab_cp ((qL t).map nI) (ab_cp ((qU t).map nI) (ab_cp ((qP t).map nI) (ab_cp ((qB t).map nI) (ab_cp ((qA t).map nI) (ab_cp ((qK t).map nI) wa 0 0 9) 0 9 9) 0 18 9) 0 27 9) 0 36 6) 0 42 6) 0 48 6) 0 54 6) 0 60 8) kp la bf oo bo pw ow tr)) at_X6_all_122 rfl rfl (Nat.le_of_ble_eq_true rfl) rfl (ab_rvOf w65 rfl) (mo_carO (F := (qC t).map nI) (G := (ab_cp (qG t) (ab_cp ((qW t).map nI) (ab_cp ((qL t).map nI) (ab_cp ((qU t).map nI) (ab_cp ((qP t).map nI) (ab_cp ((qB t).map nI) (ab_cp ((qA t).map nI) (ab_cp ((qK t).map nI) wa 0 0 9) 0 9 9) 0 18 9) 0 27 9) 0 36 6) 0 42 6) 0 48 6) 0 54 6)) w75 w86 (by rw [List.length_map]; omega) lz54 (by omega) (by decide)) (by decide) w_lens ?_
  refine E_istore_n (L2 := [some (.ref 65), some (.ref 86), some (.int (nI 0)), some (.int (nI 68))]) at_X6_all_125 rfl ?_
  refine E_iload_n at_X6_all_126 rfl ?_
  refine E_if (t := 185) (b := true) at_X6_all_127 rfl (by decide) ?_
  refine E_aload_n rfl rfl ?_
  refine E_iload_n rfl rfl ?_
  refine E_aload_n rfl rfl ?_
  refine E_getfield (v := .int (nI (qN t))) rfl w65 rfl (by decide) rfl ?_
  refine E_iasI (l := (ab_cp ((qC t).map nI) (ab_cp (qG t) (ab_cp ((qW t).map nI) (ab_cp ((qL t).map nI) (ab_cp ((qU t).map nI) (ab_cp ((qP t).map nI) (ab_cp ((qB t).map nI) (ab_cp ((qA t).map nI) (ab_cp ((qK t).map nI) wa 0 0 9) 0 9 9) 0 18 9) 0 27 9) 0 36 6) 0 42 6) 0 48 6) 0 54 6) 0 60 8)) (cs2 := (ww im lf s d k ls rf rz ra rn rq lt m1 m2 m3 m4 bd fc hd sz el t g fm hm so si sh ce ca td ((ab_cp ((qC t).map nI) (ab_cp (qG t) (ab_cp ((qW t).map nI) (ab_cp ((qL t).map nI) (ab_cp ((qU t).map nI) (ab_cp ((qP t).map nI) (ab_cp ((qB t).map nI) (ab_cp ((qA t).map nI) (ab_cp ((qK t).map nI) wa 0 0 9) 0 9 9) 0 18 9) 0 27 9) 0 36 6) 0 42 6) 0 48 6) 0 54 6) 0 60 8).set 68 (nI (qN t))) kp la bf oo bo pw ow tr)) rfl w86 (by omega) (by omega) rfl ?_
  refine E_aload_n rfl rfl ?_
  refine E_iload_n rfl rfl ?_
  refine E_iconst (x := nI 1) rfl (by decide) ?_
  refine E_iadd (z := nI 69) rfl (by decide) ?_
  refine E_aload_n rfl rfl ?_
  refine E_getfield (v := .int (nI (qM t))) rfl w65 rfl (by decide) rfl ?_
  refine E_iasI (l := (ab_cp ((qC t).map nI) (ab_cp (qG t) (ab_cp ((qW t).map nI) (ab_cp ((qL t).map nI) (ab_cp ((qU t).map nI) (ab_cp ((qP t).map nI) (ab_cp ((qB t).map nI) (ab_cp ((qA t).map nI) (ab_cp ((qK t).map nI) wa 0 0 9) 0 9 9) 0 18 9) 0 27 9) 0 36 6) 0 42 6) 0 48 6) 0 54 6) 0 60 8).set 68 (nI (qN t))) (cs2 := (ww im lf s d k ls rf rz ra rn rq lt m1 m2 m3 m4 bd fc hd sz el t g fm hm so si sh ce ca td (((ab_cp ((qC t).map nI) (ab_cp (qG t) (ab_cp ((qW t).map nI) (ab_cp ((qL t).map nI) (ab_cp ((qU t).map nI) (ab_cp ((qP t).map nI) (ab_cp ((qB t).map nI) (ab_cp ((qA t).map nI) (ab_cp ((qK t).map nI) wa 0 0 9) 0 9 9) 0 18 9) 0 27 9) 0 36 6) 0 42 6) 0 48 6) 0 54 6) 0 60 8).set 68 (nI (qN t))).set 69 (nI (qM t))) kp la bf oo bo pw ow tr)) rfl w86 (by omega) (by omega) rfl ?_
  refine E_aload_n rfl rfl ?_
  refine E_iload_n rfl rfl ?_
  refine E_iconst (x := nI 2) rfl (by decide) ?_
  refine E_iadd (z := nI 70) rfl (by decide) ?_
  refine E_aload_n rfl rfl ?_
  refine E_getfield (v := .int (qR t)) rfl w65 rfl (by decide) rfl ?_
  refine E_iasI (l := ((ab_cp ((qC t).map nI) (ab_cp (qG t) (ab_cp ((qW t).map nI) (ab_cp ((qL t).map nI) (ab_cp ((qU t).map nI) (ab_cp ((qP t).map nI) (ab_cp ((qB t).map nI) (ab_cp ((qA t).map nI) (ab_cp ((qK t).map nI) wa 0 0 9) 0 9 9) 0 18 9) 0 27 9) 0 36 6) 0 42 6) 0 48 6) 0 54 6) 0 60 8).set 68 (nI (qN t))).set 69 (nI (qM t))) (cs2 := (ww im lf s d k ls rf rz ra rn rq lt m1 m2 m3 m4 bd fc hd sz el t g fm hm so si sh ce ca td ((((ab_cp ((qC t).map nI) (ab_cp (qG t) (ab_cp ((qW t).map nI) (ab_cp ((qL t).map nI) (ab_cp ((qU t).map nI) (ab_cp ((qP t).map nI) (ab_cp ((qB t).map nI) (ab_cp ((qA t).map nI) (ab_cp ((qK t).map nI) wa 0 0 9) 0 9 9) 0 18 9) 0 27 9) 0 36 6) 0 42 6) 0 48 6) 0 54 6) 0 60 8).set 68 (nI (qN t))).set 69 (nI (qM t))).set 70 (qR t)) kp la bf oo bo pw ow tr)) rfl w86 (by omega) (by omega) rfl ?_
  refine E_aload_n rfl rfl ?_
  refine E_iload_n rfl rfl ?_
  refine E_iconst (x := nI 3) rfl (by decide) ?_
  refine E_iadd (z := nI 71) rfl (by decide) ?_
  refine E_aload_n rfl rfl ?_
  refine E_getfield (v := .int (qY t)) rfl w65 rfl (by decide) rfl ?_
  refine E_iasI (l := (((ab_cp ((qC t).map nI) (ab_cp (qG t) (ab_cp ((qW t).map nI) (ab_cp ((qL t).map nI) (ab_cp ((qU t).map nI) (ab_cp ((qP t).map nI) (ab_cp ((qB t).map nI) (ab_cp ((qA t).map nI) (ab_cp ((qK t).map nI) wa 0 0 9) 0 9 9) 0 18 9) 0 27 9) 0 36 6) 0 42 6) 0 48 6) 0 54 6) 0 60 8).set 68 (nI (qN t))).set 69 (nI (qM t))).set 70 (qR t)) (cs2 := (ww im lf s d k ls rf rz ra rn rq lt m1 m2 m3 m4 bd fc hd sz el t g fm hm so si sh ce ca td (((((ab_cp ((qC t).map nI) (ab_cp (qG t) (ab_cp ((qW t).map nI) (ab_cp ((qL t).map nI) (ab_cp ((qU t).map nI) (ab_cp ((qP t).map nI) (ab_cp ((qB t).map nI) (ab_cp ((qA t).map nI) (ab_cp ((qK t).map nI) wa 0 0 9) 0 9 9) 0 18 9) 0 27 9) 0 36 6) 0 42 6) 0 48 6) 0 54 6) 0 60 8).set 68 (nI (qN t))).set 69 (nI (qM t))).set 70 (qR t)).set 71 (qY t)) kp la bf oo bo pw ow tr)) rfl w86 (by omega) (by omega) rfl ?_
  refine E_aload_n rfl rfl ?_
  refine E_iload_n rfl rfl ?_
  refine E_iconst (x := nI 4) rfl (by decide) ?_
  refine E_iadd (z := nI 72) rfl (by decide) ?_
  refine E_aload_n rfl rfl ?_
  refine E_getfield (v := .int (qD t)) rfl w65 rfl (by decide) rfl ?_
  refine E_iasI (l := ((((ab_cp ((qC t).map nI) (ab_cp (qG t) (ab_cp ((qW t).map nI) (ab_cp ((qL t).map nI) (ab_cp ((qU t).map nI) (ab_cp ((qP t).map nI) (ab_cp ((qB t).map nI) (ab_cp ((qA t).map nI) (ab_cp ((qK t).map nI) wa 0 0 9) 0 9 9) 0 18 9) 0 27 9) 0 36 6) 0 42 6) 0 48 6) 0 54 6) 0 60 8).set 68 (nI (qN t))).set 69 (nI (qM t))).set 70 (qR t)).set 71 (qY t)) (cs2 := (ww im lf s d k ls rf rz ra rn rq lt m1 m2 m3 m4 bd fc hd sz el t g fm hm so si sh ce ca td ((((((ab_cp ((qC t).map nI) (ab_cp (qG t) (ab_cp ((qW t).map nI) (ab_cp ((qL t).map nI) (ab_cp ((qU t).map nI) (ab_cp ((qP t).map nI) (ab_cp ((qB t).map nI) (ab_cp ((qA t).map nI) (ab_cp ((qK t).map nI) wa 0 0 9) 0 9 9) 0 18 9) 0 27 9) 0 36 6) 0 42 6) 0 48 6) 0 54 6) 0 60 8).set 68 (nI (qN t))).set 69 (nI (qM t))).set 70 (qR t)).set 71 (qY t)).set 72 (qD t)) kp la bf oo bo pw ow tr)) rfl w86 (by omega) (by omega) rfl ?_
  refine E_aload_n rfl rfl ?_
  refine E_iload_n rfl rfl ?_
  refine E_iconst (x := nI 5) rfl (by decide) ?_
  refine E_iadd (z := nI 73) rfl (by decide) ?_
  refine E_aload_n rfl rfl ?_
  refine E_getfield (v := .int (qS t)) rfl w65 rfl (by decide) rfl ?_
  refine E_iasI (l := (((((ab_cp ((qC t).map nI) (ab_cp (qG t) (ab_cp ((qW t).map nI) (ab_cp ((qL t).map nI) (ab_cp ((qU t).map nI) (ab_cp ((qP t).map nI) (ab_cp ((qB t).map nI) (ab_cp ((qA t).map nI) (ab_cp ((qK t).map nI) wa 0 0 9) 0 9 9) 0 18 9) 0 27 9) 0 36 6) 0 42 6) 0 48 6) 0 54 6) 0 60 8).set 68 (nI (qN t))).set 69 (nI (qM t))).set 70 (qR t)).set 71 (qY t)).set 72 (qD t)) (cs2 := (ww im lf s d k ls rf rz ra rn rq lt m1 m2 m3 m4 bd fc hd sz el t g fm hm so si sh ce ca td (((((((ab_cp ((qC t).map nI) (ab_cp (qG t) (ab_cp ((qW t).map nI) (ab_cp ((qL t).map nI) (ab_cp ((qU t).map nI) (ab_cp ((qP t).map nI) (ab_cp ((qB t).map nI) (ab_cp ((qA t).map nI) (ab_cp ((qK t).map nI) wa 0 0 9) 0 9 9) 0 18 9) 0 27 9) 0 36 6) 0 42 6) 0 48 6) 0 54 6) 0 60 8).set 68 (nI (qN t))).set 69 (nI (qM t))).set 70 (qR t)).set 71 (qY t)).set 72 (qD t)).set 73 (qS t)) kp la bf oo bo pw ow tr)) rfl w86 (by omega) (by omega) rfl ?_
  exact E_vret at_X6_all_237 rfl
set_option maxHeartbeats 400000 in
theorem m_allB_86 {u : ab_q} {e : List Int32} (l : qLn t) (lu : qLn u) (lg : e.length = 75) (hq : wa = qFn u e) : Ev ab_Z0 2 164 [.ref 65, .ref 86, .int (nI 1)] (ww im lf s d k ls rf rz ra rn rq lt m1 m2 m3 m4 bd fc hd sz el t g fm hm so si sh ce ca td wa kp la bf oo bo pw ow tr) (none, (ww im lf s d k ls rf rz ra rn rq lt m1 m2 m3 m4 bd fc hd sz el u g fm hm so si sh ce ca td wa kp la bf oo bo pw ow tr)) := by
  obtain ⟨a1, a2, a3, a4, a5, a6, a7, a8, a9⟩ := id l
  have cK : ∀ f : List Int32, f.length = 9 → ab_cp (qFn u e) f 0 0 9 = (qK u).map nI := fun f hf => qFn_K lu lg hf
  have cA : ∀ f : List Int32, f.length = 9 → ab_cp (qFn u e) f 9 0 9 = (qA u).map nI := fun f hf => qFn_A lu lg hf
  have cB : ∀ f : List Int32, f.length = 9 → ab_cp (qFn u e) f 18 0 9 = (qB u).map nI := fun f hf => qFn_B lu lg hf
  have cP : ∀ f : List Int32, f.length = 9 → ab_cp (qFn u e) f 27 0 9 = (qP u).map nI := fun f hf => qFn_P lu lg hf
  have cU : ∀ f : List Int32, f.length = 6 → ab_cp (qFn u e) f 36 0 6 = (qU u).map nI := fun f hf => qFn_U lu lg hf
  have cL : ∀ f : List Int32, f.length = 6 → ab_cp (qFn u e) f 42 0 6 = (qL u).map nI := fun f hf => qFn_L lu lg hf
  have cW : ∀ f : List Int32, f.length = 6 → ab_cp (qFn u e) f 48 0 6 = (qW u).map nI := fun f hf => qFn_W lu lg hf
  have cG : ∀ f : List Int32, f.length = 6 → ab_cp (qFn u e) f 54 0 6 = qG u := fun f hf => qFn_G lu lg hf
  have cC : ∀ f : List Int32, f.length = 8 → ab_cp (qFn u e) f 60 0 8 = (qC u).map nI := fun f hf => qFn_C lu lg hf
  have g68 : (qFn u e).getD 68 0 = nI (qN u) := qFn_68 lu lg
  have g69 : (qFn u e).getD 69 0 = nI (qM u) := qFn_69 lu lg
  have g70 : (qFn u e).getD 70 0 = qR u := qFn_70 lu lg
  have g71 : (qFn u e).getD 71 0 = qY u := qFn_71 lu lg
  have g72 : (qFn u e).getD 72 0 = qD u := qFn_72 lu lg
  have g73 : (qFn u e).getD 73 0 = qS u := qFn_73 lu lg
  have lz : (qFn u e).length = 75 := qFn_len lu lg
  rw [← hq] at lz g68 g69 g70 g71 g72 g73
  rw [← hq] at cK
  rw [← hq] at cA
  rw [← hq] at cB
  rw [← hq] at cP
  rw [← hq] at cU
  rw [← hq] at cL
  rw [← hq] at cW
  rw [← hq] at cG
  rw [← hq] at cC
  clear hq
  have X : Ev ab_Z0 2 164 [.ref 65, .ref 86, .int (nI 1)] (ww im lf s d k ls rf rz ra rn rq lt m1 m2 m3 m4 bd fc hd sz el t g fm hm so si sh ce ca td wa kp la bf oo bo pw ow tr) (none, (ww im lf s d k ls rf rz ra rn rq lt m1 m2 m3 m4 bd fc hd sz el (qs_S (qs_D (qs_Y (qs_R (qs_M (qs_N (qs_C (qs_G (qs_W (qs_L (qs_U (qs_P (qs_B (qs_A (qs_K t (qK u)) (qA u)) (qB u)) (qP u)) (qU u)) (qL u)) (qW u)) (qG u)) (qC u)) (qN u)) (qM u)) (qR u)) (qY u)) (qD u)) (qS u)) g fm hm so si sh ce ca td wa kp la bf oo bo pw ow tr)) := by
    refine Ef.in (md := mX6_all) (L := [some (.ref 65), some (.ref 86), some (.int (nI 1)), none]) rfl (Nat.le_of_ble_eq_true rfl) rfl ?_
    refine E_aload_n at_X6_all_0 rfl ?_
    refine E_aload_n at_X6_all_1 rfl ?_
    refine E_getfield (v := .ref 67) at_X6_all_2 w65 rfl (by decide) rfl ?_
    refine E_bipush (x := nI 9) at_X6_all_5 (by decide) ?_
    refine E_aload_n at_X6_all_7 rfl ?_
    refine E_iconst (x := nI 0) at_X6_all_8 (by decide) ?_
    refine E_iload_n at_X6_all_9 rfl ?_
    refine E_callV (v := some (.int (nI 9))) (As := [.ref 65, .ref 67, .int (nI 9), .ref 86, .int (nI 0), .int (nI 1)]) (r0 := []) (cs2 := (ww im lf s d k ls rf rz ra rn rq lt m1 m2 m3 m4 bd fc hd sz el (qs_K t (qK u)) g fm hm so si sh ce ca td wa kp la bf oo bo pw ow tr)) at_X6_all_10 rfl rfl (Nat.le_of_ble_eq_true rfl) rfl (ab_rvOf w65 rfl) ((mo_carBX (X := (qK u).map nI) (n := 9) (f := 0) (G := wa) w67 w86 (by rw [List.length_map]; exact a1) lz (by omega) (by decide) (cK _ (by rw [List.length_map]; exact a1))).to w_pt65_K) (by decide) w_lens ?_
    refine E_istore_n (L2 := [some (.ref 65), some (.ref 86), some (.int (nI 1)), some (.int (nI 9))]) at_X6_all_13 rfl ?_
    refine E_aload_n at_X6_all_14 rfl ?_
    refine E_aload_n at_X6_all_15 rfl ?_
    refine E_getfield (v := .ref 68) at_X6_all_16 w65 rfl (by decide) rfl ?_
    refine E_bipush (x := nI 9) at_X6_all_19 (by decide) ?_
    refine E_aload_n at_X6_all_21 rfl ?_
    refine E_iload_n at_X6_all_22 rfl ?_
    refine E_iload_n at_X6_all_23 rfl ?_
    refine E_callV (v := some (.int (nI 18))) (As := [.ref 65, .ref 68, .int (nI 9), .ref 86, .int (nI 9), .int (nI 1)]) (r0 := []) (cs2 := (ww im lf s d k ls rf rz ra rn rq lt m1 m2 m3 m4 bd fc hd sz el (qs_A (qs_K t (qK u)) (qA u)) g fm hm so si sh ce ca td wa kp la bf oo bo pw ow tr)) at_X6_all_24 rfl rfl (Nat.le_of_ble_eq_true rfl) rfl (ab_rvOf w65 rfl) ((mo_carBX (X := (qA u).map nI) (n := 9) (f := 9) (G := wa) (w68v qg_AK) w86 (by rw [List.length_map]; exact a2) lz (by omega) (by decide) (cA _ (by rw [List.length_map]; exact a2))).to w_pt65_A) (by decide) w_lens ?_
    refine E_istore_n (L2 := [some (.ref 65), some (.ref 86), some (.int (nI 1)), some (.int (nI 18))]) at_X6_all_27 rfl ?_
    refine E_aload_n at_X6_all_28 rfl ?_
    refine E_aload_n at_X6_all_29 rfl ?_
    refine E_getfield (v := .ref 69) at_X6_all_30 w65 rfl (by decide) rfl ?_
    refine E_bipush (x := nI 9) at_X6_all_33 (by decide) ?_
    refine E_aload_n at_X6_all_35 rfl ?_
    refine E_iload_n at_X6_all_36 rfl ?_
    refine E_iload_n at_X6_all_37 rfl ?_
    refine E_callV (v := some (.int (nI 27))) (As := [.ref 65, .ref 69, .int (nI 9), .ref 86, .int (nI 18), .int (nI 1)]) (r0 := []) (cs2 := (ww im lf s d k ls rf rz ra rn rq lt m1 m2 m3 m4 bd fc hd sz el (qs_B (qs_A (qs_K t (qK u)) (qA u)) (qB u)) g fm hm so si sh ce ca td wa kp la bf oo bo pw ow tr)) at_X6_all_38 rfl rfl (Nat.le_of_ble_eq_true rfl) rfl (ab_rvOf w65 rfl) ((mo_carBX (X := (qB u).map nI) (n := 9) (f := 18) (G := wa) (w69v (qg_BA.trans qg_BK)) w86 (by rw [List.length_map]; exact a3) lz (by omega) (by decide) (cB _ (by rw [List.length_map]; exact a3))).to w_pt65_B) (by decide) w_lens ?_
    refine E_istore_n (L2 := [some (.ref 65), some (.ref 86), some (.int (nI 1)), some (.int (nI 27))]) at_X6_all_41 rfl ?_
    refine E_aload_n at_X6_all_42 rfl ?_
    refine E_aload_n at_X6_all_43 rfl ?_
    refine E_getfield (v := .ref 70) at_X6_all_44 w65 rfl (by decide) rfl ?_
    refine E_bipush (x := nI 9) at_X6_all_47 (by decide) ?_
    refine E_aload_n at_X6_all_49 rfl ?_
    refine E_iload_n at_X6_all_50 rfl ?_
    refine E_iload_n at_X6_all_51 rfl ?_
    refine E_callV (v := some (.int (nI 36))) (As := [.ref 65, .ref 70, .int (nI 9), .ref 86, .int (nI 27), .int (nI 1)]) (r0 := []) (cs2 := (ww im lf s d k ls rf rz ra rn rq lt m1 m2 m3 m4 bd fc hd sz el (qs_P (qs_B (qs_A (qs_K t (qK u)) (qA u)) (qB u)) (qP u)) g fm hm so si sh ce ca td wa kp la bf oo bo pw ow tr)) at_X6_all_52 rfl rfl (Nat.le_of_ble_eq_true rfl) rfl (ab_rvOf w65 rfl) ((mo_carBX (X := (qP u).map nI) (n := 9) (f := 27) (G := wa) (w70v (qg_PB.trans (qg_PA.trans qg_PK))) w86 (by rw [List.length_map]; exact a4) lz (by omega) (by decide) (cP _ (by rw [List.length_map]; exact a4))).to w_pt65_P) (by decide) w_lens ?_
    refine E_istore_n (L2 := [some (.ref 65), some (.ref 86), some (.int (nI 1)), some (.int (nI 36))]) at_X6_all_55 rfl ?_
    refine E_aload_n at_X6_all_56 rfl ?_
    refine E_aload_n at_X6_all_57 rfl ?_
    refine E_getfield (v := .ref 71) at_X6_all_58 w65 rfl (by decide) rfl ?_
    refine E_bipush (x := nI 6) at_X6_all_61 (by decide) ?_
    refine E_aload_n at_X6_all_63 rfl ?_
    refine E_iload_n at_X6_all_64 rfl ?_
    refine E_iload_n at_X6_all_65 rfl ?_
    refine E_callV (v := some (.int (nI 42))) (As := [.ref 65, .ref 71, .int (nI 6), .ref 86, .int (nI 36), .int (nI 1)]) (r0 := []) (cs2 := (ww im lf s d k ls rf rz ra rn rq lt m1 m2 m3 m4 bd fc hd sz el (qs_U (qs_P (qs_B (qs_A (qs_K t (qK u)) (qA u)) (qB u)) (qP u)) (qU u)) g fm hm so si sh ce ca td wa kp la bf oo bo pw ow tr)) at_X6_all_66 rfl rfl (Nat.le_of_ble_eq_true rfl) rfl (ab_rvOf w65 rfl) ((mo_carBX (X := (qU u).map nI) (n := 6) (f := 36) (G := wa) (w71v (qg_UP.trans (qg_UB.trans (qg_UA.trans qg_UK)))) w86 (by rw [List.length_map]; exact a5) lz (by omega) (by decide) (cU _ (by rw [List.length_map]; exact a5))).to w_pt65_U) (by decide) w_lens ?_
    refine E_istore_n (L2 := [some (.ref 65), some (.ref 86), some (.int (nI 1)), some (.int (nI 42))]) at_X6_all_69 rfl ?_
    refine E_aload_n at_X6_all_70 rfl ?_
    refine E_aload_n at_X6_all_71 rfl ?_
    refine E_getfield (v := .ref 72) at_X6_all_72 w65 rfl (by decide) rfl ?_
    refine E_bipush (x := nI 6) at_X6_all_75 (by decide) ?_
    refine E_aload_n at_X6_all_77 rfl ?_
    refine E_iload_n at_X6_all_78 rfl ?_
    refine E_iload_n at_X6_all_79 rfl ?_
    refine E_callV (v := some (.int (nI 48))) (As := [.ref 65, .ref 72, .int (nI 6), .ref 86, .int (nI 42), .int (nI 1)]) (r0 := []) (cs2 := (ww im lf s d k ls rf rz ra rn rq lt m1 m2 m3 m4 bd fc hd sz el (qs_L (qs_U (qs_P (qs_B (qs_A (qs_K t (qK u)) (qA u)) (qB u)) (qP u)) (qU u)) (qL u)) g fm hm so si sh ce ca td wa kp la bf oo bo pw ow tr)) at_X6_all_80 rfl rfl (Nat.le_of_ble_eq_true rfl) rfl (ab_rvOf w65 rfl) ((mo_carBX (X := (qL u).map nI) (n := 6) (f := 42) (G := wa) (w72v (qg_LU.trans (qg_LP.trans (qg_LB.trans (qg_LA.trans qg_LK))))) w86 (by rw [List.length_map]; exact a6) lz (by omega) (by decide) (cL _ (by rw [List.length_map]; exact a6))).to w_pt65_L) (by decide) w_lens ?_
    refine E_istore_n (L2 := [some (.ref 65), some (.ref 86), some (.int (nI 1)), some (.int (nI 48))]) at_X6_all_83 rfl ?_
    refine E_aload_n at_X6_all_84 rfl ?_
    refine E_aload_n at_X6_all_85 rfl ?_
    refine E_getfield (v := .ref 73) at_X6_all_86 w65 rfl (by decide) rfl ?_
    refine E_bipush (x := nI 6) at_X6_all_89 (by decide) ?_
    refine E_aload_n at_X6_all_91 rfl ?_
    refine E_iload_n at_X6_all_92 rfl ?_
    refine E_iload_n at_X6_all_93 rfl ?_
    refine E_callV (v := some (.int (nI 54))) (As := [.ref 65, .ref 73, .int (nI 6), .ref 86, .int (nI 48), .int (nI 1)]) (r0 := []) (cs2 := (ww im lf s d k ls rf rz ra rn rq lt m1 m2 m3 m4 bd fc hd sz el (qs_W (qs_L (qs_U (qs_P (qs_B (qs_A (qs_K t (qK u)) (qA u)) (qB u)) (qP u)) (qU u)) (qL u)) (qW u)) g fm hm so si sh ce ca td wa kp la bf oo bo pw ow tr)) at_X6_all_94 rfl rfl (Nat.le_of_ble_eq_true rfl) rfl (ab_rvOf w65 rfl) ((mo_carBX (X := (qW u).map nI) (n := 6) (f := 48) (G := wa) (w73v (qg_WL.trans (qg_WU.trans (qg_WP.trans (qg_WB.trans (qg_WA.trans qg_WK)))))) w86 (by rw [List.length_map]; exact a7) lz (by omega) (by decide) (cW _ (by rw [List.length_map]; exact a7))).to w_pt65_W) (by decide) w_lens ?_
    refine E_istore_n (L2 := [some (.ref 65), some (.ref 86), some (.int (nI 1)), some (.int (nI 54))]) at_X6_all_97 rfl ?_
    refine E_aload_n at_X6_all_98 rfl ?_
    refine E_aload_n at_X6_all_99 rfl ?_
    refine E_getfield (v := .ref 74) at_X6_all_100 w65 rfl (by decide) rfl ?_
    refine E_bipush (x := nI 6) at_X6_all_103 (by decide) ?_
    refine E_aload_n at_X6_all_105 rfl ?_
    refine E_iload_n at_X6_all_106 rfl ?_
    refine E_iload_n at_X6_all_107 rfl ?_
    refine E_callV (v := some (.int (nI 60))) (As := [.ref 65, .ref 74, .int (nI 6), .ref 86, .int (nI 54), .int (nI 1)]) (r0 := []) (cs2 := (ww im lf s d k ls rf rz ra rn rq lt m1 m2 m3 m4 bd fc hd sz el (qs_G (qs_W (qs_L (qs_U (qs_P (qs_B (qs_A (qs_K t (qK u)) (qA u)) (qB u)) (qP u)) (qU u)) (qL u)) (qW u)) (qG u)) g fm hm so si sh ce ca td wa kp la bf oo bo pw ow tr)) at_X6_all_108 rfl rfl (Nat.le_of_ble_eq_true rfl) rfl (ab_rvOf w65 rfl) ((mo_carBX (X := qG u) (n := 6) (f := 54) (G := wa) (w74v (qg_GW.trans (qg_GL.trans (qg_GU.trans (qg_GP.trans (qg_GB.trans (qg_GA.trans qg_GK))))))) w86 (by exact a8) lz (by omega) (by decide) (cG _ (by exact a8))).to w_pt65_G) (by decide) w_lens ?_
    refine E_istore_n (L2 := [some (.ref 65), some (.ref 86), some (.int (nI 1)), some (.int (nI 60))]) at_X6_all_111 rfl ?_
    refine E_aload_n at_X6_all_112 rfl ?_
    refine E_aload_n at_X6_all_113 rfl ?_
    refine E_getfield (v := .ref 75) at_X6_all_114 w65 rfl (by decide) rfl ?_
    refine E_bipush (x := nI 8) at_X6_all_117 (by decide) ?_
    refine E_aload_n at_X6_all_119 rfl ?_
    refine E_iload_n at_X6_all_120 rfl ?_
    refine E_iload_n at_X6_all_121 rfl ?_
    refine E_callV (v := some (.int (nI 68))) (As := [.ref 65, .ref 75, .int (nI 8), .ref 86, .int (nI 60), .int (nI 1)]) (r0 := []) (cs2 := (ww im lf s d k ls rf rz ra rn rq lt m1 m2 m3 m4 bd fc hd sz el (qs_C (qs_G (qs_W (qs_L (qs_U (qs_P (qs_B (qs_A (qs_K t (qK u)) (qA u)) (qB u)) (qP u)) (qU u)) (qL u)) (qW u)) (qG u)) (qC u)) g fm hm so si sh ce ca td wa kp la bf oo bo pw ow tr)) at_X6_all_122 rfl rfl (Nat.le_of_ble_eq_true rfl) rfl (ab_rvOf w65 rfl) ((mo_carBX (X := (qC u).map nI) (n := 8) (f := 60) (G := wa) (w75v (qg_CG.trans (qg_CW.trans (qg_CL.trans (qg_CU.trans (qg_CP.trans (qg_CB.trans (qg_CA.trans qg_CK)))))))) w86 (by rw [List.length_map]; exact a9) lz (by omega) (by decide) (cC _ (by rw [List.length_map]; exact a9))).to w_pt65_C) (by decide) w_lens ?_
    refine E_istore_n (L2 := [some (.ref 65), some (.ref 86), some (.int (nI 1)), some (.int (nI 68))]) at_X6_all_125 rfl ?_
    refine E_iload_n at_X6_all_126 rfl ?_
    refine E_if (t := 185) (b := false) at_X6_all_127 rfl (by decide) ?_
    refine E_aload_n rfl rfl ?_
    refine E_aload_n rfl rfl ?_
    refine E_iload_n rfl rfl ?_
    refine E_ialI (l := wa) (v := nI (qN u)) rfl w86 (by omega) (by omega) g68 ?_
    refine E_putfield (cs2 := (ww im lf s d k ls rf rz ra rn rq lt m1 m2 m3 m4 bd fc hd sz el (qs_N (qs_C (qs_G (qs_W (qs_L (qs_U (qs_P (qs_B (qs_A (qs_K t (qK u)) (qA u)) (qB u)) (qP u)) (qU u)) (qL u)) (qW u)) (qG u)) (qC u)) (qN u)) g fm hm so si sh ce ca td wa kp la bf oo bo pw ow tr)) rfl w65 rfl (by decide) (Nat.le_of_ble_eq_true rfl) rfl rfl rfl w_pt65_N ?_
    refine E_aload_n rfl rfl ?_
    refine E_aload_n rfl rfl ?_
    refine E_iload_n rfl rfl ?_
    refine E_iconst (x := nI 1) rfl (by decide) ?_
    refine E_iadd (z := nI 69) rfl (by decide) ?_
    refine E_ialI (l := wa) (v := nI (qM u)) rfl w86 (by omega) (by omega) g69 ?_
    refine E_putfield (cs2 := (ww im lf s d k ls rf rz ra rn rq lt m1 m2 m3 m4 bd fc hd sz el (qs_M (qs_N (qs_C (qs_G (qs_W (qs_L (qs_U (qs_P (qs_B (qs_A (qs_K t (qK u)) (qA u)) (qB u)) (qP u)) (qU u)) (qL u)) (qW u)) (qG u)) (qC u)) (qN u)) (qM u)) g fm hm so si sh ce ca td wa kp la bf oo bo pw ow tr)) rfl w65 rfl (by decide) (Nat.le_of_ble_eq_true rfl) rfl rfl rfl w_pt65_M ?_
    refine E_aload_n rfl rfl ?_
    refine E_aload_n rfl rfl ?_
    refine E_iload_n rfl rfl ?_
    refine E_iconst (x := nI 2) rfl (by decide) ?_
    refine E_iadd (z := nI 70) rfl (by decide) ?_
    refine E_ialI (l := wa) (v := qR u) rfl w86 (by omega) (by omega) g70 ?_
    refine E_putfield (cs2 := (ww im lf s d k ls rf rz ra rn rq lt m1 m2 m3 m4 bd fc hd sz el (qs_R (qs_M (qs_N (qs_C (qs_G (qs_W (qs_L (qs_U (qs_P (qs_B (qs_A (qs_K t (qK u)) (qA u)) (qB u)) (qP u)) (qU u)) (qL u)) (qW u)) (qG u)) (qC u)) (qN u)) (qM u)) (qR u)) g fm hm so si sh ce ca td wa kp la bf oo bo pw ow tr)) rfl w65 rfl (by decide) (Nat.le_of_ble_eq_true rfl) rfl rfl rfl w_pt65_R ?_
    refine E_aload_n rfl rfl ?_
    refine E_aload_n rfl rfl ?_
    refine E_iload_n rfl rfl ?_
    refine E_iconst (x := nI 3) rfl (by decide) ?_
    refine E_iadd (z := nI 71) rfl (by decide) ?_
    refine E_ialI (l := wa) (v := qY u) rfl w86 (by omega) (by omega) g71 ?_
    refine E_putfield (cs2 := (ww im lf s d k ls rf rz ra rn rq lt m1 m2 m3 m4 bd fc hd sz el (qs_Y (qs_R (qs_M (qs_N (qs_C (qs_G (qs_W (qs_L (qs_U (qs_P (qs_B (qs_A (qs_K t (qK u)) (qA u)) (qB u)) (qP u)) (qU u)) (qL u)) (qW u)) (qG u)) (qC u)) (qN u)) (qM u)) (qR u)) (qY u)) g fm hm so si sh ce ca td wa kp la bf oo bo pw ow tr)) rfl w65 rfl (by decide) (Nat.le_of_ble_eq_true rfl) rfl rfl rfl w_pt65_Y ?_
    refine E_aload_n rfl rfl ?_
    refine E_aload_n rfl rfl ?_
    refine E_iload_n rfl rfl ?_
    refine E_iconst (x := nI 4) rfl (by decide) ?_
    refine E_iadd (z := nI 72) rfl (by decide) ?_
    refine E_ialI (l := wa) (v := qD u) rfl w86 (by omega) (by omega) g72 ?_
    refine E_putfield (cs2 := (ww im lf s d k ls rf rz ra rn rq lt m1 m2 m3 m4 bd fc hd sz el (qs_D (qs_Y (qs_R (qs_M (qs_N (qs_C (qs_G (qs_W (qs_L (qs_U (qs_P (qs_B (qs_A (qs_K t (qK u)) (qA u)) (qB u)) (qP u)) (qU u)) (qL u)) (qW u)) (qG u)) (qC u)) (qN u)) (qM u)) (qR u)) (qY u)) (qD u)) g fm hm so si sh ce ca td wa kp la bf oo bo pw ow tr)) rfl w65 rfl (by decide) (Nat.le_of_ble_eq_true rfl) rfl rfl rfl w_pt65_D ?_
    refine E_aload_n rfl rfl ?_
    refine E_aload_n rfl rfl ?_
    refine E_iload_n rfl rfl ?_
    refine E_iconst (x := nI 5) rfl (by decide) ?_
    refine E_iadd (z := nI 73) rfl (by decide) ?_
    refine E_ialI (l := wa) (v := qS u) rfl w86 (by omega) (by omega) g73 ?_
    refine E_putfield (cs2 := (ww im lf s d k ls rf rz ra rn rq lt m1 m2 m3 m4 bd fc hd sz el (qs_S (qs_D (qs_Y (qs_R (qs_M (qs_N (qs_C (qs_G (qs_W (qs_L (qs_U (qs_P (qs_B (qs_A (qs_K t (qK u)) (qA u)) (qB u)) (qP u)) (qU u)) (qL u)) (qW u)) (qG u)) (qC u)) (qN u)) (qM u)) (qR u)) (qY u)) (qD u)) (qS u)) g fm hm so si sh ce ca td wa kp la bf oo bo pw ow tr)) rfl w65 rfl (by decide) (Nat.le_of_ble_eq_true rfl) rfl rfl rfl w_pt65_S ?_
    refine E_goto (t := 237) rfl rfl ?_
    exact E_vret at_X6_all_237 rfl
  rw [qs_all] at X
  exact X
set_option maxHeartbeats 400000 in
theorem m_allO_87 (l : qLn t) (lg : kp.length = 75) : Ev ab_Z0 2 164 [.ref 65, .ref 87, .int (nI 0)] (ww im lf s d k ls rf rz ra rn rq lt m1 m2 m3 m4 bd fc hd sz el t g fm hm so si sh ce ca td wa kp la bf oo bo pw ow tr) (none, (ww im lf s d k ls rf rz ra rn rq lt m1 m2 m3 m4 bd fc hd sz el t g fm hm so si sh ce ca td wa (qFn t kp) la bf oo bo pw ow tr)) := by
  obtain ⟨a1, a2, a3, a4, a5, a6, a7, a8, a9⟩ := id l
  show Ev ab_Z0 2 164 [.ref 65, .ref 87, .int (nI 0)] (ww im lf s d k ls rf rz ra rn rq lt m1 m2 m3 m4 bd fc hd sz el t g fm hm so si sh ce ca td wa kp la bf oo bo pw ow tr) (none, (ww im lf s d k ls rf rz ra rn rq lt m1 m2 m3 m4 bd fc hd sz el t g fm hm so si sh ce ca td wa (((((((ab_cp ((qC t).map nI) (ab_cp (qG t) (ab_cp ((qW t).map nI) (ab_cp ((qL t).map nI) (ab_cp ((qU t).map nI) (ab_cp ((qP t).map nI) (ab_cp ((qB t).map nI) (ab_cp ((qA t).map nI) (ab_cp ((qK t).map nI) kp 0 0 9) 0 9 9) 0 18 9) 0 27 9) 0 36 6) 0 42 6) 0 48 6) 0 54 6) 0 60 8).set 68 (nI (qN t))).set 69 (nI (qM t))).set 70 (qR t)).set 71 (qY t)).set 72 (qD t)).set 73 (qS t)) la bf oo bo pw ow tr))
  have lz0 : (ab_cp ((qK t).map nI) kp 0 0 9).length = 75 := (ab_cpl (by rw [List.length_map]; omega) (by omega)).trans lg
  have lz9 : (ab_cp ((qA t).map nI) (ab_cp ((qK t).map nI) kp 0 0 9) 0 9 9).length = 75 := (ab_cpl (by rw [List.length_map]; omega) (by omega)).trans lz0
  have lz18 : (ab_cp ((qB t).map nI) (ab_cp ((qA t).map nI) (ab_cp ((qK t).map nI) kp 0 0 9) 0 9 9) 0 18 9).length = 75 := (ab_cpl (by rw [List.length_map]; omega) (by omega)).trans lz9
  have lz27 : (ab_cp ((qP t).map nI) (ab_cp ((qB t).map nI) (ab_cp ((qA t).map nI) (ab_cp ((qK t).map nI) kp 0 0 9) 0 9 9) 0 18 9) 0 27 9).length = 75 := (ab_cpl (by rw [List.length_map]; omega) (by omega)).trans lz18
  have lz36 : (ab_cp ((qU t).map nI) (ab_cp ((qP t).map nI) (ab_cp ((qB t).map nI) (ab_cp ((qA t).map nI) (ab_cp ((qK t).map nI) kp 0 0 9) 0 9 9) 0 18 9) 0 27 9) 0 36 6).length = 75 := (ab_cpl (by rw [List.length_map]; omega) (by omega)).trans lz27
  have lz42 : (ab_cp ((qL t).map nI) (ab_cp ((qU t).map nI) (ab_cp ((qP t).map nI) (ab_cp ((qB t).map nI) (ab_cp ((qA t).map nI) (ab_cp ((qK t).map nI) kp 0 0 9) 0 9 9) 0 18 9) 0 27 9) 0 36 6) 0 42 6).length = 75 := (ab_cpl (by rw [List.length_map]; omega) (by omega)).trans lz36
  have lz48 : (ab_cp ((qW t).map nI) (ab_cp ((qL t).map nI) (ab_cp ((qU t).map nI) (ab_cp ((qP t).map nI) (ab_cp ((qB t).map nI) (ab_cp ((qA t).map nI) (ab_cp ((qK t).map nI) kp 0 0 9) 0 9 9) 0 18 9) 0 27 9) 0 36 6) 0 42 6) 0 48 6).length = 75 := (ab_cpl (by rw [List.length_map]; omega) (by omega)).trans lz42
  have lz54 : (ab_cp (qG t) (ab_cp ((qW t).map nI) (ab_cp ((qL t).map nI) (ab_cp ((qU t).map nI) (ab_cp ((qP t).map nI) (ab_cp ((qB t).map nI) (ab_cp ((qA t).map nI) (ab_cp ((qK t).map nI) kp 0 0 9) 0 9 9) 0 18 9) 0 27 9) 0 36 6) 0 42 6) 0 48 6) 0 54 6).length = 75 := (ab_cpl (by omega) (by omega)).trans lz48
  have lz60 : (ab_cp ((qC t).map nI) (ab_cp (qG t) (ab_cp ((qW t).map nI) (ab_cp ((qL t).map nI) (ab_cp ((qU t).map nI) (ab_cp ((qP t).map nI) (ab_cp ((qB t).map nI) (ab_cp ((qA t).map nI) (ab_cp ((qK t).map nI) kp 0 0 9) 0 9 9) 0 18 9) 0 27 9) 0 36 6) 0 42 6) 0 48 6) 0 54 6) 0 60 8).length = 75 := (ab_cpl (by rw [List.length_map]; omega) (by omega)).trans lz54
  have : ((ab_cp ((qC t).map nI) (ab_cp (qG t) (ab_cp ((qW t).map nI) (ab_cp ((qL t).map nI) (ab_cp ((qU t).map nI) (ab_cp ((qP t).map nI) (ab_cp ((qB t).map nI) (ab_cp ((qA t).map nI) (ab_cp ((qK t).map nI) kp 0 0 9) 0 9 9) 0 18 9) 0 27 9) 0 36 6) 0 42 6) 0 48 6) 0 54 6) 0 60 8).set 68 (nI (qN t))).length = 75 := by simp only [List.length_set]; exact lz60
  have : (((ab_cp ((qC t).map nI) (ab_cp (qG t) (ab_cp ((qW t).map nI) (ab_cp ((qL t).map nI) (ab_cp ((qU t).map nI) (ab_cp ((qP t).map nI) (ab_cp ((qB t).map nI) (ab_cp ((qA t).map nI) (ab_cp ((qK t).map nI) kp 0 0 9) 0 9 9) 0 18 9) 0 27 9) 0 36 6) 0 42 6) 0 48 6) 0 54 6) 0 60 8).set 68 (nI (qN t))).set 69 (nI (qM t))).length = 75 := by simp only [List.length_set]; exact lz60
  have : ((((ab_cp ((qC t).map nI) (ab_cp (qG t) (ab_cp ((qW t).map nI) (ab_cp ((qL t).map nI) (ab_cp ((qU t).map nI) (ab_cp ((qP t).map nI) (ab_cp ((qB t).map nI) (ab_cp ((qA t).map nI) (ab_cp ((qK t).map nI) kp 0 0 9) 0 9 9) 0 18 9) 0 27 9) 0 36 6) 0 42 6) 0 48 6) 0 54 6) 0 60 8).set 68 (nI (qN t))).set 69 (nI (qM t))).set 70 (qR t)).length = 75 := by simp only [List.length_set]; exact lz60
  have : (((((ab_cp ((qC t).map nI) (ab_cp (qG t) (ab_cp ((qW t).map nI) (ab_cp ((qL t).map nI) (ab_cp ((qU t).map nI) (ab_cp ((qP t).map nI) (ab_cp ((qB t).map nI) (ab_cp ((qA t).map nI) (ab_cp ((qK t).map nI) kp 0 0 9) 0 9 9) 0 18 9) 0 27 9) 0 36 6) 0 42 6) 0 48 6) 0 54 6) 0 60 8).set 68 (nI (qN t))).set 69 (nI (qM t))).set 70 (qR t)).set 71 (qY t)).length = 75 := by simp only [List.length_set]; exact lz60
  have : ((((((ab_cp ((qC t).map nI) (ab_cp (qG t) (ab_cp ((qW t).map nI) (ab_cp ((qL t).map nI) (ab_cp ((qU t).map nI) (ab_cp ((qP t).map nI) (ab_cp ((qB t).map nI) (ab_cp ((qA t).map nI) (ab_cp ((qK t).map nI) kp 0 0 9) 0 9 9) 0 18 9) 0 27 9) 0 36 6) 0 42 6) 0 48 6) 0 54 6) 0 60 8).set 68 (nI (qN t))).set 69 (nI (qM t))).set 70 (qR t)).set 71 (qY t)).set 72 (qD t)).length = 75 := by simp only [List.length_set]; exact lz60
  refine Ef.in (md := mX6_all) (L := [some (.ref 65), some (.ref 87), some (.int (nI 0)), none]) rfl (Nat.le_of_ble_eq_true rfl) rfl ?_
  refine E_aload_n at_X6_all_0 rfl ?_
  refine E_aload_n at_X6_all_1 rfl ?_
  refine E_getfield (v := .ref 67) at_X6_all_2 w65 rfl (by decide) rfl ?_
  refine E_bipush (x := nI 9) at_X6_all_5 (by decide) ?_
  refine E_aload_n at_X6_all_7 rfl ?_
  refine E_iconst (x := nI 0) at_X6_all_8 (by decide) ?_
  refine E_iload_n at_X6_all_9 rfl ?_
  refine E_callV (v := some (.int (nI 9))) (As := [.ref 65, .ref 67, .int (nI 9), .ref 87, .int (nI 0), .int (nI 0)]) (r0 := []) (cs2 := (ww im lf s d k ls rf rz ra rn rq lt m1 m2 m3 m4 bd fc hd sz el t g fm hm so si sh ce ca td wa (ab_cp ((qK t).map nI) kp 0 0 9) la bf oo bo pw ow tr)) at_X6_all_10 rfl rfl (Nat.le_of_ble_eq_true rfl) rfl (ab_rvOf w65 rfl) (mo_carO (F := (qK t).map nI) (G := kp) w67 w87 (by rw [List.length_map]; omega) lg (by omega) (by decide)) (by decide) w_lens ?_
  refine E_istore_n (L2 := [some (.ref 65), some (.ref 87), some (.int (nI 0)), some (.int (nI 9))]) at_X6_all_13 rfl ?_
  refine E_aload_n at_X6_all_14 rfl ?_
  refine E_aload_n at_X6_all_15 rfl ?_
  refine E_getfield (v := .ref 68) at_X6_all_16 w65 rfl (by decide) rfl ?_
  refine E_bipush (x := nI 9) at_X6_all_19 (by decide) ?_
  refine E_aload_n at_X6_all_21 rfl ?_
  refine E_iload_n at_X6_all_22 rfl ?_
  refine E_iload_n at_X6_all_23 rfl ?_
  refine E_callV (v := some (.int (nI 18))) (As := [.ref 65, .ref 68, .int (nI 9), .ref 87, .int (nI 9), .int (nI 0)]) (r0 := []) (cs2 := (ww im lf s d k ls rf rz ra rn rq lt m1 m2 m3 m4 bd fc hd sz el t g fm hm so si sh ce ca td wa (ab_cp ((qA t).map nI) (ab_cp ((qK t).map nI) kp 0 0 9) 0 9 9) la bf oo bo pw ow tr)) at_X6_all_24 rfl rfl (Nat.le_of_ble_eq_true rfl) rfl (ab_rvOf w65 rfl) (mo_carO (F := (qA t).map nI) (G := (ab_cp ((qK t).map nI) kp 0 0 9)) w68 w87 (by rw [List.length_map]; omega) lz0 (by omega) (by decide)) (by decide) w_lens ?_
  refine E_istore_n (L2 := [some (.ref 65), some (.ref 87), some (.int (nI 0)), some (.int (nI 18))]) at_X6_all_27 rfl ?_
  refine E_aload_n at_X6_all_28 rfl ?_
  refine E_aload_n at_X6_all_29 rfl ?_
  refine E_getfield (v := .ref 69) at_X6_all_30 w65 rfl (by decide) rfl ?_
  refine E_bipush (x := nI 9) at_X6_all_33 (by decide) ?_
  refine E_aload_n at_X6_all_35 rfl ?_
  refine E_iload_n at_X6_all_36 rfl ?_
  refine E_iload_n at_X6_all_37 rfl ?_
  refine E_callV (v := some (.int (nI 27))) (As := [.ref 65, .ref 69, .int (nI 9), .ref 87, .int (nI 18), .int (nI 0)]) (r0 := []) (cs2 := (ww im lf s d k ls rf rz ra rn rq lt m1 m2 m3 m4 bd fc hd sz el t g fm hm so si sh ce ca td wa (ab_cp ((qB t).map nI) (ab_cp ((qA t).map nI) (ab_cp ((qK t).map nI) kp 0 0 9) 0 9 9) 0 18 9) la bf oo bo pw ow tr)) at_X6_all_38 rfl rfl (Nat.le_of_ble_eq_true rfl) rfl (ab_rvOf w65 rfl) (mo_carO (F := (qB t).map nI) (G := (ab_cp ((qA t).map nI) (ab_cp ((qK t).map nI) kp 0 0 9) 0 9 9)) w69 w87 (by rw [List.length_map]; omega) lz9 (by omega) (by decide)) (by decide) w_lens ?_
  refine E_istore_n (L2 := [some (.ref 65), some (.ref 87), some (.int (nI 0)), some (.int (nI 27))]) at_X6_all_41 rfl ?_
  refine E_aload_n at_X6_all_42 rfl ?_
  refine E_aload_n at_X6_all_43 rfl ?_
  refine E_getfield (v := .ref 70) at_X6_all_44 w65 rfl (by decide) rfl ?_
  refine E_bipush (x := nI 9) at_X6_all_47 (by decide) ?_
  refine E_aload_n at_X6_all_49 rfl ?_
  refine E_iload_n at_X6_all_50 rfl ?_
  refine E_iload_n at_X6_all_51 rfl ?_
  refine E_callV (v := some (.int (nI 36))) (As := [.ref 65, .ref 70, .int (nI 9), .ref 87, .int (nI 27), .int (nI 0)]) (r0 := []) (cs2 := (ww im lf s d k ls rf rz ra rn rq lt m1 m2 m3 m4 bd fc hd sz el t g fm hm so si sh ce ca td wa (ab_cp ((qP t).map nI) (ab_cp ((qB t).map nI) (ab_cp ((qA t).map nI) (ab_cp ((qK t).map nI) kp 0 0 9) 0 9 9) 0 18 9) 0 27 9) la bf oo bo pw ow tr)) at_X6_all_52 rfl rfl (Nat.le_of_ble_eq_true rfl) rfl (ab_rvOf w65 rfl) (mo_carO (F := (qP t).map nI) (G := (ab_cp ((qB t).map nI) (ab_cp ((qA t).map nI) (ab_cp ((qK t).map nI) kp 0 0 9) 0 9 9) 0 18 9)) w70 w87 (by rw [List.length_map]; omega) lz18 (by omega) (by decide)) (by decide) w_lens ?_
  refine E_istore_n (L2 := [some (.ref 65), some (.ref 87), some (.int (nI 0)), some (.int (nI 36))]) at_X6_all_55 rfl ?_
  refine E_aload_n at_X6_all_56 rfl ?_
  refine E_aload_n at_X6_all_57 rfl ?_
  refine E_getfield (v := .ref 71) at_X6_all_58 w65 rfl (by decide) rfl ?_
  refine E_bipush (x := nI 6) at_X6_all_61 (by decide) ?_
  refine E_aload_n at_X6_all_63 rfl ?_
  refine E_iload_n at_X6_all_64 rfl ?_
  refine E_iload_n at_X6_all_65 rfl ?_
  refine E_callV (v := some (.int (nI 42))) (As := [.ref 65, .ref 71, .int (nI 6), .ref 87, .int (nI 36), .int (nI 0)]) (r0 := []) (cs2 := (ww im lf s d k ls rf rz ra rn rq lt m1 m2 m3 m4 bd fc hd sz el t g fm hm so si sh ce ca td wa (ab_cp ((qU t).map nI) (ab_cp ((qP t).map nI) (ab_cp ((qB t).map nI) (ab_cp ((qA t).map nI) (ab_cp ((qK t).map nI) kp 0 0 9) 0 9 9) 0 18 9) 0 27 9) 0 36 6) la bf oo bo pw ow tr)) at_X6_all_66 rfl rfl (Nat.le_of_ble_eq_true rfl) rfl (ab_rvOf w65 rfl) (mo_carO (F := (qU t).map nI) (G := (ab_cp ((qP t).map nI) (ab_cp ((qB t).map nI) (ab_cp ((qA t).map nI) (ab_cp ((qK t).map nI) kp 0 0 9) 0 9 9) 0 18 9) 0 27 9)) w71 w87 (by rw [List.length_map]; omega) lz27 (by omega) (by decide)) (by decide) w_lens ?_
  refine E_istore_n (L2 := [some (.ref 65), some (.ref 87), some (.int (nI 0)), some (.int (nI 42))]) at_X6_all_69 rfl ?_
  refine E_aload_n at_X6_all_70 rfl ?_
  refine E_aload_n at_X6_all_71 rfl ?_
  refine E_getfield (v := .ref 72) at_X6_all_72 w65 rfl (by decide) rfl ?_
  refine E_bipush (x := nI 6) at_X6_all_75 (by decide) ?_
  refine E_aload_n at_X6_all_77 rfl ?_
  refine E_iload_n at_X6_all_78 rfl ?_
  refine E_iload_n at_X6_all_79 rfl ?_
  refine E_callV (v := some (.int (nI 48))) (As := [.ref 65, .ref 72, .int (nI 6), .ref 87, .int (nI 42), .int (nI 0)]) (r0 := []) (cs2 := (ww im lf s d k ls rf rz ra rn rq lt m1 m2 m3 m4 bd fc hd sz el t g fm hm so si sh ce ca td wa (ab_cp ((qL t).map nI) (ab_cp ((qU t).map nI) (ab_cp ((qP t).map nI) (ab_cp ((qB t).map nI) (ab_cp ((qA t).map nI) (ab_cp ((qK t).map nI) kp 0 0 9) 0 9 9) 0 18 9) 0 27 9) 0 36 6) 0 42 6) la bf oo bo pw ow tr)) at_X6_all_80 rfl rfl (Nat.le_of_ble_eq_true rfl) rfl (ab_rvOf w65 rfl) (mo_carO (F := (qL t).map nI) (G := (ab_cp ((qU t).map nI) (ab_cp ((qP t).map nI) (ab_cp ((qB t).map nI) (ab_cp ((qA t).map nI) (ab_cp ((qK t).map nI) kp 0 0 9) 0 9 9) 0 18 9) 0 27 9) 0 36 6)) w72 w87 (by rw [List.length_map]; omega) lz36 (by omega) (by decide)) (by decide) w_lens ?_
  refine E_istore_n (L2 := [some (.ref 65), some (.ref 87), some (.int (nI 0)), some (.int (nI 48))]) at_X6_all_83 rfl ?_
  refine E_aload_n at_X6_all_84 rfl ?_
  refine E_aload_n at_X6_all_85 rfl ?_
  refine E_getfield (v := .ref 73) at_X6_all_86 w65 rfl (by decide) rfl ?_
  refine E_bipush (x := nI 6) at_X6_all_89 (by decide) ?_
  refine E_aload_n at_X6_all_91 rfl ?_
  refine E_iload_n at_X6_all_92 rfl ?_
  refine E_iload_n at_X6_all_93 rfl ?_
  refine E_callV (v := some (.int (nI 54))) (As := [.ref 65, .ref 73, .int (nI 6), .ref 87, .int (nI 48), .int (nI 0)]) (r0 := []) (cs2 := (ww im lf s d k ls rf rz ra rn rq lt m1 m2 m3 m4 bd fc hd sz el t g fm hm so si sh ce ca td wa (ab_cp ((qW t).map nI) (ab_cp ((qL t).map nI) (ab_cp ((qU t).map nI) (ab_cp ((qP t).map nI) (ab_cp ((qB t).map nI) (ab_cp ((qA t).map nI) (ab_cp ((qK t).map nI) kp 0 0 9) 0 9 9) 0 18 9) 0 27 9) 0 36 6) 0 42 6) 0 48 6) la bf oo bo pw ow tr)) at_X6_all_94 rfl rfl (Nat.le_of_ble_eq_true rfl) rfl (ab_rvOf w65 rfl) (mo_carO (F := (qW t).map nI) (G := (ab_cp ((qL t).map nI) (ab_cp ((qU t).map nI) (ab_cp ((qP t).map nI) (ab_cp ((qB t).map nI) (ab_cp ((qA t).map nI) (ab_cp ((qK t).map nI) kp 0 0 9) 0 9 9) 0 18 9) 0 27 9) 0 36 6) 0 42 6)) w73 w87 (by rw [List.length_map]; omega) lz42 (by omega) (by decide)) (by decide) w_lens ?_
  refine E_istore_n (L2 := [some (.ref 65), some (.ref 87), some (.int (nI 0)), some (.int (nI 54))]) at_X6_all_97 rfl ?_
  refine E_aload_n at_X6_all_98 rfl ?_
  refine E_aload_n at_X6_all_99 rfl ?_
  refine E_getfield (v := .ref 74) at_X6_all_100 w65 rfl (by decide) rfl ?_
  refine E_bipush (x := nI 6) at_X6_all_103 (by decide) ?_
  refine E_aload_n at_X6_all_105 rfl ?_
  refine E_iload_n at_X6_all_106 rfl ?_
  refine E_iload_n at_X6_all_107 rfl ?_
  refine E_callV (v := some (.int (nI 60))) (As := [.ref 65, .ref 74, .int (nI 6), .ref 87, .int (nI 54), .int (nI 0)]) (r0 := []) (cs2 := (ww im lf s d k ls rf rz ra rn rq lt m1 m2 m3 m4 bd fc hd sz el t g fm hm so si sh ce ca td wa (ab_cp (qG t) (ab_cp ((qW t).map nI) (ab_cp ((qL t).map nI) (ab_cp ((qU t).map nI) (ab_cp ((qP t).map nI) (ab_cp ((qB t).map nI) (ab_cp ((qA t).map nI) (ab_cp ((qK t).map nI) kp 0 0 9) 0 9 9) 0 18 9) 0 27 9) 0 36 6) 0 42 6) 0 48 6) 0 54 6) la bf oo bo pw ow tr)) at_X6_all_108 rfl rfl (Nat.le_of_ble_eq_true rfl) rfl (ab_rvOf w65 rfl) (mo_carO (F := qG t) (G := (ab_cp ((qW t).map nI) (ab_cp ((qL t).map nI) (ab_cp ((qU t).map nI) (ab_cp ((qP t).map nI) (ab_cp ((qB t).map nI) (ab_cp ((qA t).map nI) (ab_cp ((qK t).map nI) kp 0 0 9) 0 9 9) 0 18 9) 0 27 9) 0 36 6) 0 42 6) 0 48 6)) w74 w87 (by omega) lz48 (by omega) (by decide)) (by decide) w_lens ?_
  refine E_istore_n (L2 := [some (.ref 65), some (.ref 87), some (.int (nI 0)), some (.int (nI 60))]) at_X6_all_111 rfl ?_
  refine E_aload_n at_X6_all_112 rfl ?_
  refine E_aload_n at_X6_all_113 rfl ?_
  refine E_getfield (v := .ref 75) at_X6_all_114 w65 rfl (by decide) rfl ?_
  refine E_bipush (x := nI 8) at_X6_all_117 (by decide) ?_
  refine E_aload_n at_X6_all_119 rfl ?_
  refine E_iload_n at_X6_all_120 rfl ?_
  refine E_iload_n at_X6_all_121 rfl ?_
  refine E_callV (v := some (.int (nI 68))) (As := [.ref 65, .ref 75, .int (nI 8), .ref 87, .int (nI 60), .int (nI 0)]) (r0 := []) (cs2 := (ww im lf s d k ls rf rz ra rn rq lt m1 m2 m3 m4 bd fc hd sz el t g fm hm so si sh ce ca td wa (ab_cp ((qC t).map nI) (ab_cp (qG t) (ab_cp ((qW t).map nI) (ab_cp ((qL t).map nI) (ab_cp ((qU t).map nI) (ab_cp ((qP t).map nI) (ab_cp ((qB t).map nI) (ab_cp ((qA t).map nI) (ab_cp ((qK t).map nI) kp 0 0 9) 0 9 9) 0 18 9) 0 27 9) 0 36 6) 0 42 6) 0 48 6) 0 54 6) 0 60 8) la bf oo bo pw ow tr)) at_X6_all_122 rfl rfl (Nat.le_of_ble_eq_true rfl) rfl (ab_rvOf w65 rfl) (mo_carO (F := (qC t).map nI) (G := (ab_cp (qG t) (ab_cp ((qW t).map nI) (ab_cp ((qL t).map nI) (ab_cp ((qU t).map nI) (ab_cp ((qP t).map nI) (ab_cp ((qB t).map nI) (ab_cp ((qA t).map nI) (ab_cp ((qK t).map nI) kp 0 0 9) 0 9 9) 0 18 9) 0 27 9) 0 36 6) 0 42 6) 0 48 6) 0 54 6)) w75 w87 (by rw [List.length_map]; omega) lz54 (by omega) (by decide)) (by decide) w_lens ?_
  refine E_istore_n (L2 := [some (.ref 65), some (.ref 87), some (.int (nI 0)), some (.int (nI 68))]) at_X6_all_125 rfl ?_
  refine E_iload_n at_X6_all_126 rfl ?_
  refine E_if (t := 185) (b := true) at_X6_all_127 rfl (by decide) ?_
  refine E_aload_n rfl rfl ?_
  refine E_iload_n rfl rfl ?_
  refine E_aload_n rfl rfl ?_
  refine E_getfield (v := .int (nI (qN t))) rfl w65 rfl (by decide) rfl ?_
  refine E_iasI (l := (ab_cp ((qC t).map nI) (ab_cp (qG t) (ab_cp ((qW t).map nI) (ab_cp ((qL t).map nI) (ab_cp ((qU t).map nI) (ab_cp ((qP t).map nI) (ab_cp ((qB t).map nI) (ab_cp ((qA t).map nI) (ab_cp ((qK t).map nI) kp 0 0 9) 0 9 9) 0 18 9) 0 27 9) 0 36 6) 0 42 6) 0 48 6) 0 54 6) 0 60 8)) (cs2 := (ww im lf s d k ls rf rz ra rn rq lt m1 m2 m3 m4 bd fc hd sz el t g fm hm so si sh ce ca td wa ((ab_cp ((qC t).map nI) (ab_cp (qG t) (ab_cp ((qW t).map nI) (ab_cp ((qL t).map nI) (ab_cp ((qU t).map nI) (ab_cp ((qP t).map nI) (ab_cp ((qB t).map nI) (ab_cp ((qA t).map nI) (ab_cp ((qK t).map nI) kp 0 0 9) 0 9 9) 0 18 9) 0 27 9) 0 36 6) 0 42 6) 0 48 6) 0 54 6) 0 60 8).set 68 (nI (qN t))) la bf oo bo pw ow tr)) rfl w87 (by omega) (by omega) rfl ?_
  refine E_aload_n rfl rfl ?_
  refine E_iload_n rfl rfl ?_
  refine E_iconst (x := nI 1) rfl (by decide) ?_
  refine E_iadd (z := nI 69) rfl (by decide) ?_
  refine E_aload_n rfl rfl ?_
  refine E_getfield (v := .int (nI (qM t))) rfl w65 rfl (by decide) rfl ?_
  refine E_iasI (l := (ab_cp ((qC t).map nI) (ab_cp (qG t) (ab_cp ((qW t).map nI) (ab_cp ((qL t).map nI) (ab_cp ((qU t).map nI) (ab_cp ((qP t).map nI) (ab_cp ((qB t).map nI) (ab_cp ((qA t).map nI) (ab_cp ((qK t).map nI) kp 0 0 9) 0 9 9) 0 18 9) 0 27 9) 0 36 6) 0 42 6) 0 48 6) 0 54 6) 0 60 8).set 68 (nI (qN t))) (cs2 := (ww im lf s d k ls rf rz ra rn rq lt m1 m2 m3 m4 bd fc hd sz el t g fm hm so si sh ce ca td wa (((ab_cp ((qC t).map nI) (ab_cp (qG t) (ab_cp ((qW t).map nI) (ab_cp ((qL t).map nI) (ab_cp ((qU t).map nI) (ab_cp ((qP t).map nI) (ab_cp ((qB t).map nI) (ab_cp ((qA t).map nI) (ab_cp ((qK t).map nI) kp 0 0 9) 0 9 9) 0 18 9) 0 27 9) 0 36 6) 0 42 6) 0 48 6) 0 54 6) 0 60 8).set 68 (nI (qN t))).set 69 (nI (qM t))) la bf oo bo pw ow tr)) rfl w87 (by omega) (by omega) rfl ?_
  refine E_aload_n rfl rfl ?_
  refine E_iload_n rfl rfl ?_
  refine E_iconst (x := nI 2) rfl (by decide) ?_
  refine E_iadd (z := nI 70) rfl (by decide) ?_
  refine E_aload_n rfl rfl ?_
  refine E_getfield (v := .int (qR t)) rfl w65 rfl (by decide) rfl ?_
  refine E_iasI (l := ((ab_cp ((qC t).map nI) (ab_cp (qG t) (ab_cp ((qW t).map nI) (ab_cp ((qL t).map nI) (ab_cp ((qU t).map nI) (ab_cp ((qP t).map nI) (ab_cp ((qB t).map nI) (ab_cp ((qA t).map nI) (ab_cp ((qK t).map nI) kp 0 0 9) 0 9 9) 0 18 9) 0 27 9) 0 36 6) 0 42 6) 0 48 6) 0 54 6) 0 60 8).set 68 (nI (qN t))).set 69 (nI (qM t))) (cs2 := (ww im lf s d k ls rf rz ra rn rq lt m1 m2 m3 m4 bd fc hd sz el t g fm hm so si sh ce ca td wa ((((ab_cp ((qC t).map nI) (ab_cp (qG t) (ab_cp ((qW t).map nI) (ab_cp ((qL t).map nI) (ab_cp ((qU t).map nI) (ab_cp ((qP t).map nI) (ab_cp ((qB t).map nI) (ab_cp ((qA t).map nI) (ab_cp ((qK t).map nI) kp 0 0 9) 0 9 9) 0 18 9) 0 27 9) 0 36 6) 0 42 6) 0 48 6) 0 54 6) 0 60 8).set 68 (nI (qN t))).set 69 (nI (qM t))).set 70 (qR t)) la bf oo bo pw ow tr)) rfl w87 (by omega) (by omega) rfl ?_
  refine E_aload_n rfl rfl ?_
  refine E_iload_n rfl rfl ?_
  refine E_iconst (x := nI 3) rfl (by decide) ?_
  refine E_iadd (z := nI 71) rfl (by decide) ?_
  refine E_aload_n rfl rfl ?_
  refine E_getfield (v := .int (qY t)) rfl w65 rfl (by decide) rfl ?_
  refine E_iasI (l := (((ab_cp ((qC t).map nI) (ab_cp (qG t) (ab_cp ((qW t).map nI) (ab_cp ((qL t).map nI) (ab_cp ((qU t).map nI) (ab_cp ((qP t).map nI) (ab_cp ((qB t).map nI) (ab_cp ((qA t).map nI) (ab_cp ((qK t).map nI) kp 0 0 9) 0 9 9) 0 18 9) 0 27 9) 0 36 6) 0 42 6) 0 48 6) 0 54 6) 0 60 8).set 68 (nI (qN t))).set 69 (nI (qM t))).set 70 (qR t)) (cs2 := (ww im lf s d k ls rf rz ra rn rq lt m1 m2 m3 m4 bd fc hd sz el t g fm hm so si sh ce ca td wa (((((ab_cp ((qC t).map nI) (ab_cp (qG t) (ab_cp ((qW t).map nI) (ab_cp ((qL t).map nI) (ab_cp ((qU t).map nI) (ab_cp ((qP t).map nI) (ab_cp ((qB t).map nI) (ab_cp ((qA t).map nI) (ab_cp ((qK t).map nI) kp 0 0 9) 0 9 9) 0 18 9) 0 27 9) 0 36 6) 0 42 6) 0 48 6) 0 54 6) 0 60 8).set 68 (nI (qN t))).set 69 (nI (qM t))).set 70 (qR t)).set 71 (qY t)) la bf oo bo pw ow tr)) rfl w87 (by omega) (by omega) rfl ?_
  refine E_aload_n rfl rfl ?_
  refine E_iload_n rfl rfl ?_
  refine E_iconst (x := nI 4) rfl (by decide) ?_
  refine E_iadd (z := nI 72) rfl (by decide) ?_
  refine E_aload_n rfl rfl ?_
  refine E_getfield (v := .int (qD t)) rfl w65 rfl (by decide) rfl ?_
  refine E_iasI (l := ((((ab_cp ((qC t).map nI) (ab_cp (qG t) (ab_cp ((qW t).map nI) (ab_cp ((qL t).map nI) (ab_cp ((qU t).map nI) (ab_cp ((qP t).map nI) (ab_cp ((qB t).map nI) (ab_cp ((qA t).map nI) (ab_cp ((qK t).map nI) kp 0 0 9) 0 9 9) 0 18 9) 0 27 9) 0 36 6) 0 42 6) 0 48 6) 0 54 6) 0 60 8).set 68 (nI (qN t))).set 69 (nI (qM t))).set 70 (qR t)).set 71 (qY t)) (cs2 := (ww im lf s d k ls rf rz ra rn rq lt m1 m2 m3 m4 bd fc hd sz el t g fm hm so si sh ce ca td wa ((((((ab_cp ((qC t).map nI) (ab_cp (qG t) (ab_cp ((qW t).map nI) (ab_cp ((qL t).map nI) (ab_cp ((qU t).map nI) (ab_cp ((qP t).map nI) (ab_cp ((qB t).map nI) (ab_cp ((qA t).map nI) (ab_cp ((qK t).map nI) kp 0 0 9) 0 9 9) 0 18 9) 0 27 9) 0 36 6) 0 42 6) 0 48 6) 0 54 6) 0 60 8).set 68 (nI (qN t))).set 69 (nI (qM t))).set 70 (qR t)).set 71 (qY t)).set 72 (qD t)) la bf oo bo pw ow tr)) rfl w87 (by omega) (by omega) rfl ?_
  refine E_aload_n rfl rfl ?_
  refine E_iload_n rfl rfl ?_
  refine E_iconst (x := nI 5) rfl (by decide) ?_
  refine E_iadd (z := nI 73) rfl (by decide) ?_
  refine E_aload_n rfl rfl ?_
  refine E_getfield (v := .int (qS t)) rfl w65 rfl (by decide) rfl ?_
  refine E_iasI (l := (((((ab_cp ((qC t).map nI) (ab_cp (qG t) (ab_cp ((qW t).map nI) (ab_cp ((qL t).map nI) (ab_cp ((qU t).map nI) (ab_cp ((qP t).map nI) (ab_cp ((qB t).map nI) (ab_cp ((qA t).map nI) (ab_cp ((qK t).map nI) kp 0 0 9) 0 9 9) 0 18 9) 0 27 9) 0 36 6) 0 42 6) 0 48 6) 0 54 6) 0 60 8).set 68 (nI (qN t))).set 69 (nI (qM t))).set 70 (qR t)).set 71 (qY t)).set 72 (qD t)) (cs2 := (ww im lf s d k ls rf rz ra rn rq lt m1 m2 m3 m4 bd fc hd sz el t g fm hm so si sh ce ca td wa (((((((ab_cp ((qC t).map nI) (ab_cp (qG t) (ab_cp ((qW t).map nI) (ab_cp ((qL t).map nI) (ab_cp ((qU t).map nI) (ab_cp ((qP t).map nI) (ab_cp ((qB t).map nI) (ab_cp ((qA t).map nI) (ab_cp ((qK t).map nI) kp 0 0 9) 0 9 9) 0 18 9) 0 27 9) 0 36 6) 0 42 6) 0 48 6) 0 54 6) 0 60 8).set 68 (nI (qN t))).set 69 (nI (qM t))).set 70 (qR t)).set 71 (qY t)).set 72 (qD t)).set 73 (qS t)) la bf oo bo pw ow tr)) rfl w87 (by omega) (by omega) rfl ?_
  exact E_vret at_X6_all_237 rfl
set_option maxHeartbeats 400000 in
theorem m_allB_87 {u : ab_q} {e : List Int32} (l : qLn t) (lu : qLn u) (lg : e.length = 75) (hq : kp = qFn u e) : Ev ab_Z0 2 164 [.ref 65, .ref 87, .int (nI 1)] (ww im lf s d k ls rf rz ra rn rq lt m1 m2 m3 m4 bd fc hd sz el t g fm hm so si sh ce ca td wa kp la bf oo bo pw ow tr) (none, (ww im lf s d k ls rf rz ra rn rq lt m1 m2 m3 m4 bd fc hd sz el u g fm hm so si sh ce ca td wa kp la bf oo bo pw ow tr)) := by
  obtain ⟨a1, a2, a3, a4, a5, a6, a7, a8, a9⟩ := id l
  have cK : ∀ f : List Int32, f.length = 9 → ab_cp (qFn u e) f 0 0 9 = (qK u).map nI := fun f hf => qFn_K lu lg hf
  have cA : ∀ f : List Int32, f.length = 9 → ab_cp (qFn u e) f 9 0 9 = (qA u).map nI := fun f hf => qFn_A lu lg hf
  have cB : ∀ f : List Int32, f.length = 9 → ab_cp (qFn u e) f 18 0 9 = (qB u).map nI := fun f hf => qFn_B lu lg hf
  have cP : ∀ f : List Int32, f.length = 9 → ab_cp (qFn u e) f 27 0 9 = (qP u).map nI := fun f hf => qFn_P lu lg hf
  have cU : ∀ f : List Int32, f.length = 6 → ab_cp (qFn u e) f 36 0 6 = (qU u).map nI := fun f hf => qFn_U lu lg hf
  have cL : ∀ f : List Int32, f.length = 6 → ab_cp (qFn u e) f 42 0 6 = (qL u).map nI := fun f hf => qFn_L lu lg hf
  have cW : ∀ f : List Int32, f.length = 6 → ab_cp (qFn u e) f 48 0 6 = (qW u).map nI := fun f hf => qFn_W lu lg hf
  have cG : ∀ f : List Int32, f.length = 6 → ab_cp (qFn u e) f 54 0 6 = qG u := fun f hf => qFn_G lu lg hf
  have cC : ∀ f : List Int32, f.length = 8 → ab_cp (qFn u e) f 60 0 8 = (qC u).map nI := fun f hf => qFn_C lu lg hf
  have g68 : (qFn u e).getD 68 0 = nI (qN u) := qFn_68 lu lg
  have g69 : (qFn u e).getD 69 0 = nI (qM u) := qFn_69 lu lg
  have g70 : (qFn u e).getD 70 0 = qR u := qFn_70 lu lg
  have g71 : (qFn u e).getD 71 0 = qY u := qFn_71 lu lg
  have g72 : (qFn u e).getD 72 0 = qD u := qFn_72 lu lg
  have g73 : (qFn u e).getD 73 0 = qS u := qFn_73 lu lg
  have lz : (qFn u e).length = 75 := qFn_len lu lg
  rw [← hq] at lz g68 g69 g70 g71 g72 g73
  rw [← hq] at cK
  rw [← hq] at cA
  rw [← hq] at cB
  rw [← hq] at cP
  rw [← hq] at cU
  rw [← hq] at cL
  rw [← hq] at cW
  rw [← hq] at cG
  rw [← hq] at cC
  clear hq
  have X : Ev ab_Z0 2 164 [.ref 65, .ref 87, .int (nI 1)] (ww im lf s d k ls rf rz ra rn rq lt m1 m2 m3 m4 bd fc hd sz el t g fm hm so si sh ce ca td wa kp la bf oo bo pw ow tr) (none, (ww im lf s d k ls rf rz ra rn rq lt m1 m2 m3 m4 bd fc hd sz el (qs_S (qs_D (qs_Y (qs_R (qs_M (qs_N (qs_C (qs_G (qs_W (qs_L (qs_U (qs_P (qs_B (qs_A (qs_K t (qK u)) (qA u)) (qB u)) (qP u)) (qU u)) (qL u)) (qW u)) (qG u)) (qC u)) (qN u)) (qM u)) (qR u)) (qY u)) (qD u)) (qS u)) g fm hm so si sh ce ca td wa kp la bf oo bo pw ow tr)) := by
    refine Ef.in (md := mX6_all) (L := [some (.ref 65), some (.ref 87), some (.int (nI 1)), none]) rfl (Nat.le_of_ble_eq_true rfl) rfl ?_
    refine E_aload_n at_X6_all_0 rfl ?_
    refine E_aload_n at_X6_all_1 rfl ?_
    refine E_getfield (v := .ref 67) at_X6_all_2 w65 rfl (by decide) rfl ?_
    refine E_bipush (x := nI 9) at_X6_all_5 (by decide) ?_
    refine E_aload_n at_X6_all_7 rfl ?_
    refine E_iconst (x := nI 0) at_X6_all_8 (by decide) ?_
    refine E_iload_n at_X6_all_9 rfl ?_
    refine E_callV (v := some (.int (nI 9))) (As := [.ref 65, .ref 67, .int (nI 9), .ref 87, .int (nI 0), .int (nI 1)]) (r0 := []) (cs2 := (ww im lf s d k ls rf rz ra rn rq lt m1 m2 m3 m4 bd fc hd sz el (qs_K t (qK u)) g fm hm so si sh ce ca td wa kp la bf oo bo pw ow tr)) at_X6_all_10 rfl rfl (Nat.le_of_ble_eq_true rfl) rfl (ab_rvOf w65 rfl) ((mo_carBX (X := (qK u).map nI) (n := 9) (f := 0) (G := kp) w67 w87 (by rw [List.length_map]; exact a1) lz (by omega) (by decide) (cK _ (by rw [List.length_map]; exact a1))).to w_pt65_K) (by decide) w_lens ?_
    refine E_istore_n (L2 := [some (.ref 65), some (.ref 87), some (.int (nI 1)), some (.int (nI 9))]) at_X6_all_13 rfl ?_
    refine E_aload_n at_X6_all_14 rfl ?_
    refine E_aload_n at_X6_all_15 rfl ?_
    refine E_getfield (v := .ref 68) at_X6_all_16 w65 rfl (by decide) rfl ?_
    refine E_bipush (x := nI 9) at_X6_all_19 (by decide) ?_
    refine E_aload_n at_X6_all_21 rfl ?_
    refine E_iload_n at_X6_all_22 rfl ?_
    refine E_iload_n at_X6_all_23 rfl ?_
    refine E_callV (v := some (.int (nI 18))) (As := [.ref 65, .ref 68, .int (nI 9), .ref 87, .int (nI 9), .int (nI 1)]) (r0 := []) (cs2 := (ww im lf s d k ls rf rz ra rn rq lt m1 m2 m3 m4 bd fc hd sz el (qs_A (qs_K t (qK u)) (qA u)) g fm hm so si sh ce ca td wa kp la bf oo bo pw ow tr)) at_X6_all_24 rfl rfl (Nat.le_of_ble_eq_true rfl) rfl (ab_rvOf w65 rfl) ((mo_carBX (X := (qA u).map nI) (n := 9) (f := 9) (G := kp) (w68v qg_AK) w87 (by rw [List.length_map]; exact a2) lz (by omega) (by decide) (cA _ (by rw [List.length_map]; exact a2))).to w_pt65_A) (by decide) w_lens ?_
    refine E_istore_n (L2 := [some (.ref 65), some (.ref 87), some (.int (nI 1)), some (.int (nI 18))]) at_X6_all_27 rfl ?_
    refine E_aload_n at_X6_all_28 rfl ?_
    refine E_aload_n at_X6_all_29 rfl ?_
    refine E_getfield (v := .ref 69) at_X6_all_30 w65 rfl (by decide) rfl ?_
    refine E_bipush (x := nI 9) at_X6_all_33 (by decide) ?_
    refine E_aload_n at_X6_all_35 rfl ?_
    refine E_iload_n at_X6_all_36 rfl ?_
    refine E_iload_n at_X6_all_37 rfl ?_
    refine E_callV (v := some (.int (nI 27))) (As := [.ref 65, .ref 69, .int (nI 9), .ref 87, .int (nI 18), .int (nI 1)]) (r0 := []) (cs2 := (ww im lf s d k ls rf rz ra rn rq lt m1 m2 m3 m4 bd fc hd sz el (qs_B (qs_A (qs_K t (qK u)) (qA u)) (qB u)) g fm hm so si sh ce ca td wa kp la bf oo bo pw ow tr)) at_X6_all_38 rfl rfl (Nat.le_of_ble_eq_true rfl) rfl (ab_rvOf w65 rfl) ((mo_carBX (X := (qB u).map nI) (n := 9) (f := 18) (G := kp) (w69v (qg_BA.trans qg_BK)) w87 (by rw [List.length_map]; exact a3) lz (by omega) (by decide) (cB _ (by rw [List.length_map]; exact a3))).to w_pt65_B) (by decide) w_lens ?_
    refine E_istore_n (L2 := [some (.ref 65), some (.ref 87), some (.int (nI 1)), some (.int (nI 27))]) at_X6_all_41 rfl ?_
    refine E_aload_n at_X6_all_42 rfl ?_
    refine E_aload_n at_X6_all_43 rfl ?_
    refine E_getfield (v := .ref 70) at_X6_all_44 w65 rfl (by decide) rfl ?_
    refine E_bipush (x := nI 9) at_X6_all_47 (by decide) ?_
    refine E_aload_n at_X6_all_49 rfl ?_
    refine E_iload_n at_X6_all_50 rfl ?_
    refine E_iload_n at_X6_all_51 rfl ?_
    refine E_callV (v := some (.int (nI 36))) (As := [.ref 65, .ref 70, .int (nI 9), .ref 87, .int (nI 27), .int (nI 1)]) (r0 := []) (cs2 := (ww im lf s d k ls rf rz ra rn rq lt m1 m2 m3 m4 bd fc hd sz el (qs_P (qs_B (qs_A (qs_K t (qK u)) (qA u)) (qB u)) (qP u)) g fm hm so si sh ce ca td wa kp la bf oo bo pw ow tr)) at_X6_all_52 rfl rfl (Nat.le_of_ble_eq_true rfl) rfl (ab_rvOf w65 rfl) ((mo_carBX (X := (qP u).map nI) (n := 9) (f := 27) (G := kp) (w70v (qg_PB.trans (qg_PA.trans qg_PK))) w87 (by rw [List.length_map]; exact a4) lz (by omega) (by decide) (cP _ (by rw [List.length_map]; exact a4))).to w_pt65_P) (by decide) w_lens ?_
    refine E_istore_n (L2 := [some (.ref 65), some (.ref 87), some (.int (nI 1)), some (.int (nI 36))]) at_X6_all_55 rfl ?_
    refine E_aload_n at_X6_all_56 rfl ?_
    refine E_aload_n at_X6_all_57 rfl ?_
    refine E_getfield (v := .ref 71) at_X6_all_58 w65 rfl (by decide) rfl ?_
    refine E_bipush (x := nI 6) at_X6_all_61 (by decide) ?_
    refine E_aload_n at_X6_all_63 rfl ?_
    refine E_iload_n at_X6_all_64 rfl ?_
    refine E_iload_n at_X6_all_65 rfl ?_
    refine E_callV (v := some (.int (nI 42))) (As := [.ref 65, .ref 71, .int (nI 6), .ref 87, .int (nI 36), .int (nI 1)]) (r0 := []) (cs2 := (ww im lf s d k ls rf rz ra rn rq lt m1 m2 m3 m4 bd fc hd sz el (qs_U (qs_P (qs_B (qs_A (qs_K t (qK u)) (qA u)) (qB u)) (qP u)) (qU u)) g fm hm so si sh ce ca td wa kp la bf oo bo pw ow tr)) at_X6_all_66 rfl rfl (Nat.le_of_ble_eq_true rfl) rfl (ab_rvOf w65 rfl) ((mo_carBX (X := (qU u).map nI) (n := 6) (f := 36) (G := kp) (w71v (qg_UP.trans (qg_UB.trans (qg_UA.trans qg_UK)))) w87 (by rw [List.length_map]; exact a5) lz (by omega) (by decide) (cU _ (by rw [List.length_map]; exact a5))).to w_pt65_U) (by decide) w_lens ?_
    refine E_istore_n (L2 := [some (.ref 65), some (.ref 87), some (.int (nI 1)), some (.int (nI 42))]) at_X6_all_69 rfl ?_
    refine E_aload_n at_X6_all_70 rfl ?_
    refine E_aload_n at_X6_all_71 rfl ?_
    refine E_getfield (v := .ref 72) at_X6_all_72 w65 rfl (by decide) rfl ?_
    refine E_bipush (x := nI 6) at_X6_all_75 (by decide) ?_
    refine E_aload_n at_X6_all_77 rfl ?_
    refine E_iload_n at_X6_all_78 rfl ?_
    refine E_iload_n at_X6_all_79 rfl ?_
    refine E_callV (v := some (.int (nI 48))) (As := [.ref 65, .ref 72, .int (nI 6), .ref 87, .int (nI 42), .int (nI 1)]) (r0 := []) (cs2 := (ww im lf s d k ls rf rz ra rn rq lt m1 m2 m3 m4 bd fc hd sz el (qs_L (qs_U (qs_P (qs_B (qs_A (qs_K t (qK u)) (qA u)) (qB u)) (qP u)) (qU u)) (qL u)) g fm hm so si sh ce ca td wa kp la bf oo bo pw ow tr)) at_X6_all_80 rfl rfl (Nat.le_of_ble_eq_true rfl) rfl (ab_rvOf w65 rfl) ((mo_carBX (X := (qL u).map nI) (n := 6) (f := 42) (G := kp) (w72v (qg_LU.trans (qg_LP.trans (qg_LB.trans (qg_LA.trans qg_LK))))) w87 (by rw [List.length_map]; exact a6) lz (by omega) (by decide) (cL _ (by rw [List.length_map]; exact a6))).to w_pt65_L) (by decide) w_lens ?_
    refine E_istore_n (L2 := [some (.ref 65), some (.ref 87), some (.int (nI 1)), some (.int (nI 48))]) at_X6_all_83 rfl ?_
    refine E_aload_n at_X6_all_84 rfl ?_
    refine E_aload_n at_X6_all_85 rfl ?_
    refine E_getfield (v := .ref 73) at_X6_all_86 w65 rfl (by decide) rfl ?_
    refine E_bipush (x := nI 6) at_X6_all_89 (by decide) ?_
    refine E_aload_n at_X6_all_91 rfl ?_
    refine E_iload_n at_X6_all_92 rfl ?_
    refine E_iload_n at_X6_all_93 rfl ?_
    refine E_callV (v := some (.int (nI 54))) (As := [.ref 65, .ref 73, .int (nI 6), .ref 87, .int (nI 48), .int (nI 1)]) (r0 := []) (cs2 := (ww im lf s d k ls rf rz ra rn rq lt m1 m2 m3 m4 bd fc hd sz el (qs_W (qs_L (qs_U (qs_P (qs_B (qs_A (qs_K t (qK u)) (qA u)) (qB u)) (qP u)) (qU u)) (qL u)) (qW u)) g fm hm so si sh ce ca td wa kp la bf oo bo pw ow tr)) at_X6_all_94 rfl rfl (Nat.le_of_ble_eq_true rfl) rfl (ab_rvOf w65 rfl) ((mo_carBX (X := (qW u).map nI) (n := 6) (f := 48) (G := kp) (w73v (qg_WL.trans (qg_WU.trans (qg_WP.trans (qg_WB.trans (qg_WA.trans qg_WK)))))) w87 (by rw [List.length_map]; exact a7) lz (by omega) (by decide) (cW _ (by rw [List.length_map]; exact a7))).to w_pt65_W) (by decide) w_lens ?_
    refine E_istore_n (L2 := [some (.ref 65), some (.ref 87), some (.int (nI 1)), some (.int (nI 54))]) at_X6_all_97 rfl ?_
    refine E_aload_n at_X6_all_98 rfl ?_
    refine E_aload_n at_X6_all_99 rfl ?_
    refine E_getfield (v := .ref 74) at_X6_all_100 w65 rfl (by decide) rfl ?_
    refine E_bipush (x := nI 6) at_X6_all_103 (by decide) ?_
    refine E_aload_n at_X6_all_105 rfl ?_
    refine E_iload_n at_X6_all_106 rfl ?_
    refine E_iload_n at_X6_all_107 rfl ?_
    refine E_callV (v := some (.int (nI 60))) (As := [.ref 65, .ref 74, .int (nI 6), .ref 87, .int (nI 54), .int (nI 1)]) (r0 := []) (cs2 := (ww im lf s d k ls rf rz ra rn rq lt m1 m2 m3 m4 bd fc hd sz el (qs_G (qs_W (qs_L (qs_U (qs_P (qs_B (qs_A (qs_K t (qK u)) (qA u)) (qB u)) (qP u)) (qU u)) (qL u)) (qW u)) (qG u)) g fm hm so si sh ce ca td wa kp la bf oo bo pw ow tr)) at_X6_all_108 rfl rfl (Nat.le_of_ble_eq_true rfl) rfl (ab_rvOf w65 rfl) ((mo_carBX (X := qG u) (n := 6) (f := 54) (G := kp) (w74v (qg_GW.trans (qg_GL.trans (qg_GU.trans (qg_GP.trans (qg_GB.trans (qg_GA.trans qg_GK))))))) w87 (by exact a8) lz (by omega) (by decide) (cG _ (by exact a8))).to w_pt65_G) (by decide) w_lens ?_
    refine E_istore_n (L2 := [some (.ref 65), some (.ref 87), some (.int (nI 1)), some (.int (nI 60))]) at_X6_all_111 rfl ?_
    refine E_aload_n at_X6_all_112 rfl ?_
    refine E_aload_n at_X6_all_113 rfl ?_
    refine E_getfield (v := .ref 75) at_X6_all_114 w65 rfl (by decide) rfl ?_
    refine E_bipush (x := nI 8) at_X6_all_117 (by decide) ?_
    refine E_aload_n at_X6_all_119 rfl ?_
    refine E_iload_n at_X6_all_120 rfl ?_
    refine E_iload_n at_X6_all_121 rfl ?_
    refine E_callV (v := some (.int (nI 68))) (As := [.ref 65, .ref 75, .int (nI 8), .ref 87, .int (nI 60), .int (nI 1)]) (r0 := []) (cs2 := (ww im lf s d k ls rf rz ra rn rq lt m1 m2 m3 m4 bd fc hd sz el (qs_C (qs_G (qs_W (qs_L (qs_U (qs_P (qs_B (qs_A (qs_K t (qK u)) (qA u)) (qB u)) (qP u)) (qU u)) (qL u)) (qW u)) (qG u)) (qC u)) g fm hm so si sh ce ca td wa kp la bf oo bo pw ow tr)) at_X6_all_122 rfl rfl (Nat.le_of_ble_eq_true rfl) rfl (ab_rvOf w65 rfl) ((mo_carBX (X := (qC u).map nI) (n := 8) (f := 60) (G := kp) (w75v (qg_CG.trans (qg_CW.trans (qg_CL.trans (qg_CU.trans (qg_CP.trans (qg_CB.trans (qg_CA.trans qg_CK)))))))) w87 (by rw [List.length_map]; exact a9) lz (by omega) (by decide) (cC _ (by rw [List.length_map]; exact a9))).to w_pt65_C) (by decide) w_lens ?_
    refine E_istore_n (L2 := [some (.ref 65), some (.ref 87), some (.int (nI 1)), some (.int (nI 68))]) at_X6_all_125 rfl ?_
    refine E_iload_n at_X6_all_126 rfl ?_
    refine E_if (t := 185) (b := false) at_X6_all_127 rfl (by decide) ?_
    refine E_aload_n rfl rfl ?_
    refine E_aload_n rfl rfl ?_
    refine E_iload_n rfl rfl ?_
    refine E_ialI (l := kp) (v := nI (qN u)) rfl w87 (by omega) (by omega) g68 ?_
    refine E_putfield (cs2 := (ww im lf s d k ls rf rz ra rn rq lt m1 m2 m3 m4 bd fc hd sz el (qs_N (qs_C (qs_G (qs_W (qs_L (qs_U (qs_P (qs_B (qs_A (qs_K t (qK u)) (qA u)) (qB u)) (qP u)) (qU u)) (qL u)) (qW u)) (qG u)) (qC u)) (qN u)) g fm hm so si sh ce ca td wa kp la bf oo bo pw ow tr)) rfl w65 rfl (by decide) (Nat.le_of_ble_eq_true rfl) rfl rfl rfl w_pt65_N ?_
    refine E_aload_n rfl rfl ?_
    refine E_aload_n rfl rfl ?_
    refine E_iload_n rfl rfl ?_
    refine E_iconst (x := nI 1) rfl (by decide) ?_
    refine E_iadd (z := nI 69) rfl (by decide) ?_
    refine E_ialI (l := kp) (v := nI (qM u)) rfl w87 (by omega) (by omega) g69 ?_
    refine E_putfield (cs2 := (ww im lf s d k ls rf rz ra rn rq lt m1 m2 m3 m4 bd fc hd sz el (qs_M (qs_N (qs_C (qs_G (qs_W (qs_L (qs_U (qs_P (qs_B (qs_A (qs_K t (qK u)) (qA u)) (qB u)) (qP u)) (qU u)) (qL u)) (qW u)) (qG u)) (qC u)) (qN u)) (qM u)) g fm hm so si sh ce ca td wa kp la bf oo bo pw ow tr)) rfl w65 rfl (by decide) (Nat.le_of_ble_eq_true rfl) rfl rfl rfl w_pt65_M ?_
    refine E_aload_n rfl rfl ?_
    refine E_aload_n rfl rfl ?_
    refine E_iload_n rfl rfl ?_
    refine E_iconst (x := nI 2) rfl (by decide) ?_
    refine E_iadd (z := nI 70) rfl (by decide) ?_
    refine E_ialI (l := kp) (v := qR u) rfl w87 (by omega) (by omega) g70 ?_
    refine E_putfield (cs2 := (ww im lf s d k ls rf rz ra rn rq lt m1 m2 m3 m4 bd fc hd sz el (qs_R (qs_M (qs_N (qs_C (qs_G (qs_W (qs_L (qs_U (qs_P (qs_B (qs_A (qs_K t (qK u)) (qA u)) (qB u)) (qP u)) (qU u)) (qL u)) (qW u)) (qG u)) (qC u)) (qN u)) (qM u)) (qR u)) g fm hm so si sh ce ca td wa kp la bf oo bo pw ow tr)) rfl w65 rfl (by decide) (Nat.le_of_ble_eq_true rfl) rfl rfl rfl w_pt65_R ?_
    refine E_aload_n rfl rfl ?_
    refine E_aload_n rfl rfl ?_
    refine E_iload_n rfl rfl ?_
    refine E_iconst (x := nI 3) rfl (by decide) ?_
    refine E_iadd (z := nI 71) rfl (by decide) ?_
    refine E_ialI (l := kp) (v := qY u) rfl w87 (by omega) (by omega) g71 ?_
    refine E_putfield (cs2 := (ww im lf s d k ls rf rz ra rn rq lt m1 m2 m3 m4 bd fc hd sz el (qs_Y (qs_R (qs_M (qs_N (qs_C (qs_G (qs_W (qs_L (qs_U (qs_P (qs_B (qs_A (qs_K t (qK u)) (qA u)) (qB u)) (qP u)) (qU u)) (qL u)) (qW u)) (qG u)) (qC u)) (qN u)) (qM u)) (qR u)) (qY u)) g fm hm so si sh ce ca td wa kp la bf oo bo pw ow tr)) rfl w65 rfl (by decide) (Nat.le_of_ble_eq_true rfl) rfl rfl rfl w_pt65_Y ?_
    refine E_aload_n rfl rfl ?_
    refine E_aload_n rfl rfl ?_
    refine E_iload_n rfl rfl ?_
    refine E_iconst (x := nI 4) rfl (by decide) ?_
    refine E_iadd (z := nI 72) rfl (by decide) ?_
    refine E_ialI (l := kp) (v := qD u) rfl w87 (by omega) (by omega) g72 ?_
    refine E_putfield (cs2 := (ww im lf s d k ls rf rz ra rn rq lt m1 m2 m3 m4 bd fc hd sz el (qs_D (qs_Y (qs_R (qs_M (qs_N (qs_C (qs_G (qs_W (qs_L (qs_U (qs_P (qs_B (qs_A (qs_K t (qK u)) (qA u)) (qB u)) (qP u)) (qU u)) (qL u)) (qW u)) (qG u)) (qC u)) (qN u)) (qM u)) (qR u)) (qY u)) (qD u)) g fm hm so si sh ce ca td wa kp la bf oo bo pw ow tr)) rfl w65 rfl (by decide) (Nat.le_of_ble_eq_true rfl) rfl rfl rfl w_pt65_D ?_
    refine E_aload_n rfl rfl ?_
    refine E_aload_n rfl rfl ?_
    refine E_iload_n rfl rfl ?_
    refine E_iconst (x := nI 5) rfl (by decide) ?_
    refine E_iadd (z := nI 73) rfl (by decide) ?_
    refine E_ialI (l := kp) (v := qS u) rfl w87 (by omega) (by omega) g73 ?_
    refine E_putfield (cs2 := (ww im lf s d k ls rf rz ra rn rq lt m1 m2 m3 m4 bd fc hd sz el (qs_S (qs_D (qs_Y (qs_R (qs_M (qs_N (qs_C (qs_G (qs_W (qs_L (qs_U (qs_P (qs_B (qs_A (qs_K t (qK u)) (qA u)) (qB u)) (qP u)) (qU u)) (qL u)) (qW u)) (qG u)) (qC u)) (qN u)) (qM u)) (qR u)) (qY u)) (qD u)) (qS u)) g fm hm so si sh ce ca td wa kp la bf oo bo pw ow tr)) rfl w65 rfl (by decide) (Nat.le_of_ble_eq_true rfl) rfl rfl rfl w_pt65_S ?_
    refine E_goto (t := 237) rfl rfl ?_
    exact E_vret at_X6_all_237 rfl
  rw [qs_all] at X
  exact X
set_option maxHeartbeats 400000 in
theorem m_allO_88 (l : qLn t) (lg : la.length = 75) : Ev ab_Z0 2 164 [.ref 65, .ref 88, .int (nI 0)] (ww im lf s d k ls rf rz ra rn rq lt m1 m2 m3 m4 bd fc hd sz el t g fm hm so si sh ce ca td wa kp la bf oo bo pw ow tr) (none, (ww im lf s d k ls rf rz ra rn rq lt m1 m2 m3 m4 bd fc hd sz el t g fm hm so si sh ce ca td wa kp (qFn t la) bf oo bo pw ow tr)) := by
  obtain ⟨a1, a2, a3, a4, a5, a6, a7, a8, a9⟩ := id l
  show Ev ab_Z0 2 164 [.ref 65, .ref 88, .int (nI 0)] (ww im lf s d k ls rf rz ra rn rq lt m1 m2 m3 m4 bd fc hd sz el t g fm hm so si sh ce ca td wa kp la bf oo bo pw ow tr) (none, (ww im lf s d k ls rf rz ra rn rq lt m1 m2 m3 m4 bd fc hd sz el t g fm hm so si sh ce ca td wa kp (((((((ab_cp ((qC t).map nI) (ab_cp (qG t) (ab_cp ((qW t).map nI) (ab_cp ((qL t).map nI) (ab_cp ((qU t).map nI) (ab_cp ((qP t).map nI) (ab_cp ((qB t).map nI) (ab_cp ((qA t).map nI) (ab_cp ((qK t).map nI) la 0 0 9) 0 9 9) 0 18 9) 0 27 9) 0 36 6) 0 42 6) 0 48 6) 0 54 6) 0 60 8).set 68 (nI (qN t))).set 69 (nI (qM t))).set 70 (qR t)).set 71 (qY t)).set 72 (qD t)).set 73 (qS t)) bf oo bo pw ow tr))
  have lz0 : (ab_cp ((qK t).map nI) la 0 0 9).length = 75 := (ab_cpl (by rw [List.length_map]; omega) (by omega)).trans lg
  have lz9 : (ab_cp ((qA t).map nI) (ab_cp ((qK t).map nI) la 0 0 9) 0 9 9).length = 75 := (ab_cpl (by rw [List.length_map]; omega) (by omega)).trans lz0
  have lz18 : (ab_cp ((qB t).map nI) (ab_cp ((qA t).map nI) (ab_cp ((qK t).map nI) la 0 0 9) 0 9 9) 0 18 9).length = 75 := (ab_cpl (by rw [List.length_map]; omega) (by omega)).trans lz9
  have lz27 : (ab_cp ((qP t).map nI) (ab_cp ((qB t).map nI) (ab_cp ((qA t).map nI) (ab_cp ((qK t).map nI) la 0 0 9) 0 9 9) 0 18 9) 0 27 9).length = 75 := (ab_cpl (by rw [List.length_map]; omega) (by omega)).trans lz18
  have lz36 : (ab_cp ((qU t).map nI) (ab_cp ((qP t).map nI) (ab_cp ((qB t).map nI) (ab_cp ((qA t).map nI) (ab_cp ((qK t).map nI) la 0 0 9) 0 9 9) 0 18 9) 0 27 9) 0 36 6).length = 75 := (ab_cpl (by rw [List.length_map]; omega) (by omega)).trans lz27
  have lz42 : (ab_cp ((qL t).map nI) (ab_cp ((qU t).map nI) (ab_cp ((qP t).map nI) (ab_cp ((qB t).map nI) (ab_cp ((qA t).map nI) (ab_cp ((qK t).map nI) la 0 0 9) 0 9 9) 0 18 9) 0 27 9) 0 36 6) 0 42 6).length = 75 := (ab_cpl (by rw [List.length_map]; omega) (by omega)).trans lz36
  have lz48 : (ab_cp ((qW t).map nI) (ab_cp ((qL t).map nI) (ab_cp ((qU t).map nI) (ab_cp ((qP t).map nI) (ab_cp ((qB t).map nI) (ab_cp ((qA t).map nI) (ab_cp ((qK t).map nI) la 0 0 9) 0 9 9) 0 18 9) 0 27 9) 0 36 6) 0 42 6) 0 48 6).length = 75 := (ab_cpl (by rw [List.length_map]; omega) (by omega)).trans lz42
  have lz54 : (ab_cp (qG t) (ab_cp ((qW t).map nI) (ab_cp ((qL t).map nI) (ab_cp ((qU t).map nI) (ab_cp ((qP t).map nI) (ab_cp ((qB t).map nI) (ab_cp ((qA t).map nI) (ab_cp ((qK t).map nI) la 0 0 9) 0 9 9) 0 18 9) 0 27 9) 0 36 6) 0 42 6) 0 48 6) 0 54 6).length = 75 := (ab_cpl (by omega) (by omega)).trans lz48
  have lz60 : (ab_cp ((qC t).map nI) (ab_cp (qG t) (ab_cp ((qW t).map nI) (ab_cp ((qL t).map nI) (ab_cp ((qU t).map nI) (ab_cp ((qP t).map nI) (ab_cp ((qB t).map nI) (ab_cp ((qA t).map nI) (ab_cp ((qK t).map nI) la 0 0 9) 0 9 9) 0 18 9) 0 27 9) 0 36 6) 0 42 6) 0 48 6) 0 54 6) 0 60 8).length = 75 := (ab_cpl (by rw [List.length_map]; omega) (by omega)).trans lz54
  have : ((ab_cp ((qC t).map nI) (ab_cp (qG t) (ab_cp ((qW t).map nI) (ab_cp ((qL t).map nI) (ab_cp ((qU t).map nI) (ab_cp ((qP t).map nI) (ab_cp ((qB t).map nI) (ab_cp ((qA t).map nI) (ab_cp ((qK t).map nI) la 0 0 9) 0 9 9) 0 18 9) 0 27 9) 0 36 6) 0 42 6) 0 48 6) 0 54 6) 0 60 8).set 68 (nI (qN t))).length = 75 := by simp only [List.length_set]; exact lz60
  have : (((ab_cp ((qC t).map nI) (ab_cp (qG t) (ab_cp ((qW t).map nI) (ab_cp ((qL t).map nI) (ab_cp ((qU t).map nI) (ab_cp ((qP t).map nI) (ab_cp ((qB t).map nI) (ab_cp ((qA t).map nI) (ab_cp ((qK t).map nI) la 0 0 9) 0 9 9) 0 18 9) 0 27 9) 0 36 6) 0 42 6) 0 48 6) 0 54 6) 0 60 8).set 68 (nI (qN t))).set 69 (nI (qM t))).length = 75 := by simp only [List.length_set]; exact lz60
  have : ((((ab_cp ((qC t).map nI) (ab_cp (qG t) (ab_cp ((qW t).map nI) (ab_cp ((qL t).map nI) (ab_cp ((qU t).map nI) (ab_cp ((qP t).map nI) (ab_cp ((qB t).map nI) (ab_cp ((qA t).map nI) (ab_cp ((qK t).map nI) la 0 0 9) 0 9 9) 0 18 9) 0 27 9) 0 36 6) 0 42 6) 0 48 6) 0 54 6) 0 60 8).set 68 (nI (qN t))).set 69 (nI (qM t))).set 70 (qR t)).length = 75 := by simp only [List.length_set]; exact lz60
  have : (((((ab_cp ((qC t).map nI) (ab_cp (qG t) (ab_cp ((qW t).map nI) (ab_cp ((qL t).map nI) (ab_cp ((qU t).map nI) (ab_cp ((qP t).map nI) (ab_cp ((qB t).map nI) (ab_cp ((qA t).map nI) (ab_cp ((qK t).map nI) la 0 0 9) 0 9 9) 0 18 9) 0 27 9) 0 36 6) 0 42 6) 0 48 6) 0 54 6) 0 60 8).set 68 (nI (qN t))).set 69 (nI (qM t))).set 70 (qR t)).set 71 (qY t)).length = 75 := by simp only [List.length_set]; exact lz60
  have : ((((((ab_cp ((qC t).map nI) (ab_cp (qG t) (ab_cp ((qW t).map nI) (ab_cp ((qL t).map nI) (ab_cp ((qU t).map nI) (ab_cp ((qP t).map nI) (ab_cp ((qB t).map nI) (ab_cp ((qA t).map nI) (ab_cp ((qK t).map nI) la 0 0 9) 0 9 9) 0 18 9) 0 27 9) 0 36 6) 0 42 6) 0 48 6) 0 54 6) 0 60 8).set 68 (nI (qN t))).set 69 (nI (qM t))).set 70 (qR t)).set 71 (qY t)).set 72 (qD t)).length = 75 := by simp only [List.length_set]; exact lz60
  refine Ef.in (md := mX6_all) (L := [some (.ref 65), some (.ref 88), some (.int (nI 0)), none]) rfl (Nat.le_of_ble_eq_true rfl) rfl ?_
  refine E_aload_n at_X6_all_0 rfl ?_
  refine E_aload_n at_X6_all_1 rfl ?_
  refine E_getfield (v := .ref 67) at_X6_all_2 w65 rfl (by decide) rfl ?_
  refine E_bipush (x := nI 9) at_X6_all_5 (by decide) ?_
  refine E_aload_n at_X6_all_7 rfl ?_
  refine E_iconst (x := nI 0) at_X6_all_8 (by decide) ?_
  refine E_iload_n at_X6_all_9 rfl ?_
  refine E_callV (v := some (.int (nI 9))) (As := [.ref 65, .ref 67, .int (nI 9), .ref 88, .int (nI 0), .int (nI 0)]) (r0 := []) (cs2 := (ww im lf s d k ls rf rz ra rn rq lt m1 m2 m3 m4 bd fc hd sz el t g fm hm so si sh ce ca td wa kp (ab_cp ((qK t).map nI) la 0 0 9) bf oo bo pw ow tr)) at_X6_all_10 rfl rfl (Nat.le_of_ble_eq_true rfl) rfl (ab_rvOf w65 rfl) (mo_carO (F := (qK t).map nI) (G := la) w67 w88 (by rw [List.length_map]; omega) lg (by omega) (by decide)) (by decide) w_lens ?_
  refine E_istore_n (L2 := [some (.ref 65), some (.ref 88), some (.int (nI 0)), some (.int (nI 9))]) at_X6_all_13 rfl ?_
  refine E_aload_n at_X6_all_14 rfl ?_
  refine E_aload_n at_X6_all_15 rfl ?_
  refine E_getfield (v := .ref 68) at_X6_all_16 w65 rfl (by decide) rfl ?_
  refine E_bipush (x := nI 9) at_X6_all_19 (by decide) ?_
  refine E_aload_n at_X6_all_21 rfl ?_
  refine E_iload_n at_X6_all_22 rfl ?_
  refine E_iload_n at_X6_all_23 rfl ?_
  refine E_callV (v := some (.int (nI 18))) (As := [.ref 65, .ref 68, .int (nI 9), .ref 88, .int (nI 9), .int (nI 0)]) (r0 := []) (cs2 := (ww im lf s d k ls rf rz ra rn rq lt m1 m2 m3 m4 bd fc hd sz el t g fm hm so si sh ce ca td wa kp (ab_cp ((qA t).map nI) (ab_cp ((qK t).map nI) la 0 0 9) 0 9 9) bf oo bo pw ow tr)) at_X6_all_24 rfl rfl (Nat.le_of_ble_eq_true rfl) rfl (ab_rvOf w65 rfl) (mo_carO (F := (qA t).map nI) (G := (ab_cp ((qK t).map nI) la 0 0 9)) w68 w88 (by rw [List.length_map]; omega) lz0 (by omega) (by decide)) (by decide) w_lens ?_
  refine E_istore_n (L2 := [some (.ref 65), some (.ref 88), some (.int (nI 0)), some (.int (nI 18))]) at_X6_all_27 rfl ?_
  refine E_aload_n at_X6_all_28 rfl ?_
  refine E_aload_n at_X6_all_29 rfl ?_
  refine E_getfield (v := .ref 69) at_X6_all_30 w65 rfl (by decide) rfl ?_
  refine E_bipush (x := nI 9) at_X6_all_33 (by decide) ?_
  refine E_aload_n at_X6_all_35 rfl ?_
  refine E_iload_n at_X6_all_36 rfl ?_
  refine E_iload_n at_X6_all_37 rfl ?_
  refine E_callV (v := some (.int (nI 27))) (As := [.ref 65, .ref 69, .int (nI 9), .ref 88, .int (nI 18), .int (nI 0)]) (r0 := []) (cs2 := (ww im lf s d k ls rf rz ra rn rq lt m1 m2 m3 m4 bd fc hd sz el t g fm hm so si sh ce ca td wa kp (ab_cp ((qB t).map nI) (ab_cp ((qA t).map nI) (ab_cp ((qK t).map nI) la 0 0 9) 0 9 9) 0 18 9) bf oo bo pw ow tr)) at_X6_all_38 rfl rfl (Nat.le_of_ble_eq_true rfl) rfl (ab_rvOf w65 rfl) (mo_carO (F := (qB t).map nI) (G := (ab_cp ((qA t).map nI) (ab_cp ((qK t).map nI) la 0 0 9) 0 9 9)) w69 w88 (by rw [List.length_map]; omega) lz9 (by omega) (by decide)) (by decide) w_lens ?_
  refine E_istore_n (L2 := [some (.ref 65), some (.ref 88), some (.int (nI 0)), some (.int (nI 27))]) at_X6_all_41 rfl ?_
  refine E_aload_n at_X6_all_42 rfl ?_
  refine E_aload_n at_X6_all_43 rfl ?_
  refine E_getfield (v := .ref 70) at_X6_all_44 w65 rfl (by decide) rfl ?_
  refine E_bipush (x := nI 9) at_X6_all_47 (by decide) ?_
  refine E_aload_n at_X6_all_49 rfl ?_
  refine E_iload_n at_X6_all_50 rfl ?_
  refine E_iload_n at_X6_all_51 rfl ?_
  refine E_callV (v := some (.int (nI 36))) (As := [.ref 65, .ref 70, .int (nI 9), .ref 88, .int (nI 27), .int (nI 0)]) (r0 := []) (cs2 := (ww im lf s d k ls rf rz ra rn rq lt m1 m2 m3 m4 bd fc hd sz el t g fm hm so si sh ce ca td wa kp (ab_cp ((qP t).map nI) (ab_cp ((qB t).map nI) (ab_cp ((qA t).map nI) (ab_cp ((qK t).map nI) la 0 0 9) 0 9 9) 0 18 9) 0 27 9) bf oo bo pw ow tr)) at_X6_all_52 rfl rfl (Nat.le_of_ble_eq_true rfl) rfl (ab_rvOf w65 rfl) (mo_carO (F := (qP t).map nI) (G := (ab_cp ((qB t).map nI) (ab_cp ((qA t).map nI) (ab_cp ((qK t).map nI) la 0 0 9) 0 9 9) 0 18 9)) w70 w88 (by rw [List.length_map]; omega) lz18 (by omega) (by decide)) (by decide) w_lens ?_
  refine E_istore_n (L2 := [some (.ref 65), some (.ref 88), some (.int (nI 0)), some (.int (nI 36))]) at_X6_all_55 rfl ?_
  refine E_aload_n at_X6_all_56 rfl ?_
  refine E_aload_n at_X6_all_57 rfl ?_
  refine E_getfield (v := .ref 71) at_X6_all_58 w65 rfl (by decide) rfl ?_
  refine E_bipush (x := nI 6) at_X6_all_61 (by decide) ?_
  refine E_aload_n at_X6_all_63 rfl ?_
  refine E_iload_n at_X6_all_64 rfl ?_
  refine E_iload_n at_X6_all_65 rfl ?_
  refine E_callV (v := some (.int (nI 42))) (As := [.ref 65, .ref 71, .int (nI 6), .ref 88, .int (nI 36), .int (nI 0)]) (r0 := []) (cs2 := (ww im lf s d k ls rf rz ra rn rq lt m1 m2 m3 m4 bd fc hd sz el t g fm hm so si sh ce ca td wa kp (ab_cp ((qU t).map nI) (ab_cp ((qP t).map nI) (ab_cp ((qB t).map nI) (ab_cp ((qA t).map nI) (ab_cp ((qK t).map nI) la 0 0 9) 0 9 9) 0 18 9) 0 27 9) 0 36 6) bf oo bo pw ow tr)) at_X6_all_66 rfl rfl (Nat.le_of_ble_eq_true rfl) rfl (ab_rvOf w65 rfl) (mo_carO (F := (qU t).map nI) (G := (ab_cp ((qP t).map nI) (ab_cp ((qB t).map nI) (ab_cp ((qA t).map nI) (ab_cp ((qK t).map nI) la 0 0 9) 0 9 9) 0 18 9) 0 27 9)) w71 w88 (by rw [List.length_map]; omega) lz27 (by omega) (by decide)) (by decide) w_lens ?_
  refine E_istore_n (L2 := [some (.ref 65), some (.ref 88), some (.int (nI 0)), some (.int (nI 42))]) at_X6_all_69 rfl ?_
  refine E_aload_n at_X6_all_70 rfl ?_
  refine E_aload_n at_X6_all_71 rfl ?_
  refine E_getfield (v := .ref 72) at_X6_all_72 w65 rfl (by decide) rfl ?_
  refine E_bipush (x := nI 6) at_X6_all_75 (by decide) ?_
  refine E_aload_n at_X6_all_77 rfl ?_
  refine E_iload_n at_X6_all_78 rfl ?_
  refine E_iload_n at_X6_all_79 rfl ?_
  refine E_callV (v := some (.int (nI 48))) (As := [.ref 65, .ref 72, .int (nI 6), .ref 88, .int (nI 42), .int (nI 0)]) (r0 := []) (cs2 := (ww im lf s d k ls rf rz ra rn rq lt m1 m2 m3 m4 bd fc hd sz el t g fm hm so si sh ce ca td wa kp (ab_cp ((qL t).map nI) (ab_cp ((qU t).map nI) (ab_cp ((qP t).map nI) (ab_cp ((qB t).map nI) (ab_cp ((qA t).map nI) (ab_cp ((qK t).map nI) la 0 0 9) 0 9 9) 0 18 9) 0 27 9) 0 36 6) 0 42 6) bf oo bo pw ow tr)) at_X6_all_80 rfl rfl (Nat.le_of_ble_eq_true rfl) rfl (ab_rvOf w65 rfl) (mo_carO (F := (qL t).map nI) (G := (ab_cp ((qU t).map nI) (ab_cp ((qP t).map nI) (ab_cp ((qB t).map nI) (ab_cp ((qA t).map nI) (ab_cp ((qK t).map nI) la 0 0 9) 0 9 9) 0 18 9) 0 27 9) 0 36 6)) w72 w88 (by rw [List.length_map]; omega) lz36 (by omega) (by decide)) (by decide) w_lens ?_
  refine E_istore_n (L2 := [some (.ref 65), some (.ref 88), some (.int (nI 0)), some (.int (nI 48))]) at_X6_all_83 rfl ?_
  refine E_aload_n at_X6_all_84 rfl ?_
  refine E_aload_n at_X6_all_85 rfl ?_
  refine E_getfield (v := .ref 73) at_X6_all_86 w65 rfl (by decide) rfl ?_
  refine E_bipush (x := nI 6) at_X6_all_89 (by decide) ?_
  refine E_aload_n at_X6_all_91 rfl ?_
  refine E_iload_n at_X6_all_92 rfl ?_
  refine E_iload_n at_X6_all_93 rfl ?_
  refine E_callV (v := some (.int (nI 54))) (As := [.ref 65, .ref 73, .int (nI 6), .ref 88, .int (nI 48), .int (nI 0)]) (r0 := []) (cs2 := (ww im lf s d k ls rf rz ra rn rq lt m1 m2 m3 m4 bd fc hd sz el t g fm hm so si sh ce ca td wa kp (ab_cp ((qW t).map nI) (ab_cp ((qL t).map nI) (ab_cp ((qU t).map nI) (ab_cp ((qP t).map nI) (ab_cp ((qB t).map nI) (ab_cp ((qA t).map nI) (ab_cp ((qK t).map nI) la 0 0 9) 0 9 9) 0 18 9) 0 27 9) 0 36 6) 0 42 6) 0 48 6) bf oo bo pw ow tr)) at_X6_all_94 rfl rfl (Nat.le_of_ble_eq_true rfl) rfl (ab_rvOf w65 rfl) (mo_carO (F := (qW t).map nI) (G := (ab_cp ((qL t).map nI) (ab_cp ((qU t).map nI) (ab_cp ((qP t).map nI) (ab_cp ((qB t).map nI) (ab_cp ((qA t).map nI) (ab_cp ((qK t).map nI) la 0 0 9) 0 9 9) 0 18 9) 0 27 9) 0 36 6) 0 42 6)) w73 w88 (by rw [List.length_map]; omega) lz42 (by omega) (by decide)) (by decide) w_lens ?_
  refine E_istore_n (L2 := [some (.ref 65), some (.ref 88), some (.int (nI 0)), some (.int (nI 54))]) at_X6_all_97 rfl ?_
  refine E_aload_n at_X6_all_98 rfl ?_
  refine E_aload_n at_X6_all_99 rfl ?_
  refine E_getfield (v := .ref 74) at_X6_all_100 w65 rfl (by decide) rfl ?_
  refine E_bipush (x := nI 6) at_X6_all_103 (by decide) ?_
  refine E_aload_n at_X6_all_105 rfl ?_
  refine E_iload_n at_X6_all_106 rfl ?_
  refine E_iload_n at_X6_all_107 rfl ?_
  refine E_callV (v := some (.int (nI 60))) (As := [.ref 65, .ref 74, .int (nI 6), .ref 88, .int (nI 54), .int (nI 0)]) (r0 := []) (cs2 := (ww im lf s d k ls rf rz ra rn rq lt m1 m2 m3 m4 bd fc hd sz el t g fm hm so si sh ce ca td wa kp (ab_cp (qG t) (ab_cp ((qW t).map nI) (ab_cp ((qL t).map nI) (ab_cp ((qU t).map nI) (ab_cp ((qP t).map nI) (ab_cp ((qB t).map nI) (ab_cp ((qA t).map nI) (ab_cp ((qK t).map nI) la 0 0 9) 0 9 9) 0 18 9) 0 27 9) 0 36 6) 0 42 6) 0 48 6) 0 54 6) bf oo bo pw ow tr)) at_X6_all_108 rfl rfl (Nat.le_of_ble_eq_true rfl) rfl (ab_rvOf w65 rfl) (mo_carO (F := qG t) (G := (ab_cp ((qW t).map nI) (ab_cp ((qL t).map nI) (ab_cp ((qU t).map nI) (ab_cp ((qP t).map nI) (ab_cp ((qB t).map nI) (ab_cp ((qA t).map nI) (ab_cp ((qK t).map nI) la 0 0 9) 0 9 9) 0 18 9) 0 27 9) 0 36 6) 0 42 6) 0 48 6)) w74 w88 (by omega) lz48 (by omega) (by decide)) (by decide) w_lens ?_
  refine E_istore_n (L2 := [some (.ref 65), some (.ref 88), some (.int (nI 0)), some (.int (nI 60))]) at_X6_all_111 rfl ?_
  refine E_aload_n at_X6_all_112 rfl ?_
  refine E_aload_n at_X6_all_113 rfl ?_
  refine E_getfield (v := .ref 75) at_X6_all_114 w65 rfl (by decide) rfl ?_
  refine E_bipush (x := nI 8) at_X6_all_117 (by decide) ?_
  refine E_aload_n at_X6_all_119 rfl ?_
  refine E_iload_n at_X6_all_120 rfl ?_
  refine E_iload_n at_X6_all_121 rfl ?_
  refine E_callV (v := some (.int (nI 68))) (As := [.ref 65, .ref 75, .int (nI 8), .ref 88, .int (nI 60), .int (nI 0)]) (r0 := []) (cs2 := (ww im lf s d k ls rf rz ra rn rq lt m1 m2 m3 m4 bd fc hd sz el t g fm hm so si sh ce ca td wa kp (ab_cp ((qC t).map nI) (ab_cp (qG t) (ab_cp ((qW t).map nI) (ab_cp ((qL t).map nI) (ab_cp ((qU t).map nI) (ab_cp ((qP t).map nI) (ab_cp ((qB t).map nI) (ab_cp ((qA t).map nI) (ab_cp ((qK t).map nI) la 0 0 9) 0 9 9) 0 18 9) 0 27 9) 0 36 6) 0 42 6) 0 48 6) 0 54 6) 0 60 8) bf oo bo pw ow tr)) at_X6_all_122 rfl rfl (Nat.le_of_ble_eq_true rfl) rfl (ab_rvOf w65 rfl) (mo_carO (F := (qC t).map nI) (G := (ab_cp (qG t) (ab_cp ((qW t).map nI) (ab_cp ((qL t).map nI) (ab_cp ((qU t).map nI) (ab_cp ((qP t).map nI) (ab_cp ((qB t).map nI) (ab_cp ((qA t).map nI) (ab_cp ((qK t).map nI) la 0 0 9) 0 9 9) 0 18 9) 0 27 9) 0 36 6) 0 42 6) 0 48 6) 0 54 6)) w75 w88 (by rw [List.length_map]; omega) lz54 (by omega) (by decide)) (by decide) w_lens ?_
  refine E_istore_n (L2 := [some (.ref 65), some (.ref 88), some (.int (nI 0)), some (.int (nI 68))]) at_X6_all_125 rfl ?_
  refine E_iload_n at_X6_all_126 rfl ?_
  refine E_if (t := 185) (b := true) at_X6_all_127 rfl (by decide) ?_
  refine E_aload_n rfl rfl ?_
  refine E_iload_n rfl rfl ?_
  refine E_aload_n rfl rfl ?_
  refine E_getfield (v := .int (nI (qN t))) rfl w65 rfl (by decide) rfl ?_
  refine E_iasI (l := (ab_cp ((qC t).map nI) (ab_cp (qG t) (ab_cp ((qW t).map nI) (ab_cp ((qL t).map nI) (ab_cp ((qU t).map nI) (ab_cp ((qP t).map nI) (ab_cp ((qB t).map nI) (ab_cp ((qA t).map nI) (ab_cp ((qK t).map nI) la 0 0 9) 0 9 9) 0 18 9) 0 27 9) 0 36 6) 0 42 6) 0 48 6) 0 54 6) 0 60 8)) (cs2 := (ww im lf s d k ls rf rz ra rn rq lt m1 m2 m3 m4 bd fc hd sz el t g fm hm so si sh ce ca td wa kp ((ab_cp ((qC t).map nI) (ab_cp (qG t) (ab_cp ((qW t).map nI) (ab_cp ((qL t).map nI) (ab_cp ((qU t).map nI) (ab_cp ((qP t).map nI) (ab_cp ((qB t).map nI) (ab_cp ((qA t).map nI) (ab_cp ((qK t).map nI) la 0 0 9) 0 9 9) 0 18 9) 0 27 9) 0 36 6) 0 42 6) 0 48 6) 0 54 6) 0 60 8).set 68 (nI (qN t))) bf oo bo pw ow tr)) rfl w88 (by omega) (by omega) rfl ?_
  refine E_aload_n rfl rfl ?_
  refine E_iload_n rfl rfl ?_
  refine E_iconst (x := nI 1) rfl (by decide) ?_
  refine E_iadd (z := nI 69) rfl (by decide) ?_
  refine E_aload_n rfl rfl ?_
  refine E_getfield (v := .int (nI (qM t))) rfl w65 rfl (by decide) rfl ?_
  refine E_iasI (l := (ab_cp ((qC t).map nI) (ab_cp (qG t) (ab_cp ((qW t).map nI) (ab_cp ((qL t).map nI) (ab_cp ((qU t).map nI) (ab_cp ((qP t).map nI) (ab_cp ((qB t).map nI) (ab_cp ((qA t).map nI) (ab_cp ((qK t).map nI) la 0 0 9) 0 9 9) 0 18 9) 0 27 9) 0 36 6) 0 42 6) 0 48 6) 0 54 6) 0 60 8).set 68 (nI (qN t))) (cs2 := (ww im lf s d k ls rf rz ra rn rq lt m1 m2 m3 m4 bd fc hd sz el t g fm hm so si sh ce ca td wa kp (((ab_cp ((qC t).map nI) (ab_cp (qG t) (ab_cp ((qW t).map nI) (ab_cp ((qL t).map nI) (ab_cp ((qU t).map nI) (ab_cp ((qP t).map nI) (ab_cp ((qB t).map nI) (ab_cp ((qA t).map nI) (ab_cp ((qK t).map nI) la 0 0 9) 0 9 9) 0 18 9) 0 27 9) 0 36 6) 0 42 6) 0 48 6) 0 54 6) 0 60 8).set 68 (nI (qN t))).set 69 (nI (qM t))) bf oo bo pw ow tr)) rfl w88 (by omega) (by omega) rfl ?_
  refine E_aload_n rfl rfl ?_
  refine E_iload_n rfl rfl ?_
  refine E_iconst (x := nI 2) rfl (by decide) ?_
  refine E_iadd (z := nI 70) rfl (by decide) ?_
  refine E_aload_n rfl rfl ?_
  refine E_getfield (v := .int (qR t)) rfl w65 rfl (by decide) rfl ?_
  refine E_iasI (l := ((ab_cp ((qC t).map nI) (ab_cp (qG t) (ab_cp ((qW t).map nI) (ab_cp ((qL t).map nI) (ab_cp ((qU t).map nI) (ab_cp ((qP t).map nI) (ab_cp ((qB t).map nI) (ab_cp ((qA t).map nI) (ab_cp ((qK t).map nI) la 0 0 9) 0 9 9) 0 18 9) 0 27 9) 0 36 6) 0 42 6) 0 48 6) 0 54 6) 0 60 8).set 68 (nI (qN t))).set 69 (nI (qM t))) (cs2 := (ww im lf s d k ls rf rz ra rn rq lt m1 m2 m3 m4 bd fc hd sz el t g fm hm so si sh ce ca td wa kp ((((ab_cp ((qC t).map nI) (ab_cp (qG t) (ab_cp ((qW t).map nI) (ab_cp ((qL t).map nI) (ab_cp ((qU t).map nI) (ab_cp ((qP t).map nI) (ab_cp ((qB t).map nI) (ab_cp ((qA t).map nI) (ab_cp ((qK t).map nI) la 0 0 9) 0 9 9) 0 18 9) 0 27 9) 0 36 6) 0 42 6) 0 48 6) 0 54 6) 0 60 8).set 68 (nI (qN t))).set 69 (nI (qM t))).set 70 (qR t)) bf oo bo pw ow tr)) rfl w88 (by omega) (by omega) rfl ?_
  refine E_aload_n rfl rfl ?_
  refine E_iload_n rfl rfl ?_
  refine E_iconst (x := nI 3) rfl (by decide) ?_
  refine E_iadd (z := nI 71) rfl (by decide) ?_
  refine E_aload_n rfl rfl ?_
  refine E_getfield (v := .int (qY t)) rfl w65 rfl (by decide) rfl ?_
  refine E_iasI (l := (((ab_cp ((qC t).map nI) (ab_cp (qG t) (ab_cp ((qW t).map nI) (ab_cp ((qL t).map nI) (ab_cp ((qU t).map nI) (ab_cp ((qP t).map nI) (ab_cp ((qB t).map nI) (ab_cp ((qA t).map nI) (ab_cp ((qK t).map nI) la 0 0 9) 0 9 9) 0 18 9) 0 27 9) 0 36 6) 0 42 6) 0 48 6) 0 54 6) 0 60 8).set 68 (nI (qN t))).set 69 (nI (qM t))).set 70 (qR t)) (cs2 := (ww im lf s d k ls rf rz ra rn rq lt m1 m2 m3 m4 bd fc hd sz el t g fm hm so si sh ce ca td wa kp (((((ab_cp ((qC t).map nI) (ab_cp (qG t) (ab_cp ((qW t).map nI) (ab_cp ((qL t).map nI) (ab_cp ((qU t).map nI) (ab_cp ((qP t).map nI) (ab_cp ((qB t).map nI) (ab_cp ((qA t).map nI) (ab_cp ((qK t).map nI) la 0 0 9) 0 9 9) 0 18 9) 0 27 9) 0 36 6) 0 42 6) 0 48 6) 0 54 6) 0 60 8).set 68 (nI (qN t))).set 69 (nI (qM t))).set 70 (qR t)).set 71 (qY t)) bf oo bo pw ow tr)) rfl w88 (by omega) (by omega) rfl ?_
  refine E_aload_n rfl rfl ?_
  refine E_iload_n rfl rfl ?_
  refine E_iconst (x := nI 4) rfl (by decide) ?_
  refine E_iadd (z := nI 72) rfl (by decide) ?_
  refine E_aload_n rfl rfl ?_
  refine E_getfield (v := .int (qD t)) rfl w65 rfl (by decide) rfl ?_
  refine E_iasI (l := ((((ab_cp ((qC t).map nI) (ab_cp (qG t) (ab_cp ((qW t).map nI) (ab_cp ((qL t).map nI) (ab_cp ((qU t).map nI) (ab_cp ((qP t).map nI) (ab_cp ((qB t).map nI) (ab_cp ((qA t).map nI) (ab_cp ((qK t).map nI) la 0 0 9) 0 9 9) 0 18 9) 0 27 9) 0 36 6) 0 42 6) 0 48 6) 0 54 6) 0 60 8).set 68 (nI (qN t))).set 69 (nI (qM t))).set 70 (qR t)).set 71 (qY t)) (cs2 := (ww im lf s d k ls rf rz ra rn rq lt m1 m2 m3 m4 bd fc hd sz el t g fm hm so si sh ce ca td wa kp ((((((ab_cp ((qC t).map nI) (ab_cp (qG t) (ab_cp ((qW t).map nI) (ab_cp ((qL t).map nI) (ab_cp ((qU t).map nI) (ab_cp ((qP t).map nI) (ab_cp ((qB t).map nI) (ab_cp ((qA t).map nI) (ab_cp ((qK t).map nI) la 0 0 9) 0 9 9) 0 18 9) 0 27 9) 0 36 6) 0 42 6) 0 48 6) 0 54 6) 0 60 8).set 68 (nI (qN t))).set 69 (nI (qM t))).set 70 (qR t)).set 71 (qY t)).set 72 (qD t)) bf oo bo pw ow tr)) rfl w88 (by omega) (by omega) rfl ?_
  refine E_aload_n rfl rfl ?_
  refine E_iload_n rfl rfl ?_
  refine E_iconst (x := nI 5) rfl (by decide) ?_
  refine E_iadd (z := nI 73) rfl (by decide) ?_
  refine E_aload_n rfl rfl ?_
  refine E_getfield (v := .int (qS t)) rfl w65 rfl (by decide) rfl ?_
  refine E_iasI (l := (((((ab_cp ((qC t).map nI) (ab_cp (qG t) (ab_cp ((qW t).map nI) (ab_cp ((qL t).map nI) (ab_cp ((qU t).map nI) (ab_cp ((qP t).map nI) (ab_cp ((qB t).map nI) (ab_cp ((qA t).map nI) (ab_cp ((qK t).map nI) la 0 0 9) 0 9 9) 0 18 9) 0 27 9) 0 36 6) 0 42 6) 0 48 6) 0 54 6) 0 60 8).set 68 (nI (qN t))).set 69 (nI (qM t))).set 70 (qR t)).set 71 (qY t)).set 72 (qD t)) (cs2 := (ww im lf s d k ls rf rz ra rn rq lt m1 m2 m3 m4 bd fc hd sz el t g fm hm so si sh ce ca td wa kp (((((((ab_cp ((qC t).map nI) (ab_cp (qG t) (ab_cp ((qW t).map nI) (ab_cp ((qL t).map nI) (ab_cp ((qU t).map nI) (ab_cp ((qP t).map nI) (ab_cp ((qB t).map nI) (ab_cp ((qA t).map nI) (ab_cp ((qK t).map nI) la 0 0 9) 0 9 9) 0 18 9) 0 27 9) 0 36 6) 0 42 6) 0 48 6) 0 54 6) 0 60 8).set 68 (nI (qN t))).set 69 (nI (qM t))).set 70 (qR t)).set 71 (qY t)).set 72 (qD t)).set 73 (qS t)) bf oo bo pw ow tr)) rfl w88 (by omega) (by omega) rfl ?_
  exact E_vret at_X6_all_237 rfl
set_option maxHeartbeats 400000 in
theorem m_allB_88 {u : ab_q} {e : List Int32} (l : qLn t) (lu : qLn u) (lg : e.length = 75) (hq : la = qFn u e) : Ev ab_Z0 2 164 [.ref 65, .ref 88, .int (nI 1)] (ww im lf s d k ls rf rz ra rn rq lt m1 m2 m3 m4 bd fc hd sz el t g fm hm so si sh ce ca td wa kp la bf oo bo pw ow tr) (none, (ww im lf s d k ls rf rz ra rn rq lt m1 m2 m3 m4 bd fc hd sz el u g fm hm so si sh ce ca td wa kp la bf oo bo pw ow tr)) := by
  obtain ⟨a1, a2, a3, a4, a5, a6, a7, a8, a9⟩ := id l
  have cK : ∀ f : List Int32, f.length = 9 → ab_cp (qFn u e) f 0 0 9 = (qK u).map nI := fun f hf => qFn_K lu lg hf
  have cA : ∀ f : List Int32, f.length = 9 → ab_cp (qFn u e) f 9 0 9 = (qA u).map nI := fun f hf => qFn_A lu lg hf
  have cB : ∀ f : List Int32, f.length = 9 → ab_cp (qFn u e) f 18 0 9 = (qB u).map nI := fun f hf => qFn_B lu lg hf
  have cP : ∀ f : List Int32, f.length = 9 → ab_cp (qFn u e) f 27 0 9 = (qP u).map nI := fun f hf => qFn_P lu lg hf
  have cU : ∀ f : List Int32, f.length = 6 → ab_cp (qFn u e) f 36 0 6 = (qU u).map nI := fun f hf => qFn_U lu lg hf
  have cL : ∀ f : List Int32, f.length = 6 → ab_cp (qFn u e) f 42 0 6 = (qL u).map nI := fun f hf => qFn_L lu lg hf
  have cW : ∀ f : List Int32, f.length = 6 → ab_cp (qFn u e) f 48 0 6 = (qW u).map nI := fun f hf => qFn_W lu lg hf
  have cG : ∀ f : List Int32, f.length = 6 → ab_cp (qFn u e) f 54 0 6 = qG u := fun f hf => qFn_G lu lg hf
  have cC : ∀ f : List Int32, f.length = 8 → ab_cp (qFn u e) f 60 0 8 = (qC u).map nI := fun f hf => qFn_C lu lg hf
  have g68 : (qFn u e).getD 68 0 = nI (qN u) := qFn_68 lu lg
  have g69 : (qFn u e).getD 69 0 = nI (qM u) := qFn_69 lu lg
  have g70 : (qFn u e).getD 70 0 = qR u := qFn_70 lu lg
  have g71 : (qFn u e).getD 71 0 = qY u := qFn_71 lu lg
  have g72 : (qFn u e).getD 72 0 = qD u := qFn_72 lu lg
  have g73 : (qFn u e).getD 73 0 = qS u := qFn_73 lu lg
  have lz : (qFn u e).length = 75 := qFn_len lu lg
  rw [← hq] at lz g68 g69 g70 g71 g72 g73
  rw [← hq] at cK
  rw [← hq] at cA
  rw [← hq] at cB
  rw [← hq] at cP
  rw [← hq] at cU
  rw [← hq] at cL
  rw [← hq] at cW
  rw [← hq] at cG
  rw [← hq] at cC
  clear hq
  have X : Ev ab_Z0 2 164 [.ref 65, .ref 88, .int (nI 1)] (ww im lf s d k ls rf rz ra rn rq lt m1 m2 m3 m4 bd fc hd sz el t g fm hm so si sh ce ca td wa kp la bf oo bo pw ow tr) (none, (ww im lf s d k ls rf rz ra rn rq lt m1 m2 m3 m4 bd fc hd sz el (qs_S (qs_D (qs_Y (qs_R (qs_M (qs_N (qs_C (qs_G (qs_W (qs_L (qs_U (qs_P (qs_B (qs_A (qs_K t (qK u)) (qA u)) (qB u)) (qP u)) (qU u)) (qL u)) (qW u)) (qG u)) (qC u)) (qN u)) (qM u)) (qR u)) (qY u)) (qD u)) (qS u)) g fm hm so si sh ce ca td wa kp la bf oo bo pw ow tr)) := by
    refine Ef.in (md := mX6_all) (L := [some (.ref 65), some (.ref 88), some (.int (nI 1)), none]) rfl (Nat.le_of_ble_eq_true rfl) rfl ?_
    refine E_aload_n at_X6_all_0 rfl ?_
    refine E_aload_n at_X6_all_1 rfl ?_
    refine E_getfield (v := .ref 67) at_X6_all_2 w65 rfl (by decide) rfl ?_
    refine E_bipush (x := nI 9) at_X6_all_5 (by decide) ?_
    refine E_aload_n at_X6_all_7 rfl ?_
    refine E_iconst (x := nI 0) at_X6_all_8 (by decide) ?_
    refine E_iload_n at_X6_all_9 rfl ?_
    refine E_callV (v := some (.int (nI 9))) (As := [.ref 65, .ref 67, .int (nI 9), .ref 88, .int (nI 0), .int (nI 1)]) (r0 := []) (cs2 := (ww im lf s d k ls rf rz ra rn rq lt m1 m2 m3 m4 bd fc hd sz el (qs_K t (qK u)) g fm hm so si sh ce ca td wa kp la bf oo bo pw ow tr)) at_X6_all_10 rfl rfl (Nat.le_of_ble_eq_true rfl) rfl (ab_rvOf w65 rfl) ((mo_carBX (X := (qK u).map nI) (n := 9) (f := 0) (G := la) w67 w88 (by rw [List.length_map]; exact a1) lz (by omega) (by decide) (cK _ (by rw [List.length_map]; exact a1))).to w_pt65_K) (by decide) w_lens ?_
    refine E_istore_n (L2 := [some (.ref 65), some (.ref 88), some (.int (nI 1)), some (.int (nI 9))]) at_X6_all_13 rfl ?_
    refine E_aload_n at_X6_all_14 rfl ?_
    refine E_aload_n at_X6_all_15 rfl ?_
    refine E_getfield (v := .ref 68) at_X6_all_16 w65 rfl (by decide) rfl ?_
    refine E_bipush (x := nI 9) at_X6_all_19 (by decide) ?_
    refine E_aload_n at_X6_all_21 rfl ?_
    refine E_iload_n at_X6_all_22 rfl ?_
    refine E_iload_n at_X6_all_23 rfl ?_
    refine E_callV (v := some (.int (nI 18))) (As := [.ref 65, .ref 68, .int (nI 9), .ref 88, .int (nI 9), .int (nI 1)]) (r0 := []) (cs2 := (ww im lf s d k ls rf rz ra rn rq lt m1 m2 m3 m4 bd fc hd sz el (qs_A (qs_K t (qK u)) (qA u)) g fm hm so si sh ce ca td wa kp la bf oo bo pw ow tr)) at_X6_all_24 rfl rfl (Nat.le_of_ble_eq_true rfl) rfl (ab_rvOf w65 rfl) ((mo_carBX (X := (qA u).map nI) (n := 9) (f := 9) (G := la) (w68v qg_AK) w88 (by rw [List.length_map]; exact a2) lz (by omega) (by decide) (cA _ (by rw [List.length_map]; exact a2))).to w_pt65_A) (by decide) w_lens ?_
    refine E_istore_n (L2 := [some (.ref 65), some (.ref 88), some (.int (nI 1)), some (.int (nI 18))]) at_X6_all_27 rfl ?_
    refine E_aload_n at_X6_all_28 rfl ?_
    refine E_aload_n at_X6_all_29 rfl ?_
    refine E_getfield (v := .ref 69) at_X6_all_30 w65 rfl (by decide) rfl ?_
    refine E_bipush (x := nI 9) at_X6_all_33 (by decide) ?_
    refine E_aload_n at_X6_all_35 rfl ?_
    refine E_iload_n at_X6_all_36 rfl ?_
    refine E_iload_n at_X6_all_37 rfl ?_
    refine E_callV (v := some (.int (nI 27))) (As := [.ref 65, .ref 69, .int (nI 9), .ref 88, .int (nI 18), .int (nI 1)]) (r0 := []) (cs2 := (ww im lf s d k ls rf rz ra rn rq lt m1 m2 m3 m4 bd fc hd sz el (qs_B (qs_A (qs_K t (qK u)) (qA u)) (qB u)) g fm hm so si sh ce ca td wa kp la bf oo bo pw ow tr)) at_X6_all_38 rfl rfl (Nat.le_of_ble_eq_true rfl) rfl (ab_rvOf w65 rfl) ((mo_carBX (X := (qB u).map nI) (n := 9) (f := 18) (G := la) (w69v (qg_BA.trans qg_BK)) w88 (by rw [List.length_map]; exact a3) lz (by omega) (by decide) (cB _ (by rw [List.length_map]; exact a3))).to w_pt65_B) (by decide) w_lens ?_
    refine E_istore_n (L2 := [some (.ref 65), some (.ref 88), some (.int (nI 1)), some (.int (nI 27))]) at_X6_all_41 rfl ?_
    refine E_aload_n at_X6_all_42 rfl ?_
    refine E_aload_n at_X6_all_43 rfl ?_
    refine E_getfield (v := .ref 70) at_X6_all_44 w65 rfl (by decide) rfl ?_
    refine E_bipush (x := nI 9) at_X6_all_47 (by decide) ?_
    refine E_aload_n at_X6_all_49 rfl ?_
    refine E_iload_n at_X6_all_50 rfl ?_
    refine E_iload_n at_X6_all_51 rfl ?_
    refine E_callV (v := some (.int (nI 36))) (As := [.ref 65, .ref 70, .int (nI 9), .ref 88, .int (nI 27), .int (nI 1)]) (r0 := []) (cs2 := (ww im lf s d k ls rf rz ra rn rq lt m1 m2 m3 m4 bd fc hd sz el (qs_P (qs_B (qs_A (qs_K t (qK u)) (qA u)) (qB u)) (qP u)) g fm hm so si sh ce ca td wa kp la bf oo bo pw ow tr)) at_X6_all_52 rfl rfl (Nat.le_of_ble_eq_true rfl) rfl (ab_rvOf w65 rfl) ((mo_carBX (X := (qP u).map nI) (n := 9) (f := 27) (G := la) (w70v (qg_PB.trans (qg_PA.trans qg_PK))) w88 (by rw [List.length_map]; exact a4) lz (by omega) (by decide) (cP _ (by rw [List.length_map]; exact a4))).to w_pt65_P) (by decide) w_lens ?_
    refine E_istore_n (L2 := [some (.ref 65), some (.ref 88), some (.int (nI 1)), some (.int (nI 36))]) at_X6_all_55 rfl ?_
    refine E_aload_n at_X6_all_56 rfl ?_
    refine E_aload_n at_X6_all_57 rfl ?_
    refine E_getfield (v := .ref 71) at_X6_all_58 w65 rfl (by decide) rfl ?_
    refine E_bipush (x := nI 6) at_X6_all_61 (by decide) ?_
    refine E_aload_n at_X6_all_63 rfl ?_
    refine E_iload_n at_X6_all_64 rfl ?_
    refine E_iload_n at_X6_all_65 rfl ?_
    refine E_callV (v := some (.int (nI 42))) (As := [.ref 65, .ref 71, .int (nI 6), .ref 88, .int (nI 36), .int (nI 1)]) (r0 := []) (cs2 := (ww im lf s d k ls rf rz ra rn rq lt m1 m2 m3 m4 bd fc hd sz el (qs_U (qs_P (qs_B (qs_A (qs_K t (qK u)) (qA u)) (qB u)) (qP u)) (qU u)) g fm hm so si sh ce ca td wa kp la bf oo bo pw ow tr)) at_X6_all_66 rfl rfl (Nat.le_of_ble_eq_true rfl) rfl (ab_rvOf w65 rfl) ((mo_carBX (X := (qU u).map nI) (n := 6) (f := 36) (G := la) (w71v (qg_UP.trans (qg_UB.trans (qg_UA.trans qg_UK)))) w88 (by rw [List.length_map]; exact a5) lz (by omega) (by decide) (cU _ (by rw [List.length_map]; exact a5))).to w_pt65_U) (by decide) w_lens ?_
    refine E_istore_n (L2 := [some (.ref 65), some (.ref 88), some (.int (nI 1)), some (.int (nI 42))]) at_X6_all_69 rfl ?_
    refine E_aload_n at_X6_all_70 rfl ?_
    refine E_aload_n at_X6_all_71 rfl ?_
    refine E_getfield (v := .ref 72) at_X6_all_72 w65 rfl (by decide) rfl ?_
    refine E_bipush (x := nI 6) at_X6_all_75 (by decide) ?_
    refine E_aload_n at_X6_all_77 rfl ?_
    refine E_iload_n at_X6_all_78 rfl ?_
    refine E_iload_n at_X6_all_79 rfl ?_
    refine E_callV (v := some (.int (nI 48))) (As := [.ref 65, .ref 72, .int (nI 6), .ref 88, .int (nI 42), .int (nI 1)]) (r0 := []) (cs2 := (ww im lf s d k ls rf rz ra rn rq lt m1 m2 m3 m4 bd fc hd sz el (qs_L (qs_U (qs_P (qs_B (qs_A (qs_K t (qK u)) (qA u)) (qB u)) (qP u)) (qU u)) (qL u)) g fm hm so si sh ce ca td wa kp la bf oo bo pw ow tr)) at_X6_all_80 rfl rfl (Nat.le_of_ble_eq_true rfl) rfl (ab_rvOf w65 rfl) ((mo_carBX (X := (qL u).map nI) (n := 6) (f := 42) (G := la) (w72v (qg_LU.trans (qg_LP.trans (qg_LB.trans (qg_LA.trans qg_LK))))) w88 (by rw [List.length_map]; exact a6) lz (by omega) (by decide) (cL _ (by rw [List.length_map]; exact a6))).to w_pt65_L) (by decide) w_lens ?_
    refine E_istore_n (L2 := [some (.ref 65), some (.ref 88), some (.int (nI 1)), some (.int (nI 48))]) at_X6_all_83 rfl ?_
    refine E_aload_n at_X6_all_84 rfl ?_
    refine E_aload_n at_X6_all_85 rfl ?_
    refine E_getfield (v := .ref 73) at_X6_all_86 w65 rfl (by decide) rfl ?_
    refine E_bipush (x := nI 6) at_X6_all_89 (by decide) ?_
    refine E_aload_n at_X6_all_91 rfl ?_
    refine E_iload_n at_X6_all_92 rfl ?_
    refine E_iload_n at_X6_all_93 rfl ?_
    refine E_callV (v := some (.int (nI 54))) (As := [.ref 65, .ref 73, .int (nI 6), .ref 88, .int (nI 48), .int (nI 1)]) (r0 := []) (cs2 := (ww im lf s d k ls rf rz ra rn rq lt m1 m2 m3 m4 bd fc hd sz el (qs_W (qs_L (qs_U (qs_P (qs_B (qs_A (qs_K t (qK u)) (qA u)) (qB u)) (qP u)) (qU u)) (qL u)) (qW u)) g fm hm so si sh ce ca td wa kp la bf oo bo pw ow tr)) at_X6_all_94 rfl rfl (Nat.le_of_ble_eq_true rfl) rfl (ab_rvOf w65 rfl) ((mo_carBX (X := (qW u).map nI) (n := 6) (f := 48) (G := la) (w73v (qg_WL.trans (qg_WU.trans (qg_WP.trans (qg_WB.trans (qg_WA.trans qg_WK)))))) w88 (by rw [List.length_map]; exact a7) lz (by omega) (by decide) (cW _ (by rw [List.length_map]; exact a7))).to w_pt65_W) (by decide) w_lens ?_
    refine E_istore_n (L2 := [some (.ref 65), some (.ref 88), some (.int (nI 1)), some (.int (nI 54))]) at_X6_all_97 rfl ?_
    refine E_aload_n at_X6_all_98 rfl ?_
    refine E_aload_n at_X6_all_99 rfl ?_
    refine E_getfield (v := .ref 74) at_X6_all_100 w65 rfl (by decide) rfl ?_
    refine E_bipush (x := nI 6) at_X6_all_103 (by decide) ?_
    refine E_aload_n at_X6_all_105 rfl ?_
    refine E_iload_n at_X6_all_106 rfl ?_
    refine E_iload_n at_X6_all_107 rfl ?_
    refine E_callV (v := some (.int (nI 60))) (As := [.ref 65, .ref 74, .int (nI 6), .ref 88, .int (nI 54), .int (nI 1)]) (r0 := []) (cs2 := (ww im lf s d k ls rf rz ra rn rq lt m1 m2 m3 m4 bd fc hd sz el (qs_G (qs_W (qs_L (qs_U (qs_P (qs_B (qs_A (qs_K t (qK u)) (qA u)) (qB u)) (qP u)) (qU u)) (qL u)) (qW u)) (qG u)) g fm hm so si sh ce ca td wa kp la bf oo bo pw ow tr)) at_X6_all_108 rfl rfl (Nat.le_of_ble_eq_true rfl) rfl (ab_rvOf w65 rfl) ((mo_carBX (X := qG u) (n := 6) (f := 54) (G := la) (w74v (qg_GW.trans (qg_GL.trans (qg_GU.trans (qg_GP.trans (qg_GB.trans (qg_GA.trans qg_GK))))))) w88 (by exact a8) lz (by omega) (by decide) (cG _ (by exact a8))).to w_pt65_G) (by decide) w_lens ?_
    refine E_istore_n (L2 := [some (.ref 65), some (.ref 88), some (.int (nI 1)), some (.int (nI 60))]) at_X6_all_111 rfl ?_
    refine E_aload_n at_X6_all_112 rfl ?_
    refine E_aload_n at_X6_all_113 rfl ?_
    refine E_getfield (v := .ref 75) at_X6_all_114 w65 rfl (by decide) rfl ?_
    refine E_bipush (x := nI 8) at_X6_all_117 (by decide) ?_
    refine E_aload_n at_X6_all_119 rfl ?_
    refine E_iload_n at_X6_all_120 rfl ?_
    refine E_iload_n at_X6_all_121 rfl ?_
    refine E_callV (v := some (.int (nI 68))) (As := [.ref 65, .ref 75, .int (nI 8), .ref 88, .int (nI 60), .int (nI 1)]) (r0 := []) (cs2 := (ww im lf s d k ls rf rz ra rn rq lt m1 m2 m3 m4 bd fc hd sz el (qs_C (qs_G (qs_W (qs_L (qs_U (qs_P (qs_B (qs_A (qs_K t (qK u)) (qA u)) (qB u)) (qP u)) (qU u)) (qL u)) (qW u)) (qG u)) (qC u)) g fm hm so si sh ce ca td wa kp la bf oo bo pw ow tr)) at_X6_all_122 rfl rfl (Nat.le_of_ble_eq_true rfl) rfl (ab_rvOf w65 rfl) ((mo_carBX (X := (qC u).map nI) (n := 8) (f := 60) (G := la) (w75v (qg_CG.trans (qg_CW.trans (qg_CL.trans (qg_CU.trans (qg_CP.trans (qg_CB.trans (qg_CA.trans qg_CK)))))))) w88 (by rw [List.length_map]; exact a9) lz (by omega) (by decide) (cC _ (by rw [List.length_map]; exact a9))).to w_pt65_C) (by decide) w_lens ?_
    refine E_istore_n (L2 := [some (.ref 65), some (.ref 88), some (.int (nI 1)), some (.int (nI 68))]) at_X6_all_125 rfl ?_
    refine E_iload_n at_X6_all_126 rfl ?_
    refine E_if (t := 185) (b := false) at_X6_all_127 rfl (by decide) ?_
    refine E_aload_n rfl rfl ?_
    refine E_aload_n rfl rfl ?_
    refine E_iload_n rfl rfl ?_
    refine E_ialI (l := la) (v := nI (qN u)) rfl w88 (by omega) (by omega) g68 ?_
    refine E_putfield (cs2 := (ww im lf s d k ls rf rz ra rn rq lt m1 m2 m3 m4 bd fc hd sz el (qs_N (qs_C (qs_G (qs_W (qs_L (qs_U (qs_P (qs_B (qs_A (qs_K t (qK u)) (qA u)) (qB u)) (qP u)) (qU u)) (qL u)) (qW u)) (qG u)) (qC u)) (qN u)) g fm hm so si sh ce ca td wa kp la bf oo bo pw ow tr)) rfl w65 rfl (by decide) (Nat.le_of_ble_eq_true rfl) rfl rfl rfl w_pt65_N ?_
    refine E_aload_n rfl rfl ?_
    refine E_aload_n rfl rfl ?_
    refine E_iload_n rfl rfl ?_
    refine E_iconst (x := nI 1) rfl (by decide) ?_
    refine E_iadd (z := nI 69) rfl (by decide) ?_
    refine E_ialI (l := la) (v := nI (qM u)) rfl w88 (by omega) (by omega) g69 ?_
    refine E_putfield (cs2 := (ww im lf s d k ls rf rz ra rn rq lt m1 m2 m3 m4 bd fc hd sz el (qs_M (qs_N (qs_C (qs_G (qs_W (qs_L (qs_U (qs_P (qs_B (qs_A (qs_K t (qK u)) (qA u)) (qB u)) (qP u)) (qU u)) (qL u)) (qW u)) (qG u)) (qC u)) (qN u)) (qM u)) g fm hm so si sh ce ca td wa kp la bf oo bo pw ow tr)) rfl w65 rfl (by decide) (Nat.le_of_ble_eq_true rfl) rfl rfl rfl w_pt65_M ?_
    refine E_aload_n rfl rfl ?_
    refine E_aload_n rfl rfl ?_
    refine E_iload_n rfl rfl ?_
    refine E_iconst (x := nI 2) rfl (by decide) ?_
    refine E_iadd (z := nI 70) rfl (by decide) ?_
    refine E_ialI (l := la) (v := qR u) rfl w88 (by omega) (by omega) g70 ?_
    refine E_putfield (cs2 := (ww im lf s d k ls rf rz ra rn rq lt m1 m2 m3 m4 bd fc hd sz el (qs_R (qs_M (qs_N (qs_C (qs_G (qs_W (qs_L (qs_U (qs_P (qs_B (qs_A (qs_K t (qK u)) (qA u)) (qB u)) (qP u)) (qU u)) (qL u)) (qW u)) (qG u)) (qC u)) (qN u)) (qM u)) (qR u)) g fm hm so si sh ce ca td wa kp la bf oo bo pw ow tr)) rfl w65 rfl (by decide) (Nat.le_of_ble_eq_true rfl) rfl rfl rfl w_pt65_R ?_
    refine E_aload_n rfl rfl ?_
    refine E_aload_n rfl rfl ?_
    refine E_iload_n rfl rfl ?_
    refine E_iconst (x := nI 3) rfl (by decide) ?_
    refine E_iadd (z := nI 71) rfl (by decide) ?_
    refine E_ialI (l := la) (v := qY u) rfl w88 (by omega) (by omega) g71 ?_
    refine E_putfield (cs2 := (ww im lf s d k ls rf rz ra rn rq lt m1 m2 m3 m4 bd fc hd sz el (qs_Y (qs_R (qs_M (qs_N (qs_C (qs_G (qs_W (qs_L (qs_U (qs_P (qs_B (qs_A (qs_K t (qK u)) (qA u)) (qB u)) (qP u)) (qU u)) (qL u)) (qW u)) (qG u)) (qC u)) (qN u)) (qM u)) (qR u)) (qY u)) g fm hm so si sh ce ca td wa kp la bf oo bo pw ow tr)) rfl w65 rfl (by decide) (Nat.le_of_ble_eq_true rfl) rfl rfl rfl w_pt65_Y ?_
    refine E_aload_n rfl rfl ?_
    refine E_aload_n rfl rfl ?_
    refine E_iload_n rfl rfl ?_
    refine E_iconst (x := nI 4) rfl (by decide) ?_
    refine E_iadd (z := nI 72) rfl (by decide) ?_
    refine E_ialI (l := la) (v := qD u) rfl w88 (by omega) (by omega) g72 ?_
    refine E_putfield (cs2 := (ww im lf s d k ls rf rz ra rn rq lt m1 m2 m3 m4 bd fc hd sz el (qs_D (qs_Y (qs_R (qs_M (qs_N (qs_C (qs_G (qs_W (qs_L (qs_U (qs_P (qs_B (qs_A (qs_K t (qK u)) (qA u)) (qB u)) (qP u)) (qU u)) (qL u)) (qW u)) (qG u)) (qC u)) (qN u)) (qM u)) (qR u)) (qY u)) (qD u)) g fm hm so si sh ce ca td wa kp la bf oo bo pw ow tr)) rfl w65 rfl (by decide) (Nat.le_of_ble_eq_true rfl) rfl rfl rfl w_pt65_D ?_
    refine E_aload_n rfl rfl ?_
    refine E_aload_n rfl rfl ?_
    refine E_iload_n rfl rfl ?_
    refine E_iconst (x := nI 5) rfl (by decide) ?_
    refine E_iadd (z := nI 73) rfl (by decide) ?_
    refine E_ialI (l := la) (v := qS u) rfl w88 (by omega) (by omega) g73 ?_
    refine E_putfield (cs2 := (ww im lf s d k ls rf rz ra rn rq lt m1 m2 m3 m4 bd fc hd sz el (qs_S (qs_D (qs_Y (qs_R (qs_M (qs_N (qs_C (qs_G (qs_W (qs_L (qs_U (qs_P (qs_B (qs_A (qs_K t (qK u)) (qA u)) (qB u)) (qP u)) (qU u)) (qL u)) (qW u)) (qG u)) (qC u)) (qN u)) (qM u)) (qR u)) (qY u)) (qD u)) (qS u)) g fm hm so si sh ce ca td wa kp la bf oo bo pw ow tr)) rfl w65 rfl (by decide) (Nat.le_of_ble_eq_true rfl) rfl rfl rfl w_pt65_S ?_
    refine E_goto (t := 237) rfl rfl ?_
    exact E_vret at_X6_all_237 rfl
  rw [qs_all] at X
  exact X
end AL
