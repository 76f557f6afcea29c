/-! a square takes what another holds; by program (wip/tools/mk63.py) -/
section TK
variable {im : Int32} {lf : Int32} {s : ab_q} {d : ab_q} {k : ab_q} {ls : List Int32} {rf : Int32} {rz : Int32} {ra : Int32} {rn : Int32} {rq : ab_q} {lt : List Int32} {m1 : Int32} {m2 : Int32} {m3 : Int32} {m4 : Int32} {bd : List Int32} {fc : List Int32} {hd : Nat → Int32} {sz : Nat → Int32} {el : Nat → List Int64} {t : ab_q} {g : Nat → Int32} {fm : List Int32} {hm : List Nat} {so : List Nat} {si : List Nat} {sh : List Int32} {ce : List Int64} {ca : List Int64} {td : List Int32} {wa : List Int32} {kp : List Int32} {la : List Int32} {bf : List Int32} {oo : List Int32} {bo : List Int32} {pw : List Int32} {ow : List Int32} {tr : List Int32}
set_option maxHeartbeats 400000 in
theorem tk_1_11 (l : qLn s) (l2 : qLn d) : Ev ab_Z0 1 55 [.ref 1, .ref 11] (ww im lf s d k ls rf rz ra rn rq lt m1 m2 m3 m4 bd fc hd sz el t g fm hm so si sh ce ca td wa kp la bf oo bo pw ow tr) (none, (ww im lf d d k ls rf rz ra rn rq lt m1 m2 m3 m4 bd fc hd sz el t g fm hm so si sh ce ca td wa kp la bf oo bo pw ow tr)) := by
  obtain ⟨a1, a2, a3, a4, a5, a6, a7, a8, a9⟩ := id l
  obtain ⟨b1, b2, b3, b4, b5, b6, b7, b8, b9⟩ := id l2
  have X : Ev ab_Z0 1 55 [.ref 1, .ref 11] (ww im lf s d k ls rf rz ra rn rq lt m1 m2 m3 m4 bd fc hd sz el t g fm hm so si sh ce ca td wa kp la bf oo bo pw ow tr) (none, (ww im lf (qs_S (qs_D (qs_Y (qs_R (qs_M (qs_N (qs_C (qs_G (qs_W (qs_L (qs_U (qs_P (qs_B (qs_A (qs_K s (qK d)) (qA d)) (qB d)) (qP d)) (qU d)) (qL d)) (qW d)) (qG d)) (qC d)) (qN d)) (qM d)) (qR d)) (qY d)) (qD d)) (qS d)) d k ls rf rz ra rn rq lt m1 m2 m3 m4 bd fc hd sz el t g fm hm so si sh ce ca td wa kp la bf oo bo pw ow tr)) := by
    refine Ef.in (md := mX4_take) (L := [some (.ref 1), some (.ref 11)]) rfl (Nat.le_of_ble_eq_true rfl) rfl ?_
    refine E_aload_n rfl rfl ?_
    refine E_getfield (v := .ref 12) rfl w11 rfl (by decide) rfl ?_
    refine E_iconst (x := nI 0) rfl (by decide) ?_
    refine E_aload_n rfl rfl ?_
    refine E_getfield (v := .ref 2) rfl w1 rfl (by decide) rfl ?_
    refine E_iconst (x := nI 0) rfl (by decide) ?_
    refine E_bipush (x := nI 9) rfl (by decide) ?_
    refine E_cpN (cs2 := (ww im lf (qs_K s (qK d)) d k ls rf rz ra rn rq lt m1 m2 m3 m4 bd fc hd sz el t g fm hm so si sh ce ca td wa kp la bf oo bo pw ow tr)) rfl w12 w2 ⟨⟨by decide, Nat.le_of_ble_eq_true rfl⟩, by omega, by omega⟩ w_pt1_K ?_
    refine E_aload_n rfl rfl ?_
    refine E_getfield (v := .ref 13) rfl w11 rfl (by decide) rfl ?_
    refine E_iconst (x := nI 0) rfl (by decide) ?_
    refine E_aload_n rfl rfl ?_
    refine E_getfield (v := .ref 3) rfl w1 rfl (by decide) rfl ?_
    refine E_iconst (x := nI 0) rfl (by decide) ?_
    refine E_bipush (x := nI 9) rfl (by decide) ?_
    refine E_cpN (cs2 := (ww im lf (qs_A (qs_K s (qK d)) (qA d)) d k ls rf rz ra rn rq lt m1 m2 m3 m4 bd fc hd sz el t g fm hm so si sh ce ca td wa kp la bf oo bo pw ow tr)) rfl w13 (w3v qg_AK) ⟨⟨by decide, Nat.le_of_ble_eq_true rfl⟩, by omega, by omega⟩ w_pt1_A ?_
    refine E_aload_n rfl rfl ?_
    refine E_getfield (v := .ref 14) rfl w11 rfl (by decide) rfl ?_
    refine E_iconst (x := nI 0) rfl (by decide) ?_
    refine E_aload_n rfl rfl ?_
    refine E_getfield (v := .ref 4) rfl w1 rfl (by decide) rfl ?_
    refine E_iconst (x := nI 0) rfl (by decide) ?_
    refine E_bipush (x := nI 9) rfl (by decide) ?_
    refine E_cpN (cs2 := (ww im lf (qs_B (qs_A (qs_K s (qK d)) (qA d)) (qB d)) d k ls rf rz ra rn rq lt m1 m2 m3 m4 bd fc hd sz el t g fm hm so si sh ce ca td wa kp la bf oo bo pw ow tr)) rfl w14 (w4v (qg_BA.trans qg_BK)) ⟨⟨by decide, Nat.le_of_ble_eq_true rfl⟩, by omega, by omega⟩ w_pt1_B ?_
    refine E_aload_n rfl rfl ?_
    refine E_getfield (v := .ref 15) rfl w11 rfl (by decide) rfl ?_
    refine E_iconst (x := nI 0) rfl (by decide) ?_
    refine E_aload_n rfl rfl ?_
    refine E_getfield (v := .ref 5) rfl w1 rfl (by decide) rfl ?_
    refine E_iconst (x := nI 0) rfl (by decide) ?_
    refine E_bipush (x := nI 9) rfl (by decide) ?_
    refine E_cpN (cs2 := (ww im lf (qs_P (qs_B (qs_A (qs_K s (qK d)) (qA d)) (qB d)) (qP d)) d k ls rf rz ra rn rq lt m1 m2 m3 m4 bd fc hd sz el t g fm hm so si sh ce ca td wa kp la bf oo bo pw ow tr)) rfl w15 (w5v (qg_PB.trans (qg_PA.trans qg_PK))) ⟨⟨by decide, Nat.le_of_ble_eq_true rfl⟩, by omega, by omega⟩ w_pt1_P ?_
    refine E_aload_n rfl rfl ?_
    refine E_getfield (v := .ref 16) rfl w11 rfl (by decide) rfl ?_
    refine E_iconst (x := nI 0) rfl (by decide) ?_
    refine E_aload_n rfl rfl ?_
    refine E_getfield (v := .ref 6) rfl w1 rfl (by decide) rfl ?_
    refine E_iconst (x := nI 0) rfl (by decide) ?_
    refine E_bipush (x := nI 6) rfl (by decide) ?_
    refine E_cpN (cs2 := (ww im lf (qs_U (qs_P (qs_B (qs_A (qs_K s (qK d)) (qA d)) (qB d)) (qP d)) (qU d)) d k ls rf rz ra rn rq lt m1 m2 m3 m4 bd fc hd sz el t g fm hm so si sh ce ca td wa kp la bf oo bo pw ow tr)) rfl w16 (w6v (qg_UP.trans (qg_UB.trans (qg_UA.trans qg_UK)))) ⟨⟨by decide, Nat.le_of_ble_eq_true rfl⟩, by omega, by omega⟩ w_pt1_U ?_
    refine E_aload_n rfl rfl ?_
    refine E_getfield (v := .ref 17) rfl w11 rfl (by decide) rfl ?_
    refine E_iconst (x := nI 0) rfl (by decide) ?_
    refine E_aload_n rfl rfl ?_
    refine E_getfield (v := .ref 7) rfl w1 rfl (by decide) rfl ?_
    refine E_iconst (x := nI 0) rfl (by decide) ?_
    refine E_bipush (x := nI 6) rfl (by decide) ?_
    refine E_cpN (cs2 := (ww im lf (qs_L (qs_U (qs_P (qs_B (qs_A (qs_K s (qK d)) (qA d)) (qB d)) (qP d)) (qU d)) (qL d)) d k ls rf rz ra rn rq lt m1 m2 m3 m4 bd fc hd sz el t g fm hm so si sh ce ca td wa kp la bf oo bo pw ow tr)) rfl w17 (w7v (qg_LU.trans (qg_LP.trans (qg_LB.trans (qg_LA.trans qg_LK))))) ⟨⟨by decide, Nat.le_of_ble_eq_true rfl⟩, by omega, by omega⟩ w_pt1_L ?_
    refine E_aload_n rfl rfl ?_
    refine E_getfield (v := .ref 18) rfl w11 rfl (by decide) rfl ?_
    refine E_iconst (x := nI 0) rfl (by decide) ?_
    refine E_aload_n rfl rfl ?_
    refine E_getfield (v := .ref 8) rfl w1 rfl (by decide) rfl ?_
    refine E_iconst (x := nI 0) rfl (by decide) ?_
    refine E_bipush (x := nI 6) rfl (by decide) ?_
    refine E_cpN (cs2 := (ww im lf (qs_W (qs_L (qs_U (qs_P (qs_B (qs_A (qs_K s (qK d)) (qA d)) (qB d)) (qP d)) (qU d)) (qL d)) (qW d)) d k ls rf rz ra rn rq lt m1 m2 m3 m4 bd fc hd sz el t g fm hm so si sh ce ca td wa kp la bf oo bo pw ow tr)) rfl w18 (w8v (qg_WL.trans (qg_WU.trans (qg_WP.trans (qg_WB.trans (qg_WA.trans qg_WK)))))) ⟨⟨by decide, Nat.le_of_ble_eq_true rfl⟩, by omega, by omega⟩ w_pt1_W ?_
    refine E_aload_n rfl rfl ?_
    refine E_getfield (v := .ref 19) rfl w11 rfl (by decide) rfl ?_
    refine E_iconst (x := nI 0) rfl (by decide) ?_
    refine E_aload_n rfl rfl ?_
    refine E_getfield (v := .ref 9) rfl w1 rfl (by decide) rfl ?_
    refine E_iconst (x := nI 0) rfl (by decide) ?_
    refine E_bipush (x := nI 6) rfl (by decide) ?_
    refine E_cpW (cs2 := (ww im lf (qs_G (qs_W (qs_L (qs_U (qs_P (qs_B (qs_A (qs_K s (qK d)) (qA d)) (qB d)) (qP d)) (qU d)) (qL d)) (qW d)) (qG d)) d k ls rf rz ra rn rq lt m1 m2 m3 m4 bd fc hd sz el t g fm hm so si sh ce ca td wa kp la bf oo bo pw ow tr)) rfl w19 (w9v (qg_GW.trans (qg_GL.trans (qg_GU.trans (qg_GP.trans (qg_GB.trans (qg_GA.trans qg_GK))))))) ⟨⟨by decide, Nat.le_of_ble_eq_true rfl⟩, by omega, by omega⟩ w_pt1_G ?_
    refine E_aload_n rfl rfl ?_
    refine E_getfield (v := .ref 20) rfl w11 rfl (by decide) rfl ?_
    refine E_iconst (x := nI 0) rfl (by decide) ?_
    refine E_aload_n rfl rfl ?_
    refine E_getfield (v := .ref 10) rfl w1 rfl (by decide) rfl ?_
    refine E_iconst (x := nI 0) rfl (by decide) ?_
    refine E_bipush (x := nI 8) rfl (by decide) ?_
    refine E_cpN (cs2 := (ww im lf (qs_C (qs_G (qs_W (qs_L (qs_U (qs_P (qs_B (qs_A (qs_K s (qK d)) (qA d)) (qB d)) (qP d)) (qU d)) (qL d)) (qW d)) (qG d)) (qC d)) d k ls rf rz ra rn rq lt m1 m2 m3 m4 bd fc hd sz el t g fm hm so si sh ce ca td wa kp la bf oo bo pw ow tr)) rfl w20 (w10v (qg_CG.trans (qg_CW.trans (qg_CL.trans (qg_CU.trans (qg_CP.trans (qg_CB.trans (qg_CA.trans qg_CK)))))))) ⟨⟨by decide, Nat.le_of_ble_eq_true rfl⟩, by omega, by omega⟩ w_pt1_C ?_
    refine E_aload_n rfl rfl ?_
    refine E_aload_n rfl rfl ?_
    refine E_getfield (v := .int (nI (qN d))) rfl w11 rfl (by decide) rfl ?_
    refine E_putfield (cs2 := (ww im lf (qs_N (qs_C (qs_G (qs_W (qs_L (qs_U (qs_P (qs_B (qs_A (qs_K s (qK d)) (qA d)) (qB d)) (qP d)) (qU d)) (qL d)) (qW d)) (qG d)) (qC d)) (qN d)) d k ls rf rz ra rn rq lt m1 m2 m3 m4 bd fc hd sz el t g fm hm so si sh ce ca td wa kp la bf oo bo pw ow tr)) rfl w1 rfl (by decide) (Nat.le_of_ble_eq_true rfl) rfl rfl rfl w_pt1_N ?_
    refine E_aload_n rfl rfl ?_
    refine E_aload_n rfl rfl ?_
    refine E_getfield (v := .int (nI (qM d))) rfl w11 rfl (by decide) rfl ?_
    refine E_putfield (cs2 := (ww im lf (qs_M (qs_N (qs_C (qs_G (qs_W (qs_L (qs_U (qs_P (qs_B (qs_A (qs_K s (qK d)) (qA d)) (qB d)) (qP d)) (qU d)) (qL d)) (qW d)) (qG d)) (qC d)) (qN d)) (qM d)) d k ls rf rz ra rn rq lt m1 m2 m3 m4 bd fc hd sz el t g fm hm so si sh ce ca td wa kp la bf oo bo pw ow tr)) rfl w1 rfl (by decide) (Nat.le_of_ble_eq_true rfl) rfl rfl rfl w_pt1_M ?_
    refine E_aload_n rfl rfl ?_
    refine E_aload_n rfl rfl ?_
    refine E_getfield (v := .int (qR d)) rfl w11 rfl (by decide) rfl ?_
    refine E_putfield (cs2 := (ww im lf (qs_R (qs_M (qs_N (qs_C (qs_G (qs_W (qs_L (qs_U (qs_P (qs_B (qs_A (qs_K s (qK d)) (qA d)) (qB d)) (qP d)) (qU d)) (qL d)) (qW d)) (qG d)) (qC d)) (qN d)) (qM d)) (qR d)) d k ls rf rz ra rn rq lt m1 m2 m3 m4 bd fc hd sz el t g fm hm so si sh ce ca td wa kp la bf oo bo pw ow tr)) rfl w1 rfl (by decide) (Nat.le_of_ble_eq_true rfl) rfl rfl rfl w_pt1_R ?_
    refine E_aload_n rfl rfl ?_
    refine E_aload_n rfl rfl ?_
    refine E_getfield (v := .int (qY d)) rfl w11 rfl (by decide) rfl ?_
    refine E_putfield (cs2 := (ww im lf (qs_Y (qs_R (qs_M (qs_N (qs_C (qs_G (qs_W (qs_L (qs_U (qs_P (qs_B (qs_A (qs_K s (qK d)) (qA d)) (qB d)) (qP d)) (qU d)) (qL d)) (qW d)) (qG d)) (qC d)) (qN d)) (qM d)) (qR d)) (qY d)) d k ls rf rz ra rn rq lt m1 m2 m3 m4 bd fc hd sz el t g fm hm so si sh ce ca td wa kp la bf oo bo pw ow tr)) rfl w1 rfl (by decide) (Nat.le_of_ble_eq_true rfl) rfl rfl rfl w_pt1_Y ?_
    refine E_aload_n rfl rfl ?_
    refine E_aload_n rfl rfl ?_
    refine E_getfield (v := .int (qD d)) rfl w11 rfl (by decide) rfl ?_
    refine E_putfield (cs2 := (ww im lf (qs_D (qs_Y (qs_R (qs_M (qs_N (qs_C (qs_G (qs_W (qs_L (qs_U (qs_P (qs_B (qs_A (qs_K s (qK d)) (qA d)) (qB d)) (qP d)) (qU d)) (qL d)) (qW d)) (qG d)) (qC d)) (qN d)) (qM d)) (qR d)) (qY d)) (qD d)) d k ls rf rz ra rn rq lt m1 m2 m3 m4 bd fc hd sz el t g fm hm so si sh ce ca td wa kp la bf oo bo pw ow tr)) rfl w1 rfl (by decide) (Nat.le_of_ble_eq_true rfl) rfl rfl rfl w_pt1_D ?_
    refine E_aload_n rfl rfl ?_
    refine E_aload_n rfl rfl ?_
    refine E_getfield (v := .int (qS d)) rfl w11 rfl (by decide) rfl ?_
    refine E_putfield (cs2 := (ww im lf (qs_S (qs_D (qs_Y (qs_R (qs_M (qs_N (qs_C (qs_G (qs_W (qs_L (qs_U (qs_P (qs_B (qs_A (qs_K s (qK d)) (qA d)) (qB d)) (qP d)) (qU d)) (qL d)) (qW d)) (qG d)) (qC d)) (qN d)) (qM d)) (qR d)) (qY d)) (qD d)) (qS d)) d k ls rf rz ra rn rq lt m1 m2 m3 m4 bd fc hd sz el t g fm hm so si sh ce ca td wa kp la bf oo bo pw ow tr)) rfl w1 rfl (by decide) (Nat.le_of_ble_eq_true rfl) rfl rfl rfl w_pt1_S ?_
    exact E_vret rfl rfl
  rw [qs_all] at X
  exact X
set_option maxHeartbeats 400000 in
theorem tk_1_21 (l : qLn s) (l2 : qLn k) : Ev ab_Z0 1 55 [.ref 1, .ref 21] (ww im lf s d k ls rf rz ra rn rq lt m1 m2 m3 m4 bd fc hd sz el t g fm hm so si sh ce ca td wa kp la bf oo bo pw ow tr) (none, (ww im lf k d k ls rf rz ra rn rq lt m1 m2 m3 m4 bd fc hd sz el t g fm hm so si sh ce ca td wa kp la bf oo bo pw ow tr)) := by
  obtain ⟨a1, a2, a3, a4, a5, a6, a7, a8, a9⟩ := id l
  obtain ⟨b1, b2, b3, b4, b5, b6, b7, b8, b9⟩ := id l2
  have X : Ev ab_Z0 1 55 [.ref 1, .ref 21] (ww im lf s d k ls rf rz ra rn rq lt m1 m2 m3 m4 bd fc hd sz el t g fm hm so si sh ce ca td wa kp la bf oo bo pw ow tr) (none, (ww im lf (qs_S (qs_D (qs_Y (qs_R (qs_M (qs_N (qs_C (qs_G (qs_W (qs_L (qs_U (qs_P (qs_B (qs_A (qs_K s (qK k)) (qA k)) (qB k)) (qP k)) (qU k)) (qL k)) (qW k)) (qG k)) (qC k)) (qN k)) (qM k)) (qR k)) (qY k)) (qD k)) (qS k)) d k ls rf rz ra rn rq lt m1 m2 m3 m4 bd fc hd sz el t g fm hm so si sh ce ca td wa kp la bf oo bo pw ow tr)) := by
    refine Ef.in (md := mX4_take) (L := [some (.ref 1), some (.ref 21)]) rfl (Nat.le_of_ble_eq_true rfl) rfl ?_
    refine E_aload_n rfl rfl ?_
    refine E_getfield (v := .ref 22) rfl w21 rfl (by decide) rfl ?_
    refine E_iconst (x := nI 0) rfl (by decide) ?_
    refine E_aload_n rfl rfl ?_
    refine E_getfield (v := .ref 2) rfl w1 rfl (by decide) rfl ?_
    refine E_iconst (x := nI 0) rfl (by decide) ?_
    refine E_bipush (x := nI 9) rfl (by decide) ?_
    refine E_cpN (cs2 := (ww im lf (qs_K s (qK k)) d k ls rf rz ra rn rq lt m1 m2 m3 m4 bd fc hd sz el t g fm hm so si sh ce ca td wa kp la bf oo bo pw ow tr)) rfl w22 w2 ⟨⟨by decide, Nat.le_of_ble_eq_true rfl⟩, by omega, by omega⟩ w_pt1_K ?_
    refine E_aload_n rfl rfl ?_
    refine E_getfield (v := .ref 23) rfl w21 rfl (by decide) rfl ?_
    refine E_iconst (x := nI 0) rfl (by decide) ?_
    refine E_aload_n rfl rfl ?_
    refine E_getfield (v := .ref 3) rfl w1 rfl (by decide) rfl ?_
    refine E_iconst (x := nI 0) rfl (by decide) ?_
    refine E_bipush (x := nI 9) rfl (by decide) ?_
    refine E_cpN (cs2 := (ww im lf (qs_A (qs_K s (qK k)) (qA k)) d k ls rf rz ra rn rq lt m1 m2 m3 m4 bd fc hd sz el t g fm hm so si sh ce ca td wa kp la bf oo bo pw ow tr)) rfl w23 (w3v qg_AK) ⟨⟨by decide, Nat.le_of_ble_eq_true rfl⟩, by omega, by omega⟩ w_pt1_A ?_
    refine E_aload_n rfl rfl ?_
    refine E_getfield (v := .ref 24) rfl w21 rfl (by decide) rfl ?_
    refine E_iconst (x := nI 0) rfl (by decide) ?_
    refine E_aload_n rfl rfl ?_
    refine E_getfield (v := .ref 4) rfl w1 rfl (by decide) rfl ?_
    refine E_iconst (x := nI 0) rfl (by decide) ?_
    refine E_bipush (x := nI 9) rfl (by decide) ?_
    refine E_cpN (cs2 := (ww im lf (qs_B (qs_A (qs_K s (qK k)) (qA k)) (qB k)) d k ls rf rz ra rn rq lt m1 m2 m3 m4 bd fc hd sz el t g fm hm so si sh ce ca td wa kp la bf oo bo pw ow tr)) rfl w24 (w4v (qg_BA.trans qg_BK)) ⟨⟨by decide, Nat.le_of_ble_eq_true rfl⟩, by omega, by omega⟩ w_pt1_B ?_
    refine E_aload_n rfl rfl ?_
    refine E_getfield (v := .ref 25) rfl w21 rfl (by decide) rfl ?_
    refine E_iconst (x := nI 0) rfl (by decide) ?_
    refine E_aload_n rfl rfl ?_
    refine E_getfield (v := .ref 5) rfl w1 rfl (by decide) rfl ?_
    refine E_iconst (x := nI 0) rfl (by decide) ?_
    refine E_bipush (x := nI 9) rfl (by decide) ?_
    refine E_cpN (cs2 := (ww im lf (qs_P (qs_B (qs_A (qs_K s (qK k)) (qA k)) (qB k)) (qP k)) d k ls rf rz ra rn rq lt m1 m2 m3 m4 bd fc hd sz el t g fm hm so si sh ce ca td wa kp la bf oo bo pw ow tr)) rfl w25 (w5v (qg_PB.trans (qg_PA.trans qg_PK))) ⟨⟨by decide, Nat.le_of_ble_eq_true rfl⟩, by omega, by omega⟩ w_pt1_P ?_
    refine E_aload_n rfl rfl ?_
    refine E_getfield (v := .ref 26) rfl w21 rfl (by decide) rfl ?_
    refine E_iconst (x := nI 0) rfl (by decide) ?_
    refine E_aload_n rfl rfl ?_
    refine E_getfield (v := .ref 6) rfl w1 rfl (by decide) rfl ?_
    refine E_iconst (x := nI 0) rfl (by decide) ?_
    refine E_bipush (x := nI 6) rfl (by decide) ?_
    refine E_cpN (cs2 := (ww im lf (qs_U (qs_P (qs_B (qs_A (qs_K s (qK k)) (qA k)) (qB k)) (qP k)) (qU k)) d k ls rf rz ra rn rq lt m1 m2 m3 m4 bd fc hd sz el t g fm hm so si sh ce ca td wa kp la bf oo bo pw ow tr)) rfl w26 (w6v (qg_UP.trans (qg_UB.trans (qg_UA.trans qg_UK)))) ⟨⟨by decide, Nat.le_of_ble_eq_true rfl⟩, by omega, by omega⟩ w_pt1_U ?_
    refine E_aload_n rfl rfl ?_
    refine E_getfield (v := .ref 27) rfl w21 rfl (by decide) rfl ?_
    refine E_iconst (x := nI 0) rfl (by decide) ?_
    refine E_aload_n rfl rfl ?_
    refine E_getfield (v := .ref 7) rfl w1 rfl (by decide) rfl ?_
    refine E_iconst (x := nI 0) rfl (by decide) ?_
    refine E_bipush (x := nI 6) rfl (by decide) ?_
    refine E_cpN (cs2 := (ww im lf (qs_L (qs_U (qs_P (qs_B (qs_A (qs_K s (qK k)) (qA k)) (qB k)) (qP k)) (qU k)) (qL k)) d k ls rf rz ra rn rq lt m1 m2 m3 m4 bd fc hd sz el t g fm hm so si sh ce ca td wa kp la bf oo bo pw ow tr)) rfl w27 (w7v (qg_LU.trans (qg_LP.trans (qg_LB.trans (qg_LA.trans qg_LK))))) ⟨⟨by decide, Nat.le_of_ble_eq_true rfl⟩, by omega, by omega⟩ w_pt1_L ?_
    refine E_aload_n rfl rfl ?_
    refine E_getfield (v := .ref 28) rfl w21 rfl (by decide) rfl ?_
    refine E_iconst (x := nI 0) rfl (by decide) ?_
    refine E_aload_n rfl rfl ?_
    refine E_getfield (v := .ref 8) rfl w1 rfl (by decide) rfl ?_
    refine E_iconst (x := nI 0) rfl (by decide) ?_
    refine E_bipush (x := nI 6) rfl (by decide) ?_
    refine E_cpN (cs2 := (ww im lf (qs_W (qs_L (qs_U (qs_P (qs_B (qs_A (qs_K s (qK k)) (qA k)) (qB k)) (qP k)) (qU k)) (qL k)) (qW k)) d k ls rf rz ra rn rq lt m1 m2 m3 m4 bd fc hd sz el t g fm hm so si sh ce ca td wa kp la bf oo bo pw ow tr)) rfl w28 (w8v (qg_WL.trans (qg_WU.trans (qg_WP.trans (qg_WB.trans (qg_WA.trans qg_WK)))))) ⟨⟨by decide, Nat.le_of_ble_eq_true rfl⟩, by omega, by omega⟩ w_pt1_W ?_
    refine E_aload_n rfl rfl ?_
    refine E_getfield (v := .ref 29) rfl w21 rfl (by decide) rfl ?_
    refine E_iconst (x := nI 0) rfl (by decide) ?_
    refine E_aload_n rfl rfl ?_
    refine E_getfield (v := .ref 9) rfl w1 rfl (by decide) rfl ?_
    refine E_iconst (x := nI 0) rfl (by decide) ?_
    refine E_bipush (x := nI 6) rfl (by decide) ?_
    refine E_cpW (cs2 := (ww im lf (qs_G (qs_W (qs_L (qs_U (qs_P (qs_B (qs_A (qs_K s (qK k)) (qA k)) (qB k)) (qP k)) (qU k)) (qL k)) (qW k)) (qG k)) d k ls rf rz ra rn rq lt m1 m2 m3 m4 bd fc hd sz el t g fm hm so si sh ce ca td wa kp la bf oo bo pw ow tr)) rfl w29 (w9v (qg_GW.trans (qg_GL.trans (qg_GU.trans (qg_GP.trans (qg_GB.trans (qg_GA.trans qg_GK))))))) ⟨⟨by decide, Nat.le_of_ble_eq_true rfl⟩, by omega, by omega⟩ w_pt1_G ?_
    refine E_aload_n rfl rfl ?_
    refine E_getfield (v := .ref 30) rfl w21 rfl (by decide) rfl ?_
    refine E_iconst (x := nI 0) rfl (by decide) ?_
    refine E_aload_n rfl rfl ?_
    refine E_getfield (v := .ref 10) rfl w1 rfl (by decide) rfl ?_
    refine E_iconst (x := nI 0) rfl (by decide) ?_
    refine E_bipush (x := nI 8) rfl (by decide) ?_
    refine E_cpN (cs2 := (ww im lf (qs_C (qs_G (qs_W (qs_L (qs_U (qs_P (qs_B (qs_A (qs_K s (qK k)) (qA k)) (qB k)) (qP k)) (qU k)) (qL k)) (qW k)) (qG k)) (qC k)) d k ls rf rz ra rn rq lt m1 m2 m3 m4 bd fc hd sz el t g fm hm so si sh ce ca td wa kp la bf oo bo pw ow tr)) rfl w30 (w10v (qg_CG.trans (qg_CW.trans (qg_CL.trans (qg_CU.trans (qg_CP.trans (qg_CB.trans (qg_CA.trans qg_CK)))))))) ⟨⟨by decide, Nat.le_of_ble_eq_true rfl⟩, by omega, by omega⟩ w_pt1_C ?_
    refine E_aload_n rfl rfl ?_
    refine E_aload_n rfl rfl ?_
    refine E_getfield (v := .int (nI (qN k))) rfl w21 rfl (by decide) rfl ?_
    refine E_putfield (cs2 := (ww im lf (qs_N (qs_C (qs_G (qs_W (qs_L (qs_U (qs_P (qs_B (qs_A (qs_K s (qK k)) (qA k)) (qB k)) (qP k)) (qU k)) (qL k)) (qW k)) (qG k)) (qC k)) (qN k)) d k ls rf rz ra rn rq lt m1 m2 m3 m4 bd fc hd sz el t g fm hm so si sh ce ca td wa kp la bf oo bo pw ow tr)) rfl w1 rfl (by decide) (Nat.le_of_ble_eq_true rfl) rfl rfl rfl w_pt1_N ?_
    refine E_aload_n rfl rfl ?_
    refine E_aload_n rfl rfl ?_
    refine E_getfield (v := .int (nI (qM k))) rfl w21 rfl (by decide) rfl ?_
    refine E_putfield (cs2 := (ww im lf (qs_M (qs_N (qs_C (qs_G (qs_W (qs_L (qs_U (qs_P (qs_B (qs_A (qs_K s (qK k)) (qA k)) (qB k)) (qP k)) (qU k)) (qL k)) (qW k)) (qG k)) (qC k)) (qN k)) (qM k)) d k ls rf rz ra rn rq lt m1 m2 m3 m4 bd fc hd sz el t g fm hm so si sh ce ca td wa kp la bf oo bo pw ow tr)) rfl w1 rfl (by decide) (Nat.le_of_ble_eq_true rfl) rfl rfl rfl w_pt1_M ?_
    refine E_aload_n rfl rfl ?_
    refine E_aload_n rfl rfl ?_
    refine E_getfield (v := .int (qR k)) rfl w21 rfl (by decide) rfl ?_
    refine E_putfield (cs2 := (ww im lf (qs_R (qs_M (qs_N (qs_C (qs_G (qs_W (qs_L (qs_U (qs_P (qs_B (qs_A (qs_K s (qK k)) (qA k)) (qB k)) (qP k)) (qU k)) (qL k)) (qW k)) (qG k)) (qC k)) (qN k)) (qM k)) (qR k)) d k ls rf rz ra rn rq lt m1 m2 m3 m4 bd fc hd sz el t g fm hm so si sh ce ca td wa kp la bf oo bo pw ow tr)) rfl w1 rfl (by decide) (Nat.le_of_ble_eq_true rfl) rfl rfl rfl w_pt1_R ?_
    refine E_aload_n rfl rfl ?_
    refine E_aload_n rfl rfl ?_
    refine E_getfield (v := .int (qY k)) rfl w21 rfl (by decide) rfl ?_
    refine E_putfield (cs2 := (ww im lf (qs_Y (qs_R (qs_M (qs_N (qs_C (qs_G (qs_W (qs_L (qs_U (qs_P (qs_B (qs_A (qs_K s (qK k)) (qA k)) (qB k)) (qP k)) (qU k)) (qL k)) (qW k)) (qG k)) (qC k)) (qN k)) (qM k)) (qR k)) (qY k)) d k ls rf rz ra rn rq lt m1 m2 m3 m4 bd fc hd sz el t g fm hm so si sh ce ca td wa kp la bf oo bo pw ow tr)) rfl w1 rfl (by decide) (Nat.le_of_ble_eq_true rfl) rfl rfl rfl w_pt1_Y ?_
    refine E_aload_n rfl rfl ?_
    refine E_aload_n rfl rfl ?_
    refine E_getfield (v := .int (qD k)) rfl w21 rfl (by decide) rfl ?_
    refine E_putfield (cs2 := (ww im lf (qs_D (qs_Y (qs_R (qs_M (qs_N (qs_C (qs_G (qs_W (qs_L (qs_U (qs_P (qs_B (qs_A (qs_K s (qK k)) (qA k)) (qB k)) (qP k)) (qU k)) (qL k)) (qW k)) (qG k)) (qC k)) (qN k)) (qM k)) (qR k)) (qY k)) (qD k)) d k ls rf rz ra rn rq lt m1 m2 m3 m4 bd fc hd sz el t g fm hm so si sh ce ca td wa kp la bf oo bo pw ow tr)) rfl w1 rfl (by decide) (Nat.le_of_ble_eq_true rfl) rfl rfl rfl w_pt1_D ?_
    refine E_aload_n rfl rfl ?_
    refine E_aload_n rfl rfl ?_
    refine E_getfield (v := .int (qS k)) rfl w21 rfl (by decide) rfl ?_
    refine E_putfield (cs2 := (ww im lf (qs_S (qs_D (qs_Y (qs_R (qs_M (qs_N (qs_C (qs_G (qs_W (qs_L (qs_U (qs_P (qs_B (qs_A (qs_K s (qK k)) (qA k)) (qB k)) (qP k)) (qU k)) (qL k)) (qW k)) (qG k)) (qC k)) (qN k)) (qM k)) (qR k)) (qY k)) (qD k)) (qS k)) d k ls rf rz ra rn rq lt m1 m2 m3 m4 bd fc hd sz el t g fm hm so si sh ce ca td wa kp la bf oo bo pw ow tr)) rfl w1 rfl (by decide) (Nat.le_of_ble_eq_true rfl) rfl rfl rfl w_pt1_S ?_
    exact E_vret rfl rfl
  rw [qs_all] at X
  exact X
set_option maxHeartbeats 400000 in
theorem tk_1_35 (l : qLn s) (l2 : qLn rq) : Ev ab_Z0 1 55 [.ref 1, .ref 35] (ww im lf s d k ls rf rz ra rn rq lt m1 m2 m3 m4 bd fc hd sz el t g fm hm so si sh ce ca td wa kp la bf oo bo pw ow tr) (none, (ww im lf rq d k ls rf rz ra rn rq lt m1 m2 m3 m4 bd fc hd sz el t g fm hm so si sh ce ca td wa kp la bf oo bo pw ow tr)) := by
  obtain ⟨a1, a2, a3, a4, a5, a6, a7, a8, a9⟩ := id l
  obtain ⟨b1, b2, b3, b4, b5, b6, b7, b8, b9⟩ := id l2
  have X : Ev ab_Z0 1 55 [.ref 1, .ref 35] (ww im lf s d k ls rf rz ra rn rq lt m1 m2 m3 m4 bd fc hd sz el t g fm hm so si sh ce ca td wa kp la bf oo bo pw ow tr) (none, (ww im lf (qs_S (qs_D (qs_Y (qs_R (qs_M (qs_N (qs_C (qs_G (qs_W (qs_L (qs_U (qs_P (qs_B (qs_A (qs_K s (qK rq)) (qA rq)) (qB rq)) (qP rq)) (qU rq)) (qL rq)) (qW rq)) (qG rq)) (qC rq)) (qN rq)) (qM rq)) (qR rq)) (qY rq)) (qD rq)) (qS rq)) d k ls rf rz ra rn rq lt m1 m2 m3 m4 bd fc hd sz el t g fm hm so si sh ce ca td wa kp la bf oo bo pw ow tr)) := by
    refine Ef.in (md := mX4_take) (L := [some (.ref 1), some (.ref 35)]) rfl (Nat.le_of_ble_eq_true rfl) rfl ?_
    refine E_aload_n rfl rfl ?_
    refine E_getfield (v := .ref 36) rfl w35 rfl (by decide) rfl ?_
    refine E_iconst (x := nI 0) rfl (by decide) ?_
    refine E_aload_n rfl rfl ?_
    refine E_getfield (v := .ref 2) rfl w1 rfl (by decide) rfl ?_
    refine E_iconst (x := nI 0) rfl (by decide) ?_
    refine E_bipush (x := nI 9) rfl (by decide) ?_
    refine E_cpN (cs2 := (ww im lf (qs_K s (qK rq)) d k ls rf rz ra rn rq lt m1 m2 m3 m4 bd fc hd sz el t g fm hm so si sh ce ca td wa kp la bf oo bo pw ow tr)) rfl w36 w2 ⟨⟨by decide, Nat.le_of_ble_eq_true rfl⟩, by omega, by omega⟩ w_pt1_K ?_
    refine E_aload_n rfl rfl ?_
    refine E_getfield (v := .ref 37) rfl w35 rfl (by decide) rfl ?_
    refine E_iconst (x := nI 0) rfl (by decide) ?_
    refine E_aload_n rfl rfl ?_
    refine E_getfield (v := .ref 3) rfl w1 rfl (by decide) rfl ?_
    refine E_iconst (x := nI 0) rfl (by decide) ?_
    refine E_bipush (x := nI 9) rfl (by decide) ?_
    refine E_cpN (cs2 := (ww im lf (qs_A (qs_K s (qK rq)) (qA rq)) d k ls rf rz ra rn rq lt m1 m2 m3 m4 bd fc hd sz el t g fm hm so si sh ce ca td wa kp la bf oo bo pw ow tr)) rfl w37 (w3v qg_AK) ⟨⟨by decide, Nat.le_of_ble_eq_true rfl⟩, by omega, by omega⟩ w_pt1_A ?_
    refine E_aload_n rfl rfl ?_
    refine E_getfield (v := .ref 38) rfl w35 rfl (by decide) rfl ?_
    refine E_iconst (x := nI 0) rfl (by decide) ?_
    refine E_aload_n rfl rfl ?_
    refine E_getfield (v := .ref 4) rfl w1 rfl (by decide) rfl ?_
    refine E_iconst (x := nI 0) rfl (by decide) ?_
    refine E_bipush (x := nI 9) rfl (by decide) ?_
    refine E_cpN (cs2 := (ww im lf (qs_B (qs_A (qs_K s (qK rq)) (qA rq)) (qB rq)) d k ls rf rz ra rn rq lt m1 m2 m3 m4 bd fc hd sz el t g fm hm so si sh ce ca td wa kp la bf oo bo pw ow tr)) rfl w38 (w4v (qg_BA.trans qg_BK)) ⟨⟨by decide, Nat.le_of_ble_eq_true rfl⟩, by omega, by omega⟩ w_pt1_B ?_
    refine E_aload_n rfl rfl ?_
    refine E_getfield (v := .ref 39) rfl w35 rfl (by decide) rfl ?_
    refine E_iconst (x := nI 0) rfl (by decide) ?_
    refine E_aload_n rfl rfl ?_
    refine E_getfield (v := .ref 5) rfl w1 rfl (by decide) rfl ?_
    refine E_iconst (x := nI 0) rfl (by decide) ?_
    refine E_bipush (x := nI 9) rfl (by decide) ?_
    refine E_cpN (cs2 := (ww im lf (qs_P (qs_B (qs_A (qs_K s (qK rq)) (qA rq)) (qB rq)) (qP rq)) d k ls rf rz ra rn rq lt m1 m2 m3 m4 bd fc hd sz el t g fm hm so si sh ce ca td wa kp la bf oo bo pw ow tr)) rfl w39 (w5v (qg_PB.trans (qg_PA.trans qg_PK))) ⟨⟨by decide, Nat.le_of_ble_eq_true rfl⟩, by omega, by omega⟩ w_pt1_P ?_
    refine E_aload_n rfl rfl ?_
    refine E_getfield (v := .ref 40) rfl w35 rfl (by decide) rfl ?_
    refine E_iconst (x := nI 0) rfl (by decide) ?_
    refine E_aload_n rfl rfl ?_
    refine E_getfield (v := .ref 6) rfl w1 rfl (by decide) rfl ?_
    refine E_iconst (x := nI 0) rfl (by decide) ?_
    refine E_bipush (x := nI 6) rfl (by decide) ?_
    refine E_cpN (cs2 := (ww im lf (qs_U (qs_P (qs_B (qs_A (qs_K s (qK rq)) (qA rq)) (qB rq)) (qP rq)) (qU rq)) d k ls rf rz ra rn rq lt m1 m2 m3 m4 bd fc hd sz el t g fm hm so si sh ce ca td wa kp la bf oo bo pw ow tr)) rfl w40 (w6v (qg_UP.trans (qg_UB.trans (qg_UA.trans qg_UK)))) ⟨⟨by decide, Nat.le_of_ble_eq_true rfl⟩, by omega, by omega⟩ w_pt1_U ?_
    refine E_aload_n rfl rfl ?_
    refine E_getfield (v := .ref 41) rfl w35 rfl (by decide) rfl ?_
    refine E_iconst (x := nI 0) rfl (by decide) ?_
    refine E_aload_n rfl rfl ?_
    refine E_getfield (v := .ref 7) rfl w1 rfl (by decide) rfl ?_
    refine E_iconst (x := nI 0) rfl (by decide) ?_
    refine E_bipush (x := nI 6) rfl (by decide) ?_
    refine E_cpN (cs2 := (ww im lf (qs_L (qs_U (qs_P (qs_B (qs_A (qs_K s (qK rq)) (qA rq)) (qB rq)) (qP rq)) (qU rq)) (qL rq)) d k ls rf rz ra rn rq lt m1 m2 m3 m4 bd fc hd sz el t g fm hm so si sh ce ca td wa kp la bf oo bo pw ow tr)) rfl w41 (w7v (qg_LU.trans (qg_LP.trans (qg_LB.trans (qg_LA.trans qg_LK))))) ⟨⟨by decide, Nat.le_of_ble_eq_true rfl⟩, by omega, by omega⟩ w_pt1_L ?_
    refine E_aload_n rfl rfl ?_
    refine E_getfield (v := .ref 42) rfl w35 rfl (by decide) rfl ?_
    refine E_iconst (x := nI 0) rfl (by decide) ?_
    refine E_aload_n rfl rfl ?_
    refine E_getfield (v := .ref 8) rfl w1 rfl (by decide) rfl ?_
    refine E_iconst (x := nI 0) rfl (by decide) ?_
    refine E_bipush (x := nI 6) rfl (by decide) ?_
    refine E_cpN (cs2 := (ww im lf (qs_W (qs_L (qs_U (qs_P (qs_B (qs_A (qs_K s (qK rq)) (qA rq)) (qB rq)) (qP rq)) (qU rq)) (qL rq)) (qW rq)) d k ls rf rz ra rn rq lt m1 m2 m3 m4 bd fc hd sz el t g fm hm so si sh ce ca td wa kp la bf oo bo pw ow tr)) rfl w42 (w8v (qg_WL.trans (qg_WU.trans (qg_WP.trans (qg_WB.trans (qg_WA.trans qg_WK)))))) ⟨⟨by decide, Nat.le_of_ble_eq_true rfl⟩, by omega, by omega⟩ w_pt1_W ?_
    refine E_aload_n rfl rfl ?_
    refine E_getfield (v := .ref 43) rfl w35 rfl (by decide) rfl ?_
    refine E_iconst (x := nI 0) rfl (by decide) ?_
    refine E_aload_n rfl rfl ?_
    refine E_getfield (v := .ref 9) rfl w1 rfl (by decide) rfl ?_
    refine E_iconst (x := nI 0) rfl (by decide) ?_
    refine E_bipush (x := nI 6) rfl (by decide) ?_
    refine E_cpW (cs2 := (ww im lf (qs_G (qs_W (qs_L (qs_U (qs_P (qs_B (qs_A (qs_K s (qK rq)) (qA rq)) (qB rq)) (qP rq)) (qU rq)) (qL rq)) (qW rq)) (qG rq)) d k ls rf rz ra rn rq lt m1 m2 m3 m4 bd fc hd sz el t g fm hm so si sh ce ca td wa kp la bf oo bo pw ow tr)) rfl w43 (w9v (qg_GW.trans (qg_GL.trans (qg_GU.trans (qg_GP.trans (qg_GB.trans (qg_GA.trans qg_GK))))))) ⟨⟨by decide, Nat.le_of_ble_eq_true rfl⟩, by omega, by omega⟩ w_pt1_G ?_
    refine E_aload_n rfl rfl ?_
    refine E_getfield (v := .ref 44) rfl w35 rfl (by decide) rfl ?_
    refine E_iconst (x := nI 0) rfl (by decide) ?_
    refine E_aload_n rfl rfl ?_
    refine E_getfield (v := .ref 10) rfl w1 rfl (by decide) rfl ?_
    refine E_iconst (x := nI 0) rfl (by decide) ?_
    refine E_bipush (x := nI 8) rfl (by decide) ?_
    refine E_cpN (cs2 := (ww im lf (qs_C (qs_G (qs_W (qs_L (qs_U (qs_P (qs_B (qs_A (qs_K s (qK rq)) (qA rq)) (qB rq)) (qP rq)) (qU rq)) (qL rq)) (qW rq)) (qG rq)) (qC rq)) d k ls rf rz ra rn rq lt m1 m2 m3 m4 bd fc hd sz el t g fm hm so si sh ce ca td wa kp la bf oo bo pw ow tr)) rfl w44 (w10v (qg_CG.trans (qg_CW.trans (qg_CL.trans (qg_CU.trans (qg_CP.trans (qg_CB.trans (qg_CA.trans qg_CK)))))))) ⟨⟨by decide, Nat.le_of_ble_eq_true rfl⟩, by omega, by omega⟩ w_pt1_C ?_
    refine E_aload_n rfl rfl ?_
    refine E_aload_n rfl rfl ?_
    refine E_getfield (v := .int (nI (qN rq))) rfl w35 rfl (by decide) rfl ?_
    refine E_putfield (cs2 := (ww im lf (qs_N (qs_C (qs_G (qs_W (qs_L (qs_U (qs_P (qs_B (qs_A (qs_K s (qK rq)) (qA rq)) (qB rq)) (qP rq)) (qU rq)) (qL rq)) (qW rq)) (qG rq)) (qC rq)) (qN rq)) d k ls rf rz ra rn rq lt m1 m2 m3 m4 bd fc hd sz el t g fm hm so si sh ce ca td wa kp la bf oo bo pw ow tr)) rfl w1 rfl (by decide) (Nat.le_of_ble_eq_true rfl) rfl rfl rfl w_pt1_N ?_
    refine E_aload_n rfl rfl ?_
    refine E_aload_n rfl rfl ?_
    refine E_getfield (v := .int (nI (qM rq))) rfl w35 rfl (by decide) rfl ?_
    refine E_putfield (cs2 := (ww im lf (qs_M (qs_N (qs_C (qs_G (qs_W (qs_L (qs_U (qs_P (qs_B (qs_A (qs_K s (qK rq)) (qA rq)) (qB rq)) (qP rq)) (qU rq)) (qL rq)) (qW rq)) (qG rq)) (qC rq)) (qN rq)) (qM rq)) d k ls rf rz ra rn rq lt m1 m2 m3 m4 bd fc hd sz el t g fm hm so si sh ce ca td wa kp la bf oo bo pw ow tr)) rfl w1 rfl (by decide) (Nat.le_of_ble_eq_true rfl) rfl rfl rfl w_pt1_M ?_
    refine E_aload_n rfl rfl ?_
    refine E_aload_n rfl rfl ?_
    refine E_getfield (v := .int (qR rq)) rfl w35 rfl (by decide) rfl ?_
    refine E_putfield (cs2 := (ww im lf (qs_R (qs_M (qs_N (qs_C (qs_G (qs_W (qs_L (qs_U (qs_P (qs_B (qs_A (qs_K s (qK rq)) (qA rq)) (qB rq)) (qP rq)) (qU rq)) (qL rq)) (qW rq)) (qG rq)) (qC rq)) (qN rq)) (qM rq)) (qR rq)) d k ls rf rz ra rn rq lt m1 m2 m3 m4 bd fc hd sz el t g fm hm so si sh ce ca td wa kp la bf oo bo pw ow tr)) rfl w1 rfl (by decide) (Nat.le_of_ble_eq_true rfl) rfl rfl rfl w_pt1_R ?_
    refine E_aload_n rfl rfl ?_
    refine E_aload_n rfl rfl ?_
    refine E_getfield (v := .int (qY rq)) rfl w35 rfl (by decide) rfl ?_
    refine E_putfield (cs2 := (ww im lf (qs_Y (qs_R (qs_M (qs_N (qs_C (qs_G (qs_W (qs_L (qs_U (qs_P (qs_B (qs_A (qs_K s (qK rq)) (qA rq)) (qB rq)) (qP rq)) (qU rq)) (qL rq)) (qW rq)) (qG rq)) (qC rq)) (qN rq)) (qM rq)) (qR rq)) (qY rq)) d k ls rf rz ra rn rq lt m1 m2 m3 m4 bd fc hd sz el t g fm hm so si sh ce ca td wa kp la bf oo bo pw ow tr)) rfl w1 rfl (by decide) (Nat.le_of_ble_eq_true rfl) rfl rfl rfl w_pt1_Y ?_
    refine E_aload_n rfl rfl ?_
    refine E_aload_n rfl rfl ?_
    refine E_getfield (v := .int (qD rq)) rfl w35 rfl (by decide) rfl ?_
    refine E_putfield (cs2 := (ww im lf (qs_D (qs_Y (qs_R (qs_M (qs_N (qs_C (qs_G (qs_W (qs_L (qs_U (qs_P (qs_B (qs_A (qs_K s (qK rq)) (qA rq)) (qB rq)) (qP rq)) (qU rq)) (qL rq)) (qW rq)) (qG rq)) (qC rq)) (qN rq)) (qM rq)) (qR rq)) (qY rq)) (qD rq)) d k ls rf rz ra rn rq lt m1 m2 m3 m4 bd fc hd sz el t g fm hm so si sh ce ca td wa kp la bf oo bo pw ow tr)) rfl w1 rfl (by decide) (Nat.le_of_ble_eq_true rfl) rfl rfl rfl w_pt1_D ?_
    refine E_aload_n rfl rfl ?_
    refine E_aload_n rfl rfl ?_
    refine E_getfield (v := .int (qS rq)) rfl w35 rfl (by decide) rfl ?_
    refine E_putfield (cs2 := (ww im lf (qs_S (qs_D (qs_Y (qs_R (qs_M (qs_N (qs_C (qs_G (qs_W (qs_L (qs_U (qs_P (qs_B (qs_A (qs_K s (qK rq)) (qA rq)) (qB rq)) (qP rq)) (qU rq)) (qL rq)) (qW rq)) (qG rq)) (qC rq)) (qN rq)) (qM rq)) (qR rq)) (qY rq)) (qD rq)) (qS rq)) d k ls rf rz ra rn rq lt m1 m2 m3 m4 bd fc hd sz el t g fm hm so si sh ce ca td wa kp la bf oo bo pw ow tr)) rfl w1 rfl (by decide) (Nat.le_of_ble_eq_true rfl) rfl rfl rfl w_pt1_S ?_
    exact E_vret rfl rfl
  rw [qs_all] at X
  exact X
set_option maxHeartbeats 400000 in
theorem tk_11_1 (l : qLn d) (l2 : qLn s) : Ev ab_Z0 1 55 [.ref 11, .ref 1] (ww im lf s d k ls rf rz ra rn rq lt m1 m2 m3 m4 bd fc hd sz el t g fm hm so si sh ce ca td wa kp la bf oo bo pw ow tr) (none, (ww im lf s s k ls rf rz ra rn rq lt m1 m2 m3 m4 bd fc hd sz el t g fm hm so si sh ce ca td wa kp la bf oo bo pw ow tr)) := by
  obtain ⟨a1, a2, a3, a4, a5, a6, a7, a8, a9⟩ := id l
  obtain ⟨b1, b2, b3, b4, b5, b6, b7, b8, b9⟩ := id l2
  have X : Ev ab_Z0 1 55 [.ref 11, .ref 1] (ww im lf s d k ls rf rz ra rn rq lt m1 m2 m3 m4 bd fc hd sz el t g fm hm so si sh ce ca td wa kp la bf oo bo pw ow tr) (none, (ww im lf s (qs_S (qs_D (qs_Y (qs_R (qs_M (qs_N (qs_C (qs_G (qs_W (qs_L (qs_U (qs_P (qs_B (qs_A (qs_K d (qK s)) (qA s)) (qB s)) (qP s)) (qU s)) (qL s)) (qW s)) (qG s)) (qC s)) (qN s)) (qM s)) (qR s)) (qY s)) (qD s)) (qS s)) k ls rf rz ra rn rq lt m1 m2 m3 m4 bd fc hd sz el t g fm hm so si sh ce ca td wa kp la bf oo bo pw ow tr)) := by
    refine Ef.in (md := mX4_take) (L := [some (.ref 11), some (.ref 1)]) rfl (Nat.le_of_ble_eq_true rfl) rfl ?_
    refine E_aload_n rfl rfl ?_
    refine E_getfield (v := .ref 2) rfl w1 rfl (by decide) rfl ?_
    refine E_iconst (x := nI 0) rfl (by decide) ?_
    refine E_aload_n rfl rfl ?_
    refine E_getfield (v := .ref 12) rfl w11 rfl (by decide) rfl ?_
    refine E_iconst (x := nI 0) rfl (by decide) ?_
    refine E_bipush (x := nI 9) rfl (by decide) ?_
    refine E_cpN (cs2 := (ww im lf s (qs_K d (qK s)) k ls rf rz ra rn rq lt m1 m2 m3 m4 bd fc hd sz el t g fm hm so si sh ce ca td wa kp la bf oo bo pw ow tr)) rfl w2 w12 ⟨⟨by decide, Nat.le_of_ble_eq_true rfl⟩, by omega, by omega⟩ w_pt11_K ?_
    refine E_aload_n rfl rfl ?_
    refine E_getfield (v := .ref 3) rfl w1 rfl (by decide) rfl ?_
    refine E_iconst (x := nI 0) rfl (by decide) ?_
    refine E_aload_n rfl rfl ?_
    refine E_getfield (v := .ref 13) rfl w11 rfl (by decide) rfl ?_
    refine E_iconst (x := nI 0) rfl (by decide) ?_
    refine E_bipush (x := nI 9) rfl (by decide) ?_
    refine E_cpN (cs2 := (ww im lf s (qs_A (qs_K d (qK s)) (qA s)) k ls rf rz ra rn rq lt m1 m2 m3 m4 bd fc hd sz el t g fm hm so si sh ce ca td wa kp la bf oo bo pw ow tr)) rfl w3 (w13v qg_AK) ⟨⟨by decide, Nat.le_of_ble_eq_true rfl⟩, by omega, by omega⟩ w_pt11_A ?_
    refine E_aload_n rfl rfl ?_
    refine E_getfield (v := .ref 4) rfl w1 rfl (by decide) rfl ?_
    refine E_iconst (x := nI 0) rfl (by decide) ?_
    refine E_aload_n rfl rfl ?_
    refine E_getfield (v := .ref 14) rfl w11 rfl (by decide) rfl ?_
    refine E_iconst (x := nI 0) rfl (by decide) ?_
    refine E_bipush (x := nI 9) rfl (by decide) ?_
    refine E_cpN (cs2 := (ww im lf s (qs_B (qs_A (qs_K d (qK s)) (qA s)) (qB s)) k ls rf rz ra rn rq lt m1 m2 m3 m4 bd fc hd sz el t g fm hm so si sh ce ca td wa kp la bf oo bo pw ow tr)) rfl w4 (w14v (qg_BA.trans qg_BK)) ⟨⟨by decide, Nat.le_of_ble_eq_true rfl⟩, by omega, by omega⟩ w_pt11_B ?_
    refine E_aload_n rfl rfl ?_
    refine E_getfield (v := .ref 5) rfl w1 rfl (by decide) rfl ?_
    refine E_iconst (x := nI 0) rfl (by decide) ?_
    refine E_aload_n rfl rfl ?_
    refine E_getfield (v := .ref 15) rfl w11 rfl (by decide) rfl ?_
    refine E_iconst (x := nI 0) rfl (by decide) ?_
    refine E_bipush (x := nI 9) rfl (by decide) ?_
    refine E_cpN (cs2 := (ww im lf s (qs_P (qs_B (qs_A (qs_K d (qK s)) (qA s)) (qB s)) (qP s)) k ls rf rz ra rn rq lt m1 m2 m3 m4 bd fc hd sz el t g fm hm so si sh ce ca td wa kp la bf oo bo pw ow tr)) rfl w5 (w15v (qg_PB.trans (qg_PA.trans qg_PK))) ⟨⟨by decide, Nat.le_of_ble_eq_true rfl⟩, by omega, by omega⟩ w_pt11_P ?_
    refine E_aload_n rfl rfl ?_
    refine E_getfield (v := .ref 6) rfl w1 rfl (by decide) rfl ?_
    refine E_iconst (x := nI 0) rfl (by decide) ?_
    refine E_aload_n rfl rfl ?_
    refine E_getfield (v := .ref 16) rfl w11 rfl (by decide) rfl ?_
    refine E_iconst (x := nI 0) rfl (by decide) ?_
    refine E_bipush (x := nI 6) rfl (by decide) ?_
    refine E_cpN (cs2 := (ww im lf s (qs_U (qs_P (qs_B (qs_A (qs_K d (qK s)) (qA s)) (qB s)) (qP s)) (qU s)) k ls rf rz ra rn rq lt m1 m2 m3 m4 bd fc hd sz el t g fm hm so si sh ce ca td wa kp la bf oo bo pw ow tr)) rfl w6 (w16v (qg_UP.trans (qg_UB.trans (qg_UA.trans qg_UK)))) ⟨⟨by decide, Nat.le_of_ble_eq_true rfl⟩, by omega, by omega⟩ w_pt11_U ?_
    refine E_aload_n rfl rfl ?_
    refine E_getfield (v := .ref 7) rfl w1 rfl (by decide) rfl ?_
    refine E_iconst (x := nI 0) rfl (by decide) ?_
    refine E_aload_n rfl rfl ?_
    refine E_getfield (v := .ref 17) rfl w11 rfl (by decide) rfl ?_
    refine E_iconst (x := nI 0) rfl (by decide) ?_
    refine E_bipush (x := nI 6) rfl (by decide) ?_
    refine E_cpN (cs2 := (ww im lf s (qs_L (qs_U (qs_P (qs_B (qs_A (qs_K d (qK s)) (qA s)) (qB s)) (qP s)) (qU s)) (qL s)) k ls rf rz ra rn rq lt m1 m2 m3 m4 bd fc hd sz el t g fm hm so si sh ce ca td wa kp la bf oo bo pw ow tr)) rfl w7 (w17v (qg_LU.trans (qg_LP.trans (qg_LB.trans (qg_LA.trans qg_LK))))) ⟨⟨by decide, Nat.le_of_ble_eq_true rfl⟩, by omega, by omega⟩ w_pt11_L ?_
    refine E_aload_n rfl rfl ?_
    refine E_getfield (v := .ref 8) rfl w1 rfl (by decide) rfl ?_
    refine E_iconst (x := nI 0) rfl (by decide) ?_
    refine E_aload_n rfl rfl ?_
    refine E_getfield (v := .ref 18) rfl w11 rfl (by decide) rfl ?_
    refine E_iconst (x := nI 0) rfl (by decide) ?_
    refine E_bipush (x := nI 6) rfl (by decide) ?_
    refine E_cpN (cs2 := (ww im lf s (qs_W (qs_L (qs_U (qs_P (qs_B (qs_A (qs_K d (qK s)) (qA s)) (qB s)) (qP s)) (qU s)) (qL s)) (qW s)) k ls rf rz ra rn rq lt m1 m2 m3 m4 bd fc hd sz el t g fm hm so si sh ce ca td wa kp la bf oo bo pw ow tr)) rfl w8 (w18v (qg_WL.trans (qg_WU.trans (qg_WP.trans (qg_WB.trans (qg_WA.trans qg_WK)))))) ⟨⟨by decide, Nat.le_of_ble_eq_true rfl⟩, by omega, by omega⟩ w_pt11_W ?_
    refine E_aload_n rfl rfl ?_
    refine E_getfield (v := .ref 9) rfl w1 rfl (by decide) rfl ?_
    refine E_iconst (x := nI 0) rfl (by decide) ?_
    refine E_aload_n rfl rfl ?_
    refine E_getfield (v := .ref 19) rfl w11 rfl (by decide) rfl ?_
    refine E_iconst (x := nI 0) rfl (by decide) ?_
    refine E_bipush (x := nI 6) rfl (by decide) ?_
    refine E_cpW (cs2 := (ww im lf s (qs_G (qs_W (qs_L (qs_U (qs_P (qs_B (qs_A (qs_K d (qK s)) (qA s)) (qB s)) (qP s)) (qU s)) (qL s)) (qW s)) (qG s)) k ls rf rz ra rn rq lt m1 m2 m3 m4 bd fc hd sz el t g fm hm so si sh ce ca td wa kp la bf oo bo pw ow tr)) rfl w9 (w19v (qg_GW.trans (qg_GL.trans (qg_GU.trans (qg_GP.trans (qg_GB.trans (qg_GA.trans qg_GK))))))) ⟨⟨by decide, Nat.le_of_ble_eq_true rfl⟩, by omega, by omega⟩ w_pt11_G ?_
    refine E_aload_n rfl rfl ?_
    refine E_getfield (v := .ref 10) rfl w1 rfl (by decide) rfl ?_
    refine E_iconst (x := nI 0) rfl (by decide) ?_
    refine E_aload_n rfl rfl ?_
    refine E_getfield (v := .ref 20) rfl w11 rfl (by decide) rfl ?_
    refine E_iconst (x := nI 0) rfl (by decide) ?_
    refine E_bipush (x := nI 8) rfl (by decide) ?_
    refine E_cpN (cs2 := (ww im lf s (qs_C (qs_G (qs_W (qs_L (qs_U (qs_P (qs_B (qs_A (qs_K d (qK s)) (qA s)) (qB s)) (qP s)) (qU s)) (qL s)) (qW s)) (qG s)) (qC s)) k ls rf rz ra rn rq lt m1 m2 m3 m4 bd fc hd sz el t g fm hm so si sh ce ca td wa kp la bf oo bo pw ow tr)) rfl w10 (w20v (qg_CG.trans (qg_CW.trans (qg_CL.trans (qg_CU.trans (qg_CP.trans (qg_CB.trans (qg_CA.trans qg_CK)))))))) ⟨⟨by decide, Nat.le_of_ble_eq_true rfl⟩, by omega, by omega⟩ w_pt11_C ?_
    refine E_aload_n rfl rfl ?_
    refine E_aload_n rfl rfl ?_
    refine E_getfield (v := .int (nI (qN s))) rfl w1 rfl (by decide) rfl ?_
    refine E_putfield (cs2 := (ww im lf s (qs_N (qs_C (qs_G (qs_W (qs_L (qs_U (qs_P (qs_B (qs_A (qs_K d (qK s)) (qA s)) (qB s)) (qP s)) (qU s)) (qL s)) (qW s)) (qG s)) (qC s)) (qN s)) k ls rf rz ra rn rq lt m1 m2 m3 m4 bd fc hd sz el t g fm hm so si sh ce ca td wa kp la bf oo bo pw ow tr)) rfl w11 rfl (by decide) (Nat.le_of_ble_eq_true rfl) rfl rfl rfl w_pt11_N ?_
    refine E_aload_n rfl rfl ?_
    refine E_aload_n rfl rfl ?_
    refine E_getfield (v := .int (nI (qM s))) rfl w1 rfl (by decide) rfl ?_
    refine E_putfield (cs2 := (ww im lf s (qs_M (qs_N (qs_C (qs_G (qs_W (qs_L (qs_U (qs_P (qs_B (qs_A (qs_K d (qK s)) (qA s)) (qB s)) (qP s)) (qU s)) (qL s)) (qW s)) (qG s)) (qC s)) (qN s)) (qM s)) k ls rf rz ra rn rq lt m1 m2 m3 m4 bd fc hd sz el t g fm hm so si sh ce ca td wa kp la bf oo bo pw ow tr)) rfl w11 rfl (by decide) (Nat.le_of_ble_eq_true rfl) rfl rfl rfl w_pt11_M ?_
    refine E_aload_n rfl rfl ?_
    refine E_aload_n rfl rfl ?_
    refine E_getfield (v := .int (qR s)) rfl w1 rfl (by decide) rfl ?_
    refine E_putfield (cs2 := (ww im lf s (qs_R (qs_M (qs_N (qs_C (qs_G (qs_W (qs_L (qs_U (qs_P (qs_B (qs_A (qs_K d (qK s)) (qA s)) (qB s)) (qP s)) (qU s)) (qL s)) (qW s)) (qG s)) (qC s)) (qN s)) (qM s)) (qR s)) k ls rf rz ra rn rq lt m1 m2 m3 m4 bd fc hd sz el t g fm hm so si sh ce ca td wa kp la bf oo bo pw ow tr)) rfl w11 rfl (by decide) (Nat.le_of_ble_eq_true rfl) rfl rfl rfl w_pt11_R ?_
    refine E_aload_n rfl rfl ?_
    refine E_aload_n rfl rfl ?_
    refine E_getfield (v := .int (qY s)) rfl w1 rfl (by decide) rfl ?_
    refine E_putfield (cs2 := (ww im lf s (qs_Y (qs_R (qs_M (qs_N (qs_C (qs_G (qs_W (qs_L (qs_U (qs_P (qs_B (qs_A (qs_K d (qK s)) (qA s)) (qB s)) (qP s)) (qU s)) (qL s)) (qW s)) (qG s)) (qC s)) (qN s)) (qM s)) (qR s)) (qY s)) k ls rf rz ra rn rq lt m1 m2 m3 m4 bd fc hd sz el t g fm hm so si sh ce ca td wa kp la bf oo bo pw ow tr)) rfl w11 rfl (by decide) (Nat.le_of_ble_eq_true rfl) rfl rfl rfl w_pt11_Y ?_
    refine E_aload_n rfl rfl ?_
    refine E_aload_n rfl rfl ?_
    refine E_getfield (v := .int (qD s)) rfl w1 rfl (by decide) rfl ?_
    refine E_putfield (cs2 := (ww im lf s (qs_D (qs_Y (qs_R (qs_M (qs_N (qs_C (qs_G (qs_W (qs_L (qs_U (qs_P (qs_B (qs_A (qs_K d (qK s)) (qA s)) (qB s)) (qP s)) (qU s)) (qL s)) (qW s)) (qG s)) (qC s)) (qN s)) (qM s)) (qR s)) (qY s)) (qD s)) k ls rf rz ra rn rq lt m1 m2 m3 m4 bd fc hd sz el t g fm hm so si sh ce ca td wa kp la bf oo bo pw ow tr)) rfl w11 rfl (by decide) (Nat.le_of_ble_eq_true rfl) rfl rfl rfl w_pt11_D ?_
    refine E_aload_n rfl rfl ?_
    refine E_aload_n rfl rfl ?_
    refine E_getfield (v := .int (qS s)) rfl w1 rfl (by decide) rfl ?_
    refine E_putfield (cs2 := (ww im lf s (qs_S (qs_D (qs_Y (qs_R (qs_M (qs_N (qs_C (qs_G (qs_W (qs_L (qs_U (qs_P (qs_B (qs_A (qs_K d (qK s)) (qA s)) (qB s)) (qP s)) (qU s)) (qL s)) (qW s)) (qG s)) (qC s)) (qN s)) (qM s)) (qR s)) (qY s)) (qD s)) (qS s)) k ls rf rz ra rn rq lt m1 m2 m3 m4 bd fc hd sz el t g fm hm so si sh ce ca td wa kp la bf oo bo pw ow tr)) rfl w11 rfl (by decide) (Nat.le_of_ble_eq_true rfl) rfl rfl rfl w_pt11_S ?_
    exact E_vret rfl rfl
  rw [qs_all] at X
  exact X
set_option maxHeartbeats 400000 in
theorem tk_21_1 (l : qLn k) (l2 : qLn s) : Ev ab_Z0 1 55 [.ref 21, .ref 1] (ww im lf s d k ls rf rz ra rn rq lt m1 m2 m3 m4 bd fc hd sz el t g fm hm so si sh ce ca td wa kp la bf oo bo pw ow tr) (none, (ww im lf s d s ls rf rz ra rn rq lt m1 m2 m3 m4 bd fc hd sz el t g fm hm so si sh ce ca td wa kp la bf oo bo pw ow tr)) := by
  obtain ⟨a1, a2, a3, a4, a5, a6, a7, a8, a9⟩ := id l
  obtain ⟨b1, b2, b3, b4, b5, b6, b7, b8, b9⟩ := id l2
  have X : Ev ab_Z0 1 55 [.ref 21, .ref 1] (ww im lf s d k ls rf rz ra rn rq lt m1 m2 m3 m4 bd fc hd sz el t g fm hm so si sh ce ca td wa kp la bf oo bo pw ow tr) (none, (ww im lf s d (qs_S (qs_D (qs_Y (qs_R (qs_M (qs_N (qs_C (qs_G (qs_W (qs_L (qs_U (qs_P (qs_B (qs_A (qs_K k (qK s)) (qA s)) (qB s)) (qP s)) (qU s)) (qL s)) (qW s)) (qG s)) (qC s)) (qN s)) (qM s)) (qR s)) (qY s)) (qD s)) (qS s)) ls rf rz ra rn rq lt m1 m2 m3 m4 bd fc hd sz el t g fm hm so si sh ce ca td wa kp la bf oo bo pw ow tr)) := by
    refine Ef.in (md := mX4_take) (L := [some (.ref 21), some (.ref 1)]) rfl (Nat.le_of_ble_eq_true rfl) rfl ?_
    refine E_aload_n rfl rfl ?_
    refine E_getfield (v := .ref 2) rfl w1 rfl (by decide) rfl ?_
    refine E_iconst (x := nI 0) rfl (by decide) ?_
    refine E_aload_n rfl rfl ?_
    refine E_getfield (v := .ref 22) rfl w21 rfl (by decide) rfl ?_
    refine E_iconst (x := nI 0) rfl (by decide) ?_
    refine E_bipush (x := nI 9) rfl (by decide) ?_
    refine E_cpN (cs2 := (ww im lf s d (qs_K k (qK s)) ls rf rz ra rn rq lt m1 m2 m3 m4 bd fc hd sz el t g fm hm so si sh ce ca td wa kp la bf oo bo pw ow tr)) rfl w2 w22 ⟨⟨by decide, Nat.le_of_ble_eq_true rfl⟩, by omega, by omega⟩ w_pt21_K ?_
    refine E_aload_n rfl rfl ?_
    refine E_getfield (v := .ref 3) rfl w1 rfl (by decide) rfl ?_
    refine E_iconst (x := nI 0) rfl (by decide) ?_
    refine E_aload_n rfl rfl ?_
    refine E_getfield (v := .ref 23) rfl w21 rfl (by decide) rfl ?_
    refine E_iconst (x := nI 0) rfl (by decide) ?_
    refine E_bipush (x := nI 9) rfl (by decide) ?_
    refine E_cpN (cs2 := (ww im lf s d (qs_A (qs_K k (qK s)) (qA s)) ls rf rz ra rn rq lt m1 m2 m3 m4 bd fc hd sz el t g fm hm so si sh ce ca td wa kp la bf oo bo pw ow tr)) rfl w3 (w23v qg_AK) ⟨⟨by decide, Nat.le_of_ble_eq_true rfl⟩, by omega, by omega⟩ w_pt21_A ?_
    refine E_aload_n rfl rfl ?_
    refine E_getfield (v := .ref 4) rfl w1 rfl (by decide) rfl ?_
    refine E_iconst (x := nI 0) rfl (by decide) ?_
    refine E_aload_n rfl rfl ?_
    refine E_getfield (v := .ref 24) rfl w21 rfl (by decide) rfl ?_
    refine E_iconst (x := nI 0) rfl (by decide) ?_
    refine E_bipush (x := nI 9) rfl (by decide) ?_
    refine E_cpN (cs2 := (ww im lf s d (qs_B (qs_A (qs_K k (qK s)) (qA s)) (qB s)) ls rf rz ra rn rq lt m1 m2 m3 m4 bd fc hd sz el t g fm hm so si sh ce ca td wa kp la bf oo bo pw ow tr)) rfl w4 (w24v (qg_BA.trans qg_BK)) ⟨⟨by decide, Nat.le_of_ble_eq_true rfl⟩, by omega, by omega⟩ w_pt21_B ?_
    refine E_aload_n rfl rfl ?_
    refine E_getfield (v := .ref 5) rfl w1 rfl (by decide) rfl ?_
    refine E_iconst (x := nI 0) rfl (by decide) ?_
    refine E_aload_n rfl rfl ?_
    refine E_getfield (v := .ref 25) rfl w21 rfl (by decide) rfl ?_
    refine E_iconst (x := nI 0) rfl (by decide) ?_
    refine E_bipush (x := nI 9) rfl (by decide) ?_
    refine E_cpN (cs2 := (ww im lf s d (qs_P (qs_B (qs_A (qs_K k (qK s)) (qA s)) (qB s)) (qP s)) ls rf rz ra rn rq lt m1 m2 m3 m4 bd fc hd sz el t g fm hm so si sh ce ca td wa kp la bf oo bo pw ow tr)) rfl w5 (w25v (qg_PB.trans (qg_PA.trans qg_PK))) ⟨⟨by decide, Nat.le_of_ble_eq_true rfl⟩, by omega, by omega⟩ w_pt21_P ?_
    refine E_aload_n rfl rfl ?_
    refine E_getfield (v := .ref 6) rfl w1 rfl (by decide) rfl ?_
    refine E_iconst (x := nI 0) rfl (by decide) ?_
    refine E_aload_n rfl rfl ?_
    refine E_getfield (v := .ref 26) rfl w21 rfl (by decide) rfl ?_
    refine E_iconst (x := nI 0) rfl (by decide) ?_
    refine E_bipush (x := nI 6) rfl (by decide) ?_
    refine E_cpN (cs2 := (ww im lf s d (qs_U (qs_P (qs_B (qs_A (qs_K k (qK s)) (qA s)) (qB s)) (qP s)) (qU s)) ls rf rz ra rn rq lt m1 m2 m3 m4 bd fc hd sz el t g fm hm so si sh ce ca td wa kp la bf oo bo pw ow tr)) rfl w6 (w26v (qg_UP.trans (qg_UB.trans (qg_UA.trans qg_UK)))) ⟨⟨by decide, Nat.le_of_ble_eq_true rfl⟩, by omega, by omega⟩ w_pt21_U ?_
    refine E_aload_n rfl rfl ?_
    refine E_getfield (v := .ref 7) rfl w1 rfl (by decide) rfl ?_
    refine E_iconst (x := nI 0) rfl (by decide) ?_
    refine E_aload_n rfl rfl ?_
    refine E_getfield (v := .ref 27) rfl w21 rfl (by decide) rfl ?_
    refine E_iconst (x := nI 0) rfl (by decide) ?_
    refine E_bipush (x := nI 6) rfl (by decide) ?_
    refine E_cpN (cs2 := (ww im lf s d (qs_L (qs_U (qs_P (qs_B (qs_A (qs_K k (qK s)) (qA s)) (qB s)) (qP s)) (qU s)) (qL s)) ls rf rz ra rn rq lt m1 m2 m3 m4 bd fc hd sz el t g fm hm so si sh ce ca td wa kp la bf oo bo pw ow tr)) rfl w7 (w27v (qg_LU.trans (qg_LP.trans (qg_LB.trans (qg_LA.trans qg_LK))))) ⟨⟨by decide, Nat.le_of_ble_eq_true rfl⟩, by omega, by omega⟩ w_pt21_L ?_
    refine E_aload_n rfl rfl ?_
    refine E_getfield (v := .ref 8) rfl w1 rfl (by decide) rfl ?_
    refine E_iconst (x := nI 0) rfl (by decide) ?_
    refine E_aload_n rfl rfl ?_
    refine E_getfield (v := .ref 28) rfl w21 rfl (by decide) rfl ?_
    refine E_iconst (x := nI 0) rfl (by decide) ?_
    refine E_bipush (x := nI 6) rfl (by decide) ?_
    refine E_cpN (cs2 := (ww im lf s d (qs_W (qs_L (qs_U (qs_P (qs_B (qs_A (qs_K k (qK s)) (qA s)) (qB s)) (qP s)) (qU s)) (qL s)) (qW s)) ls rf rz ra rn rq lt m1 m2 m3 m4 bd fc hd sz el t g fm hm so si sh ce ca td wa kp la bf oo bo pw ow tr)) rfl w8 (w28v (qg_WL.trans (qg_WU.trans (qg_WP.trans (qg_WB.trans (qg_WA.trans qg_WK)))))) ⟨⟨by decide, Nat.le_of_ble_eq_true rfl⟩, by omega, by omega⟩ w_pt21_W ?_
    refine E_aload_n rfl rfl ?_
    refine E_getfield (v := .ref 9) rfl w1 rfl (by decide) rfl ?_
    refine E_iconst (x := nI 0) rfl (by decide) ?_
    refine E_aload_n rfl rfl ?_
    refine E_getfield (v := .ref 29) rfl w21 rfl (by decide) rfl ?_
    refine E_iconst (x := nI 0) rfl (by decide) ?_
    refine E_bipush (x := nI 6) rfl (by decide) ?_
    refine E_cpW (cs2 := (ww im lf s d (qs_G (qs_W (qs_L (qs_U (qs_P (qs_B (qs_A (qs_K k (qK s)) (qA s)) (qB s)) (qP s)) (qU s)) (qL s)) (qW s)) (qG s)) ls rf rz ra rn rq lt m1 m2 m3 m4 bd fc hd sz el t g fm hm so si sh ce ca td wa kp la bf oo bo pw ow tr)) rfl w9 (w29v (qg_GW.trans (qg_GL.trans (qg_GU.trans (qg_GP.trans (qg_GB.trans (qg_GA.trans qg_GK))))))) ⟨⟨by decide, Nat.le_of_ble_eq_true rfl⟩, by omega, by omega⟩ w_pt21_G ?_
    refine E_aload_n rfl rfl ?_
    refine E_getfield (v := .ref 10) rfl w1 rfl (by decide) rfl ?_
    refine E_iconst (x := nI 0) rfl (by decide) ?_
    refine E_aload_n rfl rfl ?_
    refine E_getfield (v := .ref 30) rfl w21 rfl (by decide) rfl ?_
    refine E_iconst (x := nI 0) rfl (by decide) ?_
    refine E_bipush (x := nI 8) rfl (by decide) ?_
    refine E_cpN (cs2 := (ww im lf s d (qs_C (qs_G (qs_W (qs_L (qs_U (qs_P (qs_B (qs_A (qs_K k (qK s)) (qA s)) (qB s)) (qP s)) (qU s)) (qL s)) (qW s)) (qG s)) (qC s)) ls rf rz ra rn rq lt m1 m2 m3 m4 bd fc hd sz el t g fm hm so si sh ce ca td wa kp la bf oo bo pw ow tr)) rfl w10 (w30v (qg_CG.trans (qg_CW.trans (qg_CL.trans (qg_CU.trans (qg_CP.trans (qg_CB.trans (qg_CA.trans qg_CK)))))))) ⟨⟨by decide, Nat.le_of_ble_eq_true rfl⟩, by omega, by omega⟩ w_pt21_C ?_
    refine E_aload_n rfl rfl ?_
    refine E_aload_n rfl rfl ?_
    refine E_getfield (v := .int (nI (qN s))) rfl w1 rfl (by decide) rfl ?_
    refine E_putfield (cs2 := (ww im lf s d (qs_N (qs_C (qs_G (qs_W (qs_L (qs_U (qs_P (qs_B (qs_A (qs_K k (qK s)) (qA s)) (qB s)) (qP s)) (qU s)) (qL s)) (qW s)) (qG s)) (qC s)) (qN s)) ls rf rz ra rn rq lt m1 m2 m3 m4 bd fc hd sz el t g fm hm so si sh ce ca td wa kp la bf oo bo pw ow tr)) rfl w21 rfl (by decide) (Nat.le_of_ble_eq_true rfl) rfl rfl rfl w_pt21_N ?_
    refine E_aload_n rfl rfl ?_
    refine E_aload_n rfl rfl ?_
    refine E_getfield (v := .int (nI (qM s))) rfl w1 rfl (by decide) rfl ?_
    refine E_putfield (cs2 := (ww im lf s d (qs_M (qs_N (qs_C (qs_G (qs_W (qs_L (qs_U (qs_P (qs_B (qs_A (qs_K k (qK s)) (qA s)) (qB s)) (qP s)) (qU s)) (qL s)) (qW s)) (qG s)) (qC s)) (qN s)) (qM s)) ls rf rz ra rn rq lt m1 m2 m3 m4 bd fc hd sz el t g fm hm so si sh ce ca td wa kp la bf oo bo pw ow tr)) rfl w21 rfl (by decide) (Nat.le_of_ble_eq_true rfl) rfl rfl rfl w_pt21_M ?_
    refine E_aload_n rfl rfl ?_
    refine E_aload_n rfl rfl ?_
    refine E_getfield (v := .int (qR s)) rfl w1 rfl (by decide) rfl ?_
    refine E_putfield (cs2 := (ww im lf s d (qs_R (qs_M (qs_N (qs_C (qs_G (qs_W (qs_L (qs_U (qs_P (qs_B (qs_A (qs_K k (qK s)) (qA s)) (qB s)) (qP s)) (qU s)) (qL s)) (qW s)) (qG s)) (qC s)) (qN s)) (qM s)) (qR s)) ls rf rz ra rn rq lt m1 m2 m3 m4 bd fc hd sz el t g fm hm so si sh ce ca td wa kp la bf oo bo pw ow tr)) rfl w21 rfl (by decide) (Nat.le_of_ble_eq_true rfl) rfl rfl rfl w_pt21_R ?_
    refine E_aload_n rfl rfl ?_
    refine E_aload_n rfl rfl ?_
    refine E_getfield (v := .int (qY s)) rfl w1 rfl (by decide) rfl ?_
    refine E_putfield (cs2 := (ww im lf s d (qs_Y (qs_R (qs_M (qs_N (qs_C (qs_G (qs_W (qs_L (qs_U (qs_P (qs_B (qs_A (qs_K k (qK s)) (qA s)) (qB s)) (qP s)) (qU s)) (qL s)) (qW s)) (qG s)) (qC s)) (qN s)) (qM s)) (qR s)) (qY s)) ls rf rz ra rn rq lt m1 m2 m3 m4 bd fc hd sz el t g fm hm so si sh ce ca td wa kp la bf oo bo pw ow tr)) rfl w21 rfl (by decide) (Nat.le_of_ble_eq_true rfl) rfl rfl rfl w_pt21_Y ?_
    refine E_aload_n rfl rfl ?_
    refine E_aload_n rfl rfl ?_
    refine E_getfield (v := .int (qD s)) rfl w1 rfl (by decide) rfl ?_
    refine E_putfield (cs2 := (ww im lf s d (qs_D (qs_Y (qs_R (qs_M (qs_N (qs_C (qs_G (qs_W (qs_L (qs_U (qs_P (qs_B (qs_A (qs_K k (qK s)) (qA s)) (qB s)) (qP s)) (qU s)) (qL s)) (qW s)) (qG s)) (qC s)) (qN s)) (qM s)) (qR s)) (qY s)) (qD s)) ls rf rz ra rn rq lt m1 m2 m3 m4 bd fc hd sz el t g fm hm so si sh ce ca td wa kp la bf oo bo pw ow tr)) rfl w21 rfl (by decide) (Nat.le_of_ble_eq_true rfl) rfl rfl rfl w_pt21_D ?_
    refine E_aload_n rfl rfl ?_
    refine E_aload_n rfl rfl ?_
    refine E_getfield (v := .int (qS s)) rfl w1 rfl (by decide) rfl ?_
    refine E_putfield (cs2 := (ww im lf s d (qs_S (qs_D (qs_Y (qs_R (qs_M (qs_N (qs_C (qs_G (qs_W (qs_L (qs_U (qs_P (qs_B (qs_A (qs_K k (qK s)) (qA s)) (qB s)) (qP s)) (qU s)) (qL s)) (qW s)) (qG s)) (qC s)) (qN s)) (qM s)) (qR s)) (qY s)) (qD s)) (qS s)) ls rf rz ra rn rq lt m1 m2 m3 m4 bd fc hd sz el t g fm hm so si sh ce ca td wa kp la bf oo bo pw ow tr)) rfl w21 rfl (by decide) (Nat.le_of_ble_eq_true rfl) rfl rfl rfl w_pt21_S ?_
    exact E_vret rfl rfl
  rw [qs_all] at X
  exact X
set_option maxHeartbeats 400000 in
theorem tk_35_1 (l : qLn rq) (l2 : qLn s) : Ev ab_Z0 1 55 [.ref 35, .ref 1] (ww im lf s d k ls rf rz ra rn rq lt m1 m2 m3 m4 bd fc hd sz el t g fm hm so si sh ce ca td wa kp la bf oo bo pw ow tr) (none, (ww im lf s d k ls rf rz ra rn s lt m1 m2 m3 m4 bd fc hd sz el t g fm hm so si sh ce ca td wa kp la bf oo bo pw ow tr)) := by
  obtain ⟨a1, a2, a3, a4, a5, a6, a7, a8, a9⟩ := id l
  obtain ⟨b1, b2, b3, b4, b5, b6, b7, b8, b9⟩ := id l2
  have X : Ev ab_Z0 1 55 [.ref 35, .ref 1] (ww im lf s d k ls rf rz ra rn rq lt m1 m2 m3 m4 bd fc hd sz el t g fm hm so si sh ce ca td wa kp la bf oo bo pw ow tr) (none, (ww im lf s d k ls rf rz ra rn (qs_S (qs_D (qs_Y (qs_R (qs_M (qs_N (qs_C (qs_G (qs_W (qs_L (qs_U (qs_P (qs_B (qs_A (qs_K rq (qK s)) (qA s)) (qB s)) (qP s)) (qU s)) (qL s)) (qW s)) (qG s)) (qC s)) (qN s)) (qM s)) (qR s)) (qY s)) (qD s)) (qS s)) lt m1 m2 m3 m4 bd fc hd sz el t g fm hm so si sh ce ca td wa kp la bf oo bo pw ow tr)) := by
    refine Ef.in (md := mX4_take) (L := [some (.ref 35), some (.ref 1)]) rfl (Nat.le_of_ble_eq_true rfl) rfl ?_
    refine E_aload_n rfl rfl ?_
    refine E_getfield (v := .ref 2) rfl w1 rfl (by decide) rfl ?_
    refine E_iconst (x := nI 0) rfl (by decide) ?_
    refine E_aload_n rfl rfl ?_
    refine E_getfield (v := .ref 36) rfl w35 rfl (by decide) rfl ?_
    refine E_iconst (x := nI 0) rfl (by decide) ?_
    refine E_bipush (x := nI 9) rfl (by decide) ?_
    refine E_cpN (cs2 := (ww im lf s d k ls rf rz ra rn (qs_K rq (qK s)) lt m1 m2 m3 m4 bd fc hd sz el t g fm hm so si sh ce ca td wa kp la bf oo bo pw ow tr)) rfl w2 w36 ⟨⟨by decide, Nat.le_of_ble_eq_true rfl⟩, by omega, by omega⟩ w_pt35_K ?_
    refine E_aload_n rfl rfl ?_
    refine E_getfield (v := .ref 3) rfl w1 rfl (by decide) rfl ?_
    refine E_iconst (x := nI 0) rfl (by decide) ?_
    refine E_aload_n rfl rfl ?_
    refine E_getfield (v := .ref 37) rfl w35 rfl (by decide) rfl ?_
    refine E_iconst (x := nI 0) rfl (by decide) ?_
    refine E_bipush (x := nI 9) rfl (by decide) ?_
    refine E_cpN (cs2 := (ww im lf s d k ls rf rz ra rn (qs_A (qs_K rq (qK s)) (qA s)) lt m1 m2 m3 m4 bd fc hd sz el t g fm hm so si sh ce ca td wa kp la bf oo bo pw ow tr)) rfl w3 (w37v qg_AK) ⟨⟨by decide, Nat.le_of_ble_eq_true rfl⟩, by omega, by omega⟩ w_pt35_A ?_
    refine E_aload_n rfl rfl ?_
    refine E_getfield (v := .ref 4) rfl w1 rfl (by decide) rfl ?_
    refine E_iconst (x := nI 0) rfl (by decide) ?_
    refine E_aload_n rfl rfl ?_
    refine E_getfield (v := .ref 38) rfl w35 rfl (by decide) rfl ?_
    refine E_iconst (x := nI 0) rfl (by decide) ?_
    refine E_bipush (x := nI 9) rfl (by decide) ?_
    refine E_cpN (cs2 := (ww im lf s d k ls rf rz ra rn (qs_B (qs_A (qs_K rq (qK s)) (qA s)) (qB s)) lt m1 m2 m3 m4 bd fc hd sz el t g fm hm so si sh ce ca td wa kp la bf oo bo pw ow tr)) rfl w4 (w38v (qg_BA.trans qg_BK)) ⟨⟨by decide, Nat.le_of_ble_eq_true rfl⟩, by omega, by omega⟩ w_pt35_B ?_
    refine E_aload_n rfl rfl ?_
    refine E_getfield (v := .ref 5) rfl w1 rfl (by decide) rfl ?_
    refine E_iconst (x := nI 0) rfl (by decide) ?_
    refine E_aload_n rfl rfl ?_
    refine E_getfield (v := .ref 39) rfl w35 rfl (by decide) rfl ?_
    refine E_iconst (x := nI 0) rfl (by decide) ?_
    refine E_bipush (x := nI 9) rfl (by decide) ?_
    refine E_cpN (cs2 := (ww im lf s d k ls rf rz ra rn (qs_P (qs_B (qs_A (qs_K rq (qK s)) (qA s)) (qB s)) (qP s)) lt m1 m2 m3 m4 bd fc hd sz el t g fm hm so si sh ce ca td wa kp la bf oo bo pw ow tr)) rfl w5 (w39v (qg_PB.trans (qg_PA.trans qg_PK))) ⟨⟨by decide, Nat.le_of_ble_eq_true rfl⟩, by omega, by omega⟩ w_pt35_P ?_
    refine E_aload_n rfl rfl ?_
    refine E_getfield (v := .ref 6) rfl w1 rfl (by decide) rfl ?_
    refine E_iconst (x := nI 0) rfl (by decide) ?_
    refine E_aload_n rfl rfl ?_
    refine E_getfield (v := .ref 40) rfl w35 rfl (by decide) rfl ?_
    refine E_iconst (x := nI 0) rfl (by decide) ?_
    refine E_bipush (x := nI 6) rfl (by decide) ?_
    refine E_cpN (cs2 := (ww im lf s d k ls rf rz ra rn (qs_U (qs_P (qs_B (qs_A (qs_K rq (qK s)) (qA s)) (qB s)) (qP s)) (qU s)) lt m1 m2 m3 m4 bd fc hd sz el t g fm hm so si sh ce ca td wa kp la bf oo bo pw ow tr)) rfl w6 (w40v (qg_UP.trans (qg_UB.trans (qg_UA.trans qg_UK)))) ⟨⟨by decide, Nat.le_of_ble_eq_true rfl⟩, by omega, by omega⟩ w_pt35_U ?_
    refine E_aload_n rfl rfl ?_
    refine E_getfield (v := .ref 7) rfl w1 rfl (by decide) rfl ?_
    refine E_iconst (x := nI 0) rfl (by decide) ?_
    refine E_aload_n rfl rfl ?_
    refine E_getfield (v := .ref 41) rfl w35 rfl (by decide) rfl ?_
    refine E_iconst (x := nI 0) rfl (by decide) ?_
    refine E_bipush (x := nI 6) rfl (by decide) ?_
    refine E_cpN (cs2 := (ww im lf s d k ls rf rz ra rn (qs_L (qs_U (qs_P (qs_B (qs_A (qs_K rq (qK s)) (qA s)) (qB s)) (qP s)) (qU s)) (qL s)) lt m1 m2 m3 m4 bd fc hd sz el t g fm hm so si sh ce ca td wa kp la bf oo bo pw ow tr)) rfl w7 (w41v (qg_LU.trans (qg_LP.trans (qg_LB.trans (qg_LA.trans qg_LK))))) ⟨⟨by decide, Nat.le_of_ble_eq_true rfl⟩, by omega, by omega⟩ w_pt35_L ?_
    refine E_aload_n rfl rfl ?_
    refine E_getfield (v := .ref 8) rfl w1 rfl (by decide) rfl ?_
    refine E_iconst (x := nI 0) rfl (by decide) ?_
    refine E_aload_n rfl rfl ?_
    refine E_getfield (v := .ref 42) rfl w35 rfl (by decide) rfl ?_
    refine E_iconst (x := nI 0) rfl (by decide) ?_
    refine E_bipush (x := nI 6) rfl (by decide) ?_
    refine E_cpN (cs2 := (ww im lf s d k ls rf rz ra rn (qs_W (qs_L (qs_U (qs_P (qs_B (qs_A (qs_K rq (qK s)) (qA s)) (qB s)) (qP s)) (qU s)) (qL s)) (qW s)) lt m1 m2 m3 m4 bd fc hd sz el t g fm hm so si sh ce ca td wa kp la bf oo bo pw ow tr)) rfl w8 (w42v (qg_WL.trans (qg_WU.trans (qg_WP.trans (qg_WB.trans (qg_WA.trans qg_WK)))))) ⟨⟨by decide, Nat.le_of_ble_eq_true rfl⟩, by omega, by omega⟩ w_pt35_W ?_
    refine E_aload_n rfl rfl ?_
    refine E_getfield (v := .ref 9) rfl w1 rfl (by decide) rfl ?_
    refine E_iconst (x := nI 0) rfl (by decide) ?_
    refine E_aload_n rfl rfl ?_
    refine E_getfield (v := .ref 43) rfl w35 rfl (by decide) rfl ?_
    refine E_iconst (x := nI 0) rfl (by decide) ?_
    refine E_bipush (x := nI 6) rfl (by decide) ?_
    refine E_cpW (cs2 := (ww im lf s d k ls rf rz ra rn (qs_G (qs_W (qs_L (qs_U (qs_P (qs_B (qs_A (qs_K rq (qK s)) (qA s)) (qB s)) (qP s)) (qU s)) (qL s)) (qW s)) (qG s)) lt m1 m2 m3 m4 bd fc hd sz el t g fm hm so si sh ce ca td wa kp la bf oo bo pw ow tr)) rfl w9 (w43v (qg_GW.trans (qg_GL.trans (qg_GU.trans (qg_GP.trans (qg_GB.trans (qg_GA.trans qg_GK))))))) ⟨⟨by decide, Nat.le_of_ble_eq_true rfl⟩, by omega, by omega⟩ w_pt35_G ?_
    refine E_aload_n rfl rfl ?_
    refine E_getfield (v := .ref 10) rfl w1 rfl (by decide) rfl ?_
    refine E_iconst (x := nI 0) rfl (by decide) ?_
    refine E_aload_n rfl rfl ?_
    refine E_getfield (v := .ref 44) rfl w35 rfl (by decide) rfl ?_
    refine E_iconst (x := nI 0) rfl (by decide) ?_
    refine E_bipush (x := nI 8) rfl (by decide) ?_
    refine E_cpN (cs2 := (ww im lf s d k ls rf rz ra rn (qs_C (qs_G (qs_W (qs_L (qs_U (qs_P (qs_B (qs_A (qs_K rq (qK s)) (qA s)) (qB s)) (qP s)) (qU s)) (qL s)) (qW s)) (qG s)) (qC s)) lt m1 m2 m3 m4 bd fc hd sz el t g fm hm so si sh ce ca td wa kp la bf oo bo pw ow tr)) rfl w10 (w44v (qg_CG.trans (qg_CW.trans (qg_CL.trans (qg_CU.trans (qg_CP.trans (qg_CB.trans (qg_CA.trans qg_CK)))))))) ⟨⟨by decide, Nat.le_of_ble_eq_true rfl⟩, by omega, by omega⟩ w_pt35_C ?_
    refine E_aload_n rfl rfl ?_
    refine E_aload_n rfl rfl ?_
    refine E_getfield (v := .int (nI (qN s))) rfl w1 rfl (by decide) rfl ?_
    refine E_putfield (cs2 := (ww im lf s d k ls rf rz ra rn (qs_N (qs_C (qs_G (qs_W (qs_L (qs_U (qs_P (qs_B (qs_A (qs_K rq (qK s)) (qA s)) (qB s)) (qP s)) (qU s)) (qL s)) (qW s)) (qG s)) (qC s)) (qN s)) lt m1 m2 m3 m4 bd fc hd sz el t g fm hm so si sh ce ca td wa kp la bf oo bo pw ow tr)) rfl w35 rfl (by decide) (Nat.le_of_ble_eq_true rfl) rfl rfl rfl w_pt35_N ?_
    refine E_aload_n rfl rfl ?_
    refine E_aload_n rfl rfl ?_
    refine E_getfield (v := .int (nI (qM s))) rfl w1 rfl (by decide) rfl ?_
    refine E_putfield (cs2 := (ww im lf s d k ls rf rz ra rn (qs_M (qs_N (qs_C (qs_G (qs_W (qs_L (qs_U (qs_P (qs_B (qs_A (qs_K rq (qK s)) (qA s)) (qB s)) (qP s)) (qU s)) (qL s)) (qW s)) (qG s)) (qC s)) (qN s)) (qM s)) lt m1 m2 m3 m4 bd fc hd sz el t g fm hm so si sh ce ca td wa kp la bf oo bo pw ow tr)) rfl w35 rfl (by decide) (Nat.le_of_ble_eq_true rfl) rfl rfl rfl w_pt35_M ?_
    refine E_aload_n rfl rfl ?_
    refine E_aload_n rfl rfl ?_
    refine E_getfield (v := .int (qR s)) rfl w1 rfl (by decide) rfl ?_
    refine E_putfield (cs2 := (ww im lf s d k ls rf rz ra rn (qs_R (qs_M (qs_N (qs_C (qs_G (qs_W (qs_L (qs_U (qs_P (qs_B (qs_A (qs_K rq (qK s)) (qA s)) (qB s)) (qP s)) (qU s)) (qL s)) (qW s)) (qG s)) (qC s)) (qN s)) (qM s)) (qR s)) lt m1 m2 m3 m4 bd fc hd sz el t g fm hm so si sh ce ca td wa kp la bf oo bo pw ow tr)) rfl w35 rfl (by decide) (Nat.le_of_ble_eq_true rfl) rfl rfl rfl w_pt35_R ?_
    refine E_aload_n rfl rfl ?_
    refine E_aload_n rfl rfl ?_
    refine E_getfield (v := .int (qY s)) rfl w1 rfl (by decide) rfl ?_
    refine E_putfield (cs2 := (ww im lf s d k ls rf rz ra rn (qs_Y (qs_R (qs_M (qs_N (qs_C (qs_G (qs_W (qs_L (qs_U (qs_P (qs_B (qs_A (qs_K rq (qK s)) (qA s)) (qB s)) (qP s)) (qU s)) (qL s)) (qW s)) (qG s)) (qC s)) (qN s)) (qM s)) (qR s)) (qY s)) lt m1 m2 m3 m4 bd fc hd sz el t g fm hm so si sh ce ca td wa kp la bf oo bo pw ow tr)) rfl w35 rfl (by decide) (Nat.le_of_ble_eq_true rfl) rfl rfl rfl w_pt35_Y ?_
    refine E_aload_n rfl rfl ?_
    refine E_aload_n rfl rfl ?_
    refine E_getfield (v := .int (qD s)) rfl w1 rfl (by decide) rfl ?_
    refine E_putfield (cs2 := (ww im lf s d k ls rf rz ra rn (qs_D (qs_Y (qs_R (qs_M (qs_N (qs_C (qs_G (qs_W (qs_L (qs_U (qs_P (qs_B (qs_A (qs_K rq (qK s)) (qA s)) (qB s)) (qP s)) (qU s)) (qL s)) (qW s)) (qG s)) (qC s)) (qN s)) (qM s)) (qR s)) (qY s)) (qD s)) lt m1 m2 m3 m4 bd fc hd sz el t g fm hm so si sh ce ca td wa kp la bf oo bo pw ow tr)) rfl w35 rfl (by decide) (Nat.le_of_ble_eq_true rfl) rfl rfl rfl w_pt35_D ?_
    refine E_aload_n rfl rfl ?_
    refine E_aload_n rfl rfl ?_
    refine E_getfield (v := .int (qS s)) rfl w1 rfl (by decide) rfl ?_
    refine E_putfield (cs2 := (ww im lf s d k ls rf rz ra rn (qs_S (qs_D (qs_Y (qs_R (qs_M (qs_N (qs_C (qs_G (qs_W (qs_L (qs_U (qs_P (qs_B (qs_A (qs_K rq (qK s)) (qA s)) (qB s)) (qP s)) (qU s)) (qL s)) (qW s)) (qG s)) (qC s)) (qN s)) (qM s)) (qR s)) (qY s)) (qD s)) (qS s)) lt m1 m2 m3 m4 bd fc hd sz el t g fm hm so si sh ce ca td wa kp la bf oo bo pw ow tr)) rfl w35 rfl (by decide) (Nat.le_of_ble_eq_true rfl) rfl rfl rfl w_pt35_S ?_
    exact E_vret rfl rfl
  rw [qs_all] at X
  exact X
end TK
