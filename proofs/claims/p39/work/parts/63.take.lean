/-! a square takes what another holds; by program (wip/tools/mk63.py) -/
section TK
variable {im : Int32} {lf : Int32} {s : ab_q} {d : ab_q} {k : ab_q} {ls : List Int32} {rf : Int32} {rz : Int32} {ra : Int32} {rn : Int32} {rq : ab_q} {lt : List Int32} {m1 : Int32} {m2 : Int32} {m3 : Int32} {m4 : Int32} {bd : List Int32} {fc : List Int32} {hd : Nat → Int32} {sz : Nat → Int32} {el : Nat → List Int64} {t : ab_q} {g : Nat → Int32} {fm : List Int32} {hm : List Nat} {so : List Nat} {si : List Nat} {sh : List Int32} {ce : List Int64} {ca : List Int64} {td : List Int32} {wa : List Int32} {kp : List Int32} {la : List Int32} {bf : List Int32} {oo : List Int32} {bo : List Int32} {pw : List Int32} {ow : List Int32} {tr : List Int32}
set_option maxHeartbeats 400000 in
theorem tk_1_11 (l : qLn s) (l2 : qLn d) : Ev ab_Z0 1 55 [.ref 1, .ref 11] (ww im lf s d k ls rf rz ra rn rq lt m1 m2 m3 m4 bd fc hd sz el t g fm hm so si sh ce ca td wa kp la bf oo bo pw ow tr) (none, (ww im lf d d k ls rf rz ra rn rq lt m1 m2 m3 m4 bd fc hd sz el t g fm hm so si sh ce ca td wa kp la bf oo bo pw ow tr)) := by
  obtain ⟨a1, a2, a3, a4, a5, a6, a7, a8, a9⟩ := id l
  obtain ⟨b1, b2, b3, b4, b5, b6, b7, b8, b9⟩ := id l2
  have X : Ev ab_Z0 1 55 [.ref 1, .ref 11] (ww im lf s d k ls rf rz ra rn rq lt m1 m2 m3 m4 bd fc hd sz el t g fm hm so si sh ce ca td wa kp la bf oo bo pw ow tr) (none, (ww im lf (qs_S (qs_D (qs_Y (qs_R (qs_M (qs_N (qs_C (qs_G (qs_W (qs_L (qs_U (qs_P (qs_B (qs_A (qs_K s (qK d)) (qA d)) (qB d)) (qP d)) (qU d)) (qL d)) (qW d)) (qG d)) (qC d)) (qN d)) (qM d)) (qR d)) (qY d)) (qD d)) (qS d)) d k ls rf rz ra rn rq lt m1 m2 m3 m4 bd fc hd sz el t g fm hm so si sh ce ca td wa kp la bf oo bo pw ow tr)) := by
    refine Ef.in (md := mX4_take) (L := [some (.ref 1), some (.ref 11)]) rfl (Nat.le_of_ble_eq_true rfl) rfl ?_
    refine E_aload_n at_X4_take_0 rfl ?_
    refine E_getfield (v := .ref 12) at_X4_take_1 w11 rfl (by decide) rfl ?_
    refine E_iconst (x := nI 0) at_X4_take_4 (by decide) ?_
    refine E_aload_n at_X4_take_5 rfl ?_
    refine E_getfield (v := .ref 2) at_X4_take_6 w1 rfl (by decide) rfl ?_
    refine E_iconst (x := nI 0) at_X4_take_9 (by decide) ?_
    refine E_bipush (x := nI 9) at_X4_take_10 (by decide) ?_
    refine E_cpN (cs2 := (ww im lf (qs_K s (qK d)) d k ls rf rz ra rn rq lt m1 m2 m3 m4 bd fc hd sz el t g fm hm so si sh ce ca td wa kp la bf oo bo pw ow tr)) at_X4_take_12 w12 w2 ⟨⟨by decide, Nat.le_of_ble_eq_true rfl⟩, by omega, by omega⟩ w_pt1_K ?_
    refine E_aload_n at_X4_take_15 rfl ?_
    refine E_getfield (v := .ref 13) at_X4_take_16 w11 rfl (by decide) rfl ?_
    refine E_iconst (x := nI 0) at_X4_take_19 (by decide) ?_
    refine E_aload_n at_X4_take_20 rfl ?_
    refine E_getfield (v := .ref 3) at_X4_take_21 w1 rfl (by decide) rfl ?_
    refine E_iconst (x := nI 0) at_X4_take_24 (by decide) ?_
    refine E_bipush (x := nI 9) at_X4_take_25 (by decide) ?_
    refine E_cpN (cs2 := (ww im lf (qs_A (qs_K s (qK d)) (qA d)) d k ls rf rz ra rn rq lt m1 m2 m3 m4 bd fc hd sz el t g fm hm so si sh ce ca td wa kp la bf oo bo pw ow tr)) at_X4_take_27 w13 (w3v qg_AK) ⟨⟨by decide, Nat.le_of_ble_eq_true rfl⟩, by omega, by omega⟩ w_pt1_A ?_
    refine E_aload_n at_X4_take_30 rfl ?_
    refine E_getfield (v := .ref 14) at_X4_take_31 w11 rfl (by decide) rfl ?_
    refine E_iconst (x := nI 0) at_X4_take_34 (by decide) ?_
    refine E_aload_n at_X4_take_35 rfl ?_
    refine E_getfield (v := .ref 4) at_X4_take_36 w1 rfl (by decide) rfl ?_
    refine E_iconst (x := nI 0) at_X4_take_39 (by decide) ?_
    refine E_bipush (x := nI 9) at_X4_take_40 (by decide) ?_
    refine E_cpN (cs2 := (ww im lf (qs_B (qs_A (qs_K s (qK d)) (qA d)) (qB d)) d k ls rf rz ra rn rq lt m1 m2 m3 m4 bd fc hd sz el t g fm hm so si sh ce ca td wa kp la bf oo bo pw ow tr)) at_X4_take_42 w14 (w4v (qg_BA.trans qg_BK)) ⟨⟨by decide, Nat.le_of_ble_eq_true rfl⟩, by omega, by omega⟩ w_pt1_B ?_
    refine E_aload_n at_X4_take_45 rfl ?_
    refine E_getfield (v := .ref 15) at_X4_take_46 w11 rfl (by decide) rfl ?_
    refine E_iconst (x := nI 0) at_X4_take_49 (by decide) ?_
    refine E_aload_n at_X4_take_50 rfl ?_
    refine E_getfield (v := .ref 5) at_X4_take_51 w1 rfl (by decide) rfl ?_
    refine E_iconst (x := nI 0) at_X4_take_54 (by decide) ?_
    refine E_bipush (x := nI 9) at_X4_take_55 (by decide) ?_
    refine E_cpN (cs2 := (ww im lf (qs_P (qs_B (qs_A (qs_K s (qK d)) (qA d)) (qB d)) (qP d)) d k ls rf rz ra rn rq lt m1 m2 m3 m4 bd fc hd sz el t g fm hm so si sh ce ca td wa kp la bf oo bo pw ow tr)) at_X4_take_57 w15 (w5v (qg_PB.trans (qg_PA.trans qg_PK))) ⟨⟨by decide, Nat.le_of_ble_eq_true rfl⟩, by omega, by omega⟩ w_pt1_P ?_
    refine E_aload_n at_X4_take_60 rfl ?_
    refine E_getfield (v := .ref 16) at_X4_take_61 w11 rfl (by decide) rfl ?_
    refine E_iconst (x := nI 0) at_X4_take_64 (by decide) ?_
    refine E_aload_n at_X4_take_65 rfl ?_
    refine E_getfield (v := .ref 6) at_X4_take_66 w1 rfl (by decide) rfl ?_
    refine E_iconst (x := nI 0) at_X4_take_69 (by decide) ?_
    refine E_bipush (x := nI 6) at_X4_take_70 (by decide) ?_
    refine E_cpN (cs2 := (ww im lf (qs_U (qs_P (qs_B (qs_A (qs_K s (qK d)) (qA d)) (qB d)) (qP d)) (qU d)) d k ls rf rz ra rn rq lt m1 m2 m3 m4 bd fc hd sz el t g fm hm so si sh ce ca td wa kp la bf oo bo pw ow tr)) at_X4_take_72 w16 (w6v (qg_UP.trans (qg_UB.trans (qg_UA.trans qg_UK)))) ⟨⟨by decide, Nat.le_of_ble_eq_true rfl⟩, by omega, by omega⟩ w_pt1_U ?_
    refine E_aload_n at_X4_take_75 rfl ?_
    refine E_getfield (v := .ref 17) at_X4_take_76 w11 rfl (by decide) rfl ?_
    refine E_iconst (x := nI 0) at_X4_take_79 (by decide) ?_
    refine E_aload_n at_X4_take_80 rfl ?_
    refine E_getfield (v := .ref 7) at_X4_take_81 w1 rfl (by decide) rfl ?_
    refine E_iconst (x := nI 0) at_X4_take_84 (by decide) ?_
    refine E_bipush (x := nI 6) at_X4_take_85 (by decide) ?_
    refine E_cpN (cs2 := (ww im lf (qs_L (qs_U (qs_P (qs_B (qs_A (qs_K s (qK d)) (qA d)) (qB d)) (qP d)) (qU d)) (qL d)) d k ls rf rz ra rn rq lt m1 m2 m3 m4 bd fc hd sz el t g fm hm so si sh ce ca td wa kp la bf oo bo pw ow tr)) at_X4_take_87 w17 (w7v (qg_LU.trans (qg_LP.trans (qg_LB.trans (qg_LA.trans qg_LK))))) ⟨⟨by decide, Nat.le_of_ble_eq_true rfl⟩, by omega, by omega⟩ w_pt1_L ?_
    refine E_aload_n at_X4_take_90 rfl ?_
    refine E_getfield (v := .ref 18) at_X4_take_91 w11 rfl (by decide) rfl ?_
    refine E_iconst (x := nI 0) at_X4_take_94 (by decide) ?_
    refine E_aload_n at_X4_take_95 rfl ?_
    refine E_getfield (v := .ref 8) at_X4_take_96 w1 rfl (by decide) rfl ?_
    refine E_iconst (x := nI 0) at_X4_take_99 (by decide) ?_
    refine E_bipush (x := nI 6) at_X4_take_100 (by decide) ?_
    refine E_cpN (cs2 := (ww im lf (qs_W (qs_L (qs_U (qs_P (qs_B (qs_A (qs_K s (qK d)) (qA d)) (qB d)) (qP d)) (qU d)) (qL d)) (qW d)) d k ls rf rz ra rn rq lt m1 m2 m3 m4 bd fc hd sz el t g fm hm so si sh ce ca td wa kp la bf oo bo pw ow tr)) at_X4_take_102 w18 (w8v (qg_WL.trans (qg_WU.trans (qg_WP.trans (qg_WB.trans (qg_WA.trans qg_WK)))))) ⟨⟨by decide, Nat.le_of_ble_eq_true rfl⟩, by omega, by omega⟩ w_pt1_W ?_
    refine E_aload_n at_X4_take_105 rfl ?_
    refine E_getfield (v := .ref 19) at_X4_take_106 w11 rfl (by decide) rfl ?_
    refine E_iconst (x := nI 0) at_X4_take_109 (by decide) ?_
    refine E_aload_n at_X4_take_110 rfl ?_
    refine E_getfield (v := .ref 9) at_X4_take_111 w1 rfl (by decide) rfl ?_
    refine E_iconst (x := nI 0) at_X4_take_114 (by decide) ?_
    refine E_bipush (x := nI 6) at_X4_take_115 (by decide) ?_
    refine E_cpW (cs2 := (ww im lf (qs_G (qs_W (qs_L (qs_U (qs_P (qs_B (qs_A (qs_K s (qK d)) (qA d)) (qB d)) (qP d)) (qU d)) (qL d)) (qW d)) (qG d)) d k ls rf rz ra rn rq lt m1 m2 m3 m4 bd fc hd sz el t g fm hm so si sh ce ca td wa kp la bf oo bo pw ow tr)) at_X4_take_117 w19 (w9v (qg_GW.trans (qg_GL.trans (qg_GU.trans (qg_GP.trans (qg_GB.trans (qg_GA.trans qg_GK))))))) ⟨⟨by decide, Nat.le_of_ble_eq_true rfl⟩, by omega, by omega⟩ w_pt1_G ?_
    refine E_aload_n at_X4_take_120 rfl ?_
    refine E_getfield (v := .ref 20) at_X4_take_121 w11 rfl (by decide) rfl ?_
    refine E_iconst (x := nI 0) at_X4_take_124 (by decide) ?_
    refine E_aload_n at_X4_take_125 rfl ?_
    refine E_getfield (v := .ref 10) at_X4_take_126 w1 rfl (by decide) rfl ?_
    refine E_iconst (x := nI 0) at_X4_take_129 (by decide) ?_
    refine E_bipush (x := nI 8) at_X4_take_130 (by decide) ?_
    refine E_cpN (cs2 := (ww im lf (qs_C (qs_G (qs_W (qs_L (qs_U (qs_P (qs_B (qs_A (qs_K s (qK d)) (qA d)) (qB d)) (qP d)) (qU d)) (qL d)) (qW d)) (qG d)) (qC d)) d k ls rf rz ra rn rq lt m1 m2 m3 m4 bd fc hd sz el t g fm hm so si sh ce ca td wa kp la bf oo bo pw ow tr)) at_X4_take_132 w20 (w10v (qg_CG.trans (qg_CW.trans (qg_CL.trans (qg_CU.trans (qg_CP.trans (qg_CB.trans (qg_CA.trans qg_CK)))))))) ⟨⟨by decide, Nat.le_of_ble_eq_true rfl⟩, by omega, by omega⟩ w_pt1_C ?_
    refine E_aload_n at_X4_take_135 rfl ?_
    refine E_aload_n at_X4_take_136 rfl ?_
    refine E_getfield (v := .int (nI (qN d))) at_X4_take_137 w11 rfl (by decide) rfl ?_
    refine E_putfield (cs2 := (ww im lf (qs_N (qs_C (qs_G (qs_W (qs_L (qs_U (qs_P (qs_B (qs_A (qs_K s (qK d)) (qA d)) (qB d)) (qP d)) (qU d)) (qL d)) (qW d)) (qG d)) (qC d)) (qN d)) d k ls rf rz ra rn rq lt m1 m2 m3 m4 bd fc hd sz el t g fm hm so si sh ce ca td wa kp la bf oo bo pw ow tr)) at_X4_take_140 w1 rfl (by decide) (Nat.le_of_ble_eq_true rfl) rfl rfl rfl w_pt1_N ?_
    refine E_aload_n at_X4_take_143 rfl ?_
    refine E_aload_n at_X4_take_144 rfl ?_
    refine E_getfield (v := .int (nI (qM d))) at_X4_take_145 w11 rfl (by decide) rfl ?_
    refine E_putfield (cs2 := (ww im lf (qs_M (qs_N (qs_C (qs_G (qs_W (qs_L (qs_U (qs_P (qs_B (qs_A (qs_K s (qK d)) (qA d)) (qB d)) (qP d)) (qU d)) (qL d)) (qW d)) (qG d)) (qC d)) (qN d)) (qM d)) d k ls rf rz ra rn rq lt m1 m2 m3 m4 bd fc hd sz el t g fm hm so si sh ce ca td wa kp la bf oo bo pw ow tr)) at_X4_take_148 w1 rfl (by decide) (Nat.le_of_ble_eq_true rfl) rfl rfl rfl w_pt1_M ?_
    refine E_aload_n at_X4_take_151 rfl ?_
    refine E_aload_n at_X4_take_152 rfl ?_
    refine E_getfield (v := .int (qR d)) at_X4_take_153 w11 rfl (by decide) rfl ?_
    refine E_putfield (cs2 := (ww im lf (qs_R (qs_M (qs_N (qs_C (qs_G (qs_W (qs_L (qs_U (qs_P (qs_B (qs_A (qs_K s (qK d)) (qA d)) (qB d)) (qP d)) (qU d)) (qL d)) (qW d)) (qG d)) (qC d)) (qN d)) (qM d)) (qR d)) d k ls rf rz ra rn rq lt m1 m2 m3 m4 bd fc hd sz el t g fm hm so si sh ce ca td wa kp la bf oo bo pw ow tr)) at_X4_take_156 w1 rfl (by decide) (Nat.le_of_ble_eq_true rfl) rfl rfl rfl w_pt1_R ?_
    refine E_aload_n at_X4_take_159 rfl ?_
    refine E_aload_n at_X4_take_160 rfl ?_
    refine E_getfield (v := .int (qY d)) at_X4_take_161 w11 rfl (by decide) rfl ?_
    refine E_putfield (cs2 := (ww im lf (qs_Y (qs_R (qs_M (qs_N (qs_C (qs_G (qs_W (qs_L (qs_U (qs_P (qs_B (qs_A (qs_K s (qK d)) (qA d)) (qB d)) (qP d)) (qU d)) (qL d)) (qW d)) (qG d)) (qC d)) (qN d)) (qM d)) (qR d)) (qY d)) d k ls rf rz ra rn rq lt m1 m2 m3 m4 bd fc hd sz el t g fm hm so si sh ce ca td wa kp la bf oo bo pw ow tr)) at_X4_take_164 w1 rfl (by decide) (Nat.le_of_ble_eq_true rfl) rfl rfl rfl w_pt1_Y ?_
    refine E_aload_n at_X4_take_167 rfl ?_
    refine E_aload_n at_X4_take_168 rfl ?_
    refine E_getfield (v := .int (qD d)) at_X4_take_169 w11 rfl (by decide) rfl ?_
    refine E_putfield (cs2 := (ww im lf (qs_D (qs_Y (qs_R (qs_M (qs_N (qs_C (qs_G (qs_W (qs_L (qs_U (qs_P (qs_B (qs_A (qs_K s (qK d)) (qA d)) (qB d)) (qP d)) (qU d)) (qL d)) (qW d)) (qG d)) (qC d)) (qN d)) (qM d)) (qR d)) (qY d)) (qD d)) d k ls rf rz ra rn rq lt m1 m2 m3 m4 bd fc hd sz el t g fm hm so si sh ce ca td wa kp la bf oo bo pw ow tr)) at_X4_take_172 w1 rfl (by decide) (Nat.le_of_ble_eq_true rfl) rfl rfl rfl w_pt1_D ?_
    refine E_aload_n at_X4_take_175 rfl ?_
    refine E_aload_n at_X4_take_176 rfl ?_
    refine E_getfield (v := .int (qS d)) at_X4_take_177 w11 rfl (by decide) rfl ?_
    refine E_putfield (cs2 := (ww im lf (qs_S (qs_D (qs_Y (qs_R (qs_M (qs_N (qs_C (qs_G (qs_W (qs_L (qs_U (qs_P (qs_B (qs_A (qs_K s (qK d)) (qA d)) (qB d)) (qP d)) (qU d)) (qL d)) (qW d)) (qG d)) (qC d)) (qN d)) (qM d)) (qR d)) (qY d)) (qD d)) (qS d)) d k ls rf rz ra rn rq lt m1 m2 m3 m4 bd fc hd sz el t g fm hm so si sh ce ca td wa kp la bf oo bo pw ow tr)) at_X4_take_180 w1 rfl (by decide) (Nat.le_of_ble_eq_true rfl) rfl rfl rfl w_pt1_S ?_
    exact E_vret at_X4_take_183 rfl
  rw [qs_all] at X
  exact X
set_option maxHeartbeats 400000 in
theorem tk_1_21 (l : qLn s) (l2 : qLn k) : Ev ab_Z0 1 55 [.ref 1, .ref 21] (ww im lf s d k ls rf rz ra rn rq lt m1 m2 m3 m4 bd fc hd sz el t g fm hm so si sh ce ca td wa kp la bf oo bo pw ow tr) (none, (ww im lf k d k ls rf rz ra rn rq lt m1 m2 m3 m4 bd fc hd sz el t g fm hm so si sh ce ca td wa kp la bf oo bo pw ow tr)) := by
  obtain ⟨a1, a2, a3, a4, a5, a6, a7, a8, a9⟩ := id l
  obtain ⟨b1, b2, b3, b4, b5, b6, b7, b8, b9⟩ := id l2
  have X : Ev ab_Z0 1 55 [.ref 1, .ref 21] (ww im lf s d k ls rf rz ra rn rq lt m1 m2 m3 m4 bd fc hd sz el t g fm hm so si sh ce ca td wa kp la bf oo bo pw ow tr) (none, (ww im lf (qs_S (qs_D (qs_Y (qs_R (qs_M (qs_N (qs_C (qs_G (qs_W (qs_L (qs_U (qs_P (qs_B (qs_A (qs_K s (qK k)) (qA k)) (qB k)) (qP k)) (qU k)) (qL k)) (qW k)) (qG k)) (qC k)) (qN k)) (qM k)) (qR k)) (qY k)) (qD k)) (qS k)) d k ls rf rz ra rn rq lt m1 m2 m3 m4 bd fc hd sz el t g fm hm so si sh ce ca td wa kp la bf oo bo pw ow tr)) := by
    refine Ef.in (md := mX4_take) (L := [some (.ref 1), some (.ref 21)]) rfl (Nat.le_of_ble_eq_true rfl) rfl ?_
    refine E_aload_n at_X4_take_0 rfl ?_
    refine E_getfield (v := .ref 22) at_X4_take_1 w21 rfl (by decide) rfl ?_
    refine E_iconst (x := nI 0) at_X4_take_4 (by decide) ?_
    refine E_aload_n at_X4_take_5 rfl ?_
    refine E_getfield (v := .ref 2) at_X4_take_6 w1 rfl (by decide) rfl ?_
    refine E_iconst (x := nI 0) at_X4_take_9 (by decide) ?_
    refine E_bipush (x := nI 9) at_X4_take_10 (by decide) ?_
    refine E_cpN (cs2 := (ww im lf (qs_K s (qK k)) d k ls rf rz ra rn rq lt m1 m2 m3 m4 bd fc hd sz el t g fm hm so si sh ce ca td wa kp la bf oo bo pw ow tr)) at_X4_take_12 w22 w2 ⟨⟨by decide, Nat.le_of_ble_eq_true rfl⟩, by omega, by omega⟩ w_pt1_K ?_
    refine E_aload_n at_X4_take_15 rfl ?_
    refine E_getfield (v := .ref 23) at_X4_take_16 w21 rfl (by decide) rfl ?_
    refine E_iconst (x := nI 0) at_X4_take_19 (by decide) ?_
    refine E_aload_n at_X4_take_20 rfl ?_
    refine E_getfield (v := .ref 3) at_X4_take_21 w1 rfl (by decide) rfl ?_
    refine E_iconst (x := nI 0) at_X4_take_24 (by decide) ?_
    refine E_bipush (x := nI 9) at_X4_take_25 (by decide) ?_
    refine E_cpN (cs2 := (ww im lf (qs_A (qs_K s (qK k)) (qA k)) d k ls rf rz ra rn rq lt m1 m2 m3 m4 bd fc hd sz el t g fm hm so si sh ce ca td wa kp la bf oo bo pw ow tr)) at_X4_take_27 w23 (w3v qg_AK) ⟨⟨by decide, Nat.le_of_ble_eq_true rfl⟩, by omega, by omega⟩ w_pt1_A ?_
    refine E_aload_n at_X4_take_30 rfl ?_
    refine E_getfield (v := .ref 24) at_X4_take_31 w21 rfl (by decide) rfl ?_
    refine E_iconst (x := nI 0) at_X4_take_34 (by decide) ?_
    refine E_aload_n at_X4_take_35 rfl ?_
    refine E_getfield (v := .ref 4) at_X4_take_36 w1 rfl (by decide) rfl ?_
    refine E_iconst (x := nI 0) at_X4_take_39 (by decide) ?_
    refine E_bipush (x := nI 9) at_X4_take_40 (by decide) ?_
    refine E_cpN (cs2 := (ww im lf (qs_B (qs_A (qs_K s (qK k)) (qA k)) (qB k)) d k ls rf rz ra rn rq lt m1 m2 m3 m4 bd fc hd sz el t g fm hm so si sh ce ca td wa kp la bf oo bo pw ow tr)) at_X4_take_42 w24 (w4v (qg_BA.trans qg_BK)) ⟨⟨by decide, Nat.le_of_ble_eq_true rfl⟩, by omega, by omega⟩ w_pt1_B ?_
    refine E_aload_n at_X4_take_45 rfl ?_
    refine E_getfield (v := .ref 25) at_X4_take_46 w21 rfl (by decide) rfl ?_
    refine E_iconst (x := nI 0) at_X4_take_49 (by decide) ?_
    refine E_aload_n at_X4_take_50 rfl ?_
    refine E_getfield (v := .ref 5) at_X4_take_51 w1 rfl (by decide) rfl ?_
    refine E_iconst (x := nI 0) at_X4_take_54 (by decide) ?_
    refine E_bipush (x := nI 9) at_X4_take_55 (by decide) ?_
    refine E_cpN (cs2 := (ww im lf (qs_P (qs_B (qs_A (qs_K s (qK k)) (qA k)) (qB k)) (qP k)) d k ls rf rz ra rn rq lt m1 m2 m3 m4 bd fc hd sz el t g fm hm so si sh ce ca td wa kp la bf oo bo pw ow tr)) at_X4_take_57 w25 (w5v (qg_PB.trans (qg_PA.trans qg_PK))) ⟨⟨by decide, Nat.le_of_ble_eq_true rfl⟩, by omega, by omega⟩ w_pt1_P ?_
    refine E_aload_n at_X4_take_60 rfl ?_
    refine E_getfield (v := .ref 26) at_X4_take_61 w21 rfl (by decide) rfl ?_
    refine E_iconst (x := nI 0) at_X4_take_64 (by decide) ?_
    refine E_aload_n at_X4_take_65 rfl ?_
    refine E_getfield (v := .ref 6) at_X4_take_66 w1 rfl (by decide) rfl ?_
    refine E_iconst (x := nI 0) at_X4_take_69 (by decide) ?_
    refine E_bipush (x := nI 6) at_X4_take_70 (by decide) ?_
    refine E_cpN (cs2 := (ww im lf (qs_U (qs_P (qs_B (qs_A (qs_K s (qK k)) (qA k)) (qB k)) (qP k)) (qU k)) d k ls rf rz ra rn rq lt m1 m2 m3 m4 bd fc hd sz el t g fm hm so si sh ce ca td wa kp la bf oo bo pw ow tr)) at_X4_take_72 w26 (w6v (qg_UP.trans (qg_UB.trans (qg_UA.trans qg_UK)))) ⟨⟨by decide, Nat.le_of_ble_eq_true rfl⟩, by omega, by omega⟩ w_pt1_U ?_
    refine E_aload_n at_X4_take_75 rfl ?_
    refine E_getfield (v := .ref 27) at_X4_take_76 w21 rfl (by decide) rfl ?_
    refine E_iconst (x := nI 0) at_X4_take_79 (by decide) ?_
    refine E_aload_n at_X4_take_80 rfl ?_
    refine E_getfield (v := .ref 7) at_X4_take_81 w1 rfl (by decide) rfl ?_
    refine E_iconst (x := nI 0) at_X4_take_84 (by decide) ?_
    refine E_bipush (x := nI 6) at_X4_take_85 (by decide) ?_
    refine E_cpN (cs2 := (ww im lf (qs_L (qs_U (qs_P (qs_B (qs_A (qs_K s (qK k)) (qA k)) (qB k)) (qP k)) (qU k)) (qL k)) d k ls rf rz ra rn rq lt m1 m2 m3 m4 bd fc hd sz el t g fm hm so si sh ce ca td wa kp la bf oo bo pw ow tr)) at_X4_take_87 w27 (w7v (qg_LU.trans (qg_LP.trans (qg_LB.trans (qg_LA.trans qg_LK))))) ⟨⟨by decide, Nat.le_of_ble_eq_true rfl⟩, by omega, by omega⟩ w_pt1_L ?_
    refine E_aload_n at_X4_take_90 rfl ?_
    refine E_getfield (v := .ref 28) at_X4_take_91 w21 rfl (by decide) rfl ?_
    refine E_iconst (x := nI 0) at_X4_take_94 (by decide) ?_
    refine E_aload_n at_X4_take_95 rfl ?_
    refine E_getfield (v := .ref 8) at_X4_take_96 w1 rfl (by decide) rfl ?_
    refine E_iconst (x := nI 0) at_X4_take_99 (by decide) ?_
    refine E_bipush (x := nI 6) at_X4_take_100 (by decide) ?_
    refine E_cpN (cs2 := (ww im lf (qs_W (qs_L (qs_U (qs_P (qs_B (qs_A (qs_K s (qK k)) (qA k)) (qB k)) (qP k)) (qU k)) (qL k)) (qW k)) d k ls rf rz ra rn rq lt m1 m2 m3 m4 bd fc hd sz el t g fm hm so si sh ce ca td wa kp la bf oo bo pw ow tr)) at_X4_take_102 w28 (w8v (qg_WL.trans (qg_WU.trans (qg_WP.trans (qg_WB.trans (qg_WA.trans qg_WK)))))) ⟨⟨by decide, Nat.le_of_ble_eq_true rfl⟩, by omega, by omega⟩ w_pt1_W ?_
    refine E_aload_n at_X4_take_105 rfl ?_
    refine E_getfield (v := .ref 29) at_X4_take_106 w21 rfl (by decide) rfl ?_
    refine E_iconst (x := nI 0) at_X4_take_109 (by decide) ?_
    refine E_aload_n at_X4_take_110 rfl ?_
    refine E_getfield (v := .ref 9) at_X4_take_111 w1 rfl (by decide) rfl ?_
    refine E_iconst (x := nI 0) at_X4_take_114 (by decide) ?_
    refine E_bipush (x := nI 6) at_X4_take_115 (by decide) ?_
    refine E_cpW (cs2 := (ww im lf (qs_G (qs_W (qs_L (qs_U (qs_P (qs_B (qs_A (qs_K s (qK k)) (qA k)) (qB k)) (qP k)) (qU k)) (qL k)) (qW k)) (qG k)) d k ls rf rz ra rn rq lt m1 m2 m3 m4 bd fc hd sz el t g fm hm so si sh ce ca td wa kp la bf oo bo pw ow tr)) at_X4_take_117 w29 (w9v (qg_GW.trans (qg_GL.trans (qg_GU.trans (qg_GP.trans (qg_GB.trans (qg_GA.trans qg_GK))))))) ⟨⟨by decide, Nat.le_of_ble_eq_true rfl⟩, by omega, by omega⟩ w_pt1_G ?_
    refine E_aload_n at_X4_take_120 rfl ?_
    refine E_getfield (v := .ref 30) at_X4_take_121 w21 rfl (by decide) rfl ?_
    refine E_iconst (x := nI 0) at_X4_take_124 (by decide) ?_
    refine E_aload_n at_X4_take_125 rfl ?_
    refine E_getfield (v := .ref 10) at_X4_take_126 w1 rfl (by decide) rfl ?_
    refine E_iconst (x := nI 0) at_X4_take_129 (by decide) ?_
    refine E_bipush (x := nI 8) at_X4_take_130 (by decide) ?_
    refine E_cpN (cs2 := (ww im lf (qs_C (qs_G (qs_W (qs_L (qs_U (qs_P (qs_B (qs_A (qs_K s (qK k)) (qA k)) (qB k)) (qP k)) (qU k)) (qL k)) (qW k)) (qG k)) (qC k)) d k ls rf rz ra rn rq lt m1 m2 m3 m4 bd fc hd sz el t g fm hm so si sh ce ca td wa kp la bf oo bo pw ow tr)) at_X4_take_132 w30 (w10v (qg_CG.trans (qg_CW.trans (qg_CL.trans (qg_CU.trans (qg_CP.trans (qg_CB.trans (qg_CA.trans qg_CK)))))))) ⟨⟨by decide, Nat.le_of_ble_eq_true rfl⟩, by omega, by omega⟩ w_pt1_C ?_
    refine E_aload_n at_X4_take_135 rfl ?_
    refine E_aload_n at_X4_take_136 rfl ?_
    refine E_getfield (v := .int (nI (qN k))) at_X4_take_137 w21 rfl (by decide) rfl ?_
    refine E_putfield (cs2 := (ww im lf (qs_N (qs_C (qs_G (qs_W (qs_L (qs_U (qs_P (qs_B (qs_A (qs_K s (qK k)) (qA k)) (qB k)) (qP k)) (qU k)) (qL k)) (qW k)) (qG k)) (qC k)) (qN k)) d k ls rf rz ra rn rq lt m1 m2 m3 m4 bd fc hd sz el t g fm hm so si sh ce ca td wa kp la bf oo bo pw ow tr)) at_X4_take_140 w1 rfl (by decide) (Nat.le_of_ble_eq_true rfl) rfl rfl rfl w_pt1_N ?_
    refine E_aload_n at_X4_take_143 rfl ?_
    refine E_aload_n at_X4_take_144 rfl ?_
    refine E_getfield (v := .int (nI (qM k))) at_X4_take_145 w21 rfl (by decide) rfl ?_
    refine E_putfield (cs2 := (ww im lf (qs_M (qs_N (qs_C (qs_G (qs_W (qs_L (qs_U (qs_P (qs_B (qs_A (qs_K s (qK k)) (qA k)) (qB k)) (qP k)) (qU k)) (qL k)) (qW k)) (qG k)) (qC k)) (qN k)) (qM k)) d k ls rf rz ra rn rq lt m1 m2 m3 m4 bd fc hd sz el t g fm hm so si sh ce ca td wa kp la bf oo bo pw ow tr)) at_X4_take_148 w1 rfl (by decide) (Nat.le_of_ble_eq_true rfl) rfl rfl rfl w_pt1_M ?_
    refine E_aload_n at_X4_take_151 rfl ?_
    refine E_aload_n at_X4_take_152 rfl ?_
    refine E_getfield (v := .int (qR k)) at_X4_take_153 w21 rfl (by decide) rfl ?_
    refine E_putfield (cs2 := (ww im lf (qs_R (qs_M (qs_N (qs_C (qs_G (qs_W (qs_L (qs_U (qs_P (qs_B (qs_A (qs_K s (qK k)) (qA k)) (qB k)) (qP k)) (qU k)) (qL k)) (qW k)) (qG k)) (qC k)) (qN k)) (qM k)) (qR k)) d k ls rf rz ra rn rq lt m1 m2 m3 m4 bd fc hd sz el t g fm hm so si sh ce ca td wa kp la bf oo bo pw ow tr)) at_X4_take_156 w1 rfl (by decide) (Nat.le_of_ble_eq_true rfl) rfl rfl rfl w_pt1_R ?_
    refine E_aload_n at_X4_take_159 rfl ?_
    refine E_aload_n at_X4_take_160 rfl ?_
    refine E_getfield (v := .int (qY k)) at_X4_take_161 w21 rfl (by decide) rfl ?_
    refine E_putfield (cs2 := (ww im lf (qs_Y (qs_R (qs_M (qs_N (qs_C (qs_G (qs_W (qs_L (qs_U (qs_P (qs_B (qs_A (qs_K s (qK k)) (qA k)) (qB k)) (qP k)) (qU k)) (qL k)) (qW k)) (qG k)) (qC k)) (qN k)) (qM k)) (qR k)) (qY k)) d k ls rf rz ra rn rq lt m1 m2 m3 m4 bd fc hd sz el t g fm hm so si sh ce ca td wa kp la bf oo bo pw ow tr)) at_X4_take_164 w1 rfl (by decide) (Nat.le_of_ble_eq_true rfl) rfl rfl rfl w_pt1_Y ?_
    refine E_aload_n at_X4_take_167 rfl ?_
    refine E_aload_n at_X4_take_168 rfl ?_
    refine E_getfield (v := .int (qD k)) at_X4_take_169 w21 rfl (by decide) rfl ?_
    refine E_putfield (cs2 := (ww im lf (qs_D (qs_Y (qs_R (qs_M (qs_N (qs_C (qs_G (qs_W (qs_L (qs_U (qs_P (qs_B (qs_A (qs_K s (qK k)) (qA k)) (qB k)) (qP k)) (qU k)) (qL k)) (qW k)) (qG k)) (qC k)) (qN k)) (qM k)) (qR k)) (qY k)) (qD k)) d k ls rf rz ra rn rq lt m1 m2 m3 m4 bd fc hd sz el t g fm hm so si sh ce ca td wa kp la bf oo bo pw ow tr)) at_X4_take_172 w1 rfl (by decide) (Nat.le_of_ble_eq_true rfl) rfl rfl rfl w_pt1_D ?_
    refine E_aload_n at_X4_take_175 rfl ?_
    refine E_aload_n at_X4_take_176 rfl ?_
    refine E_getfield (v := .int (qS k)) at_X4_take_177 w21 rfl (by decide) rfl ?_
    refine E_putfield (cs2 := (ww im lf (qs_S (qs_D (qs_Y (qs_R (qs_M (qs_N (qs_C (qs_G (qs_W (qs_L (qs_U (qs_P (qs_B (qs_A (qs_K s (qK k)) (qA k)) (qB k)) (qP k)) (qU k)) (qL k)) (qW k)) (qG k)) (qC k)) (qN k)) (qM k)) (qR k)) (qY k)) (qD k)) (qS k)) d k ls rf rz ra rn rq lt m1 m2 m3 m4 bd fc hd sz el t g fm hm so si sh ce ca td wa kp la bf oo bo pw ow tr)) at_X4_take_180 w1 rfl (by decide) (Nat.le_of_ble_eq_true rfl) rfl rfl rfl w_pt1_S ?_
    exact E_vret at_X4_take_183 rfl
  rw [qs_all] at X
  exact X
set_option maxHeartbeats 400000 in
theorem tk_1_35 (l : qLn s) (l2 : qLn rq) : Ev ab_Z0 1 55 [.ref 1, .ref 35] (ww im lf s d k ls rf rz ra rn rq lt m1 m2 m3 m4 bd fc hd sz el t g fm hm so si sh ce ca td wa kp la bf oo bo pw ow tr) (none, (ww im lf rq d k ls rf rz ra rn rq lt m1 m2 m3 m4 bd fc hd sz el t g fm hm so si sh ce ca td wa kp la bf oo bo pw ow tr)) := by
  obtain ⟨a1, a2, a3, a4, a5, a6, a7, a8, a9⟩ := id l
  obtain ⟨b1, b2, b3, b4, b5, b6, b7, b8, b9⟩ := id l2
  have X : Ev ab_Z0 1 55 [.ref 1, .ref 35] (ww im lf s d k ls rf rz ra rn rq lt m1 m2 m3 m4 bd fc hd sz el t g fm hm so si sh ce ca td wa kp la bf oo bo pw ow tr) (none, (ww im lf (qs_S (qs_D (qs_Y (qs_R (qs_M (qs_N (qs_C (qs_G (qs_W (qs_L (qs_U (qs_P (qs_B (qs_A (qs_K s (qK rq)) (qA rq)) (qB rq)) (qP rq)) (qU rq)) (qL rq)) (qW rq)) (qG rq)) (qC rq)) (qN rq)) (qM rq)) (qR rq)) (qY rq)) (qD rq)) (qS rq)) d k ls rf rz ra rn rq lt m1 m2 m3 m4 bd fc hd sz el t g fm hm so si sh ce ca td wa kp la bf oo bo pw ow tr)) := by
    refine Ef.in (md := mX4_take) (L := [some (.ref 1), some (.ref 35)]) rfl (Nat.le_of_ble_eq_true rfl) rfl ?_
    refine E_aload_n at_X4_take_0 rfl ?_
    refine E_getfield (v := .ref 36) at_X4_take_1 w35 rfl (by decide) rfl ?_
    refine E_iconst (x := nI 0) at_X4_take_4 (by decide) ?_
    refine E_aload_n at_X4_take_5 rfl ?_
    refine E_getfield (v := .ref 2) at_X4_take_6 w1 rfl (by decide) rfl ?_
    refine E_iconst (x := nI 0) at_X4_take_9 (by decide) ?_
    refine E_bipush (x := nI 9) at_X4_take_10 (by decide) ?_
    refine E_cpN (cs2 := (ww im lf (qs_K s (qK rq)) d k ls rf rz ra rn rq lt m1 m2 m3 m4 bd fc hd sz el t g fm hm so si sh ce ca td wa kp la bf oo bo pw ow tr)) at_X4_take_12 w36 w2 ⟨⟨by decide, Nat.le_of_ble_eq_true rfl⟩, by omega, by omega⟩ w_pt1_K ?_
    refine E_aload_n at_X4_take_15 rfl ?_
    refine E_getfield (v := .ref 37) at_X4_take_16 w35 rfl (by decide) rfl ?_
    refine E_iconst (x := nI 0) at_X4_take_19 (by decide) ?_
    refine E_aload_n at_X4_take_20 rfl ?_
    refine E_getfield (v := .ref 3) at_X4_take_21 w1 rfl (by decide) rfl ?_
    refine E_iconst (x := nI 0) at_X4_take_24 (by decide) ?_
    refine E_bipush (x := nI 9) at_X4_take_25 (by decide) ?_
    refine E_cpN (cs2 := (ww im lf (qs_A (qs_K s (qK rq)) (qA rq)) d k ls rf rz ra rn rq lt m1 m2 m3 m4 bd fc hd sz el t g fm hm so si sh ce ca td wa kp la bf oo bo pw ow tr)) at_X4_take_27 w37 (w3v qg_AK) ⟨⟨by decide, Nat.le_of_ble_eq_true rfl⟩, by omega, by omega⟩ w_pt1_A ?_
    refine E_aload_n at_X4_take_30 rfl ?_
    refine E_getfield (v := .ref 38) at_X4_take_31 w35 rfl (by decide) rfl ?_
    refine E_iconst (x := nI 0) at_X4_take_34 (by decide) ?_
    refine E_aload_n at_X4_take_35 rfl ?_
    refine E_getfield (v := .ref 4) at_X4_take_36 w1 rfl (by decide) rfl ?_
    refine E_iconst (x := nI 0) at_X4_take_39 (by decide) ?_
    refine E_bipush (x := nI 9) at_X4_take_40 (by decide) ?_
    refine E_cpN (cs2 := (ww im lf (qs_B (qs_A (qs_K s (qK rq)) (qA rq)) (qB rq)) d k ls rf rz ra rn rq lt m1 m2 m3 m4 bd fc hd sz el t g fm hm so si sh ce ca td wa kp la bf oo bo pw ow tr)) at_X4_take_42 w38 (w4v (qg_BA.trans qg_BK)) ⟨⟨by decide, Nat.le_of_ble_eq_true rfl⟩, by omega, by omega⟩ w_pt1_B ?_
    refine E_aload_n at_X4_take_45 rfl ?_
    refine E_getfield (v := .ref 39) at_X4_take_46 w35 rfl (by decide) rfl ?_
    refine E_iconst (x := nI 0) at_X4_take_49 (by decide) ?_
    refine E_aload_n at_X4_take_50 rfl ?_
    refine E_getfield (v := .ref 5) at_X4_take_51 w1 rfl (by decide) rfl ?_
    refine E_iconst (x := nI 0) at_X4_take_54 (by decide) ?_
    refine E_bipush (x := nI 9) at_X4_take_55 (by decide) ?_
    refine E_cpN (cs2 := (ww im lf (qs_P (qs_B (qs_A (qs_K s (qK rq)) (qA rq)) (qB rq)) (qP rq)) d k ls rf rz ra rn rq lt m1 m2 m3 m4 bd fc hd sz el t g fm hm so si sh ce ca td wa kp la bf oo bo pw ow tr)) at_X4_take_57 w39 (w5v (qg_PB.trans (qg_PA.trans qg_PK))) ⟨⟨by decide, Nat.le_of_ble_eq_true rfl⟩, by omega, by omega⟩ w_pt1_P ?_
    refine E_aload_n at_X4_take_60 rfl ?_
    refine E_getfield (v := .ref 40) at_X4_take_61 w35 rfl (by decide) rfl ?_
    refine E_iconst (x := nI 0) at_X4_take_64 (by decide) ?_
    refine E_aload_n at_X4_take_65 rfl ?_
    refine E_getfield (v := .ref 6) at_X4_take_66 w1 rfl (by decide) rfl ?_
    refine E_iconst (x := nI 0) at_X4_take_69 (by decide) ?_
    refine E_bipush (x := nI 6) at_X4_take_70 (by decide) ?_
    refine E_cpN (cs2 := (ww im lf (qs_U (qs_P (qs_B (qs_A (qs_K s (qK rq)) (qA rq)) (qB rq)) (qP rq)) (qU rq)) d k ls rf rz ra rn rq lt m1 m2 m3 m4 bd fc hd sz el t g fm hm so si sh ce ca td wa kp la bf oo bo pw ow tr)) at_X4_take_72 w40 (w6v (qg_UP.trans (qg_UB.trans (qg_UA.trans qg_UK)))) ⟨⟨by decide, Nat.le_of_ble_eq_true rfl⟩, by omega, by omega⟩ w_pt1_U ?_
    refine E_aload_n at_X4_take_75 rfl ?_
    refine E_getfield (v := .ref 41) at_X4_take_76 w35 rfl (by decide) rfl ?_
    refine E_iconst (x := nI 0) at_X4_take_79 (by decide) ?_
    refine E_aload_n at_X4_take_80 rfl ?_
    refine E_getfield (v := .ref 7) at_X4_take_81 w1 rfl (by decide) rfl ?_
    refine E_iconst (x := nI 0) at_X4_take_84 (by decide) ?_
    refine E_bipush (x := nI 6) at_X4_take_85 (by decide) ?_
    refine E_cpN (cs2 := (ww im lf (qs_L (qs_U (qs_P (qs_B (qs_A (qs_K s (qK rq)) (qA rq)) (qB rq)) (qP rq)) (qU rq)) (qL rq)) d k ls rf rz ra rn rq lt m1 m2 m3 m4 bd fc hd sz el t g fm hm so si sh ce ca td wa kp la bf oo bo pw ow tr)) at_X4_take_87 w41 (w7v (qg_LU.trans (qg_LP.trans (qg_LB.trans (qg_LA.trans qg_LK))))) ⟨⟨by decide, Nat.le_of_ble_eq_true rfl⟩, by omega, by omega⟩ w_pt1_L ?_
    refine E_aload_n at_X4_take_90 rfl ?_
    refine E_getfield (v := .ref 42) at_X4_take_91 w35 rfl (by decide) rfl ?_
    refine E_iconst (x := nI 0) at_X4_take_94 (by decide) ?_
    refine E_aload_n at_X4_take_95 rfl ?_
    refine E_getfield (v := .ref 8) at_X4_take_96 w1 rfl (by decide) rfl ?_
    refine E_iconst (x := nI 0) at_X4_take_99 (by decide) ?_
    refine E_bipush (x := nI 6) at_X4_take_100 (by decide) ?_
    refine E_cpN (cs2 := (ww im lf (qs_W (qs_L (qs_U (qs_P (qs_B (qs_A (qs_K s (qK rq)) (qA rq)) (qB rq)) (qP rq)) (qU rq)) (qL rq)) (qW rq)) d k ls rf rz ra rn rq lt m1 m2 m3 m4 bd fc hd sz el t g fm hm so si sh ce ca td wa kp la bf oo bo pw ow tr)) at_X4_take_102 w42 (w8v (qg_WL.trans (qg_WU.trans (qg_WP.trans (qg_WB.trans (qg_WA.trans qg_WK)))))) ⟨⟨by decide, Nat.le_of_ble_eq_true rfl⟩, by omega, by omega⟩ w_pt1_W ?_
    refine E_aload_n at_X4_take_105 rfl ?_
    refine E_getfield (v := .ref 43) at_X4_take_106 w35 rfl (by decide) rfl ?_
    refine E_iconst (x := nI 0) at_X4_take_109 (by decide) ?_
    refine E_aload_n at_X4_take_110 rfl ?_
    refine E_getfield (v := .ref 9) at_X4_take_111 w1 rfl (by decide) rfl ?_
    refine E_iconst (x := nI 0) at_X4_take_114 (by decide) ?_
    refine E_bipush (x := nI 6) at_X4_take_115 (by decide) ?_
    refine E_cpW (cs2 := (ww im lf (qs_G (qs_W (qs_L (qs_U (qs_P (qs_B (qs_A (qs_K s (qK rq)) (qA rq)) (qB rq)) (qP rq)) (qU rq)) (qL rq)) (qW rq)) (qG rq)) d k ls rf rz ra rn rq lt m1 m2 m3 m4 bd fc hd sz el t g fm hm so si sh ce ca td wa kp la bf oo bo pw ow tr)) at_X4_take_117 w43 (w9v (qg_GW.trans (qg_GL.trans (qg_GU.trans (qg_GP.trans (qg_GB.trans (qg_GA.trans qg_GK))))))) ⟨⟨by decide, Nat.le_of_ble_eq_true rfl⟩, by omega, by omega⟩ w_pt1_G ?_
    refine E_aload_n at_X4_take_120 rfl ?_
    refine E_getfield (v := .ref 44) at_X4_take_121 w35 rfl (by decide) rfl ?_
    refine E_iconst (x := nI 0) at_X4_take_124 (by decide) ?_
    refine E_aload_n at_X4_take_125 rfl ?_
    refine E_getfield (v := .ref 10) at_X4_take_126 w1 rfl (by decide) rfl ?_
    refine E_iconst (x := nI 0) at_X4_take_129 (by decide) ?_
    refine E_bipush (x := nI 8) at_X4_take_130 (by decide) ?_
    refine E_cpN (cs2 := (ww im lf (qs_C (qs_G (qs_W (qs_L (qs_U (qs_P (qs_B (qs_A (qs_K s (qK rq)) (qA rq)) (qB rq)) (qP rq)) (qU rq)) (qL rq)) (qW rq)) (qG rq)) (qC rq)) d k ls rf rz ra rn rq lt m1 m2 m3 m4 bd fc hd sz el t g fm hm so si sh ce ca td wa kp la bf oo bo pw ow tr)) at_X4_take_132 w44 (w10v (qg_CG.trans (qg_CW.trans (qg_CL.trans (qg_CU.trans (qg_CP.trans (qg_CB.trans (qg_CA.trans qg_CK)))))))) ⟨⟨by decide, Nat.le_of_ble_eq_true rfl⟩, by omega, by omega⟩ w_pt1_C ?_
    refine E_aload_n at_X4_take_135 rfl ?_
    refine E_aload_n at_X4_take_136 rfl ?_
    refine E_getfield (v := .int (nI (qN rq))) at_X4_take_137 w35 rfl (by decide) rfl ?_
    refine E_putfield (cs2 := (ww im lf (qs_N (qs_C (qs_G (qs_W (qs_L (qs_U (qs_P (qs_B (qs_A (qs_K s (qK rq)) (qA rq)) (qB rq)) (qP rq)) (qU rq)) (qL rq)) (qW rq)) (qG rq)) (qC rq)) (qN rq)) d k ls rf rz ra rn rq lt m1 m2 m3 m4 bd fc hd sz el t g fm hm so si sh ce ca td wa kp la bf oo bo pw ow tr)) at_X4_take_140 w1 rfl (by decide) (Nat.le_of_ble_eq_true rfl) rfl rfl rfl w_pt1_N ?_
    refine E_aload_n at_X4_take_143 rfl ?_
    refine E_aload_n at_X4_take_144 rfl ?_
    refine E_getfield (v := .int (nI (qM rq))) at_X4_take_145 w35 rfl (by decide) rfl ?_
    refine E_putfield (cs2 := (ww im lf (qs_M (qs_N (qs_C (qs_G (qs_W (qs_L (qs_U (qs_P (qs_B (qs_A (qs_K s (qK rq)) (qA rq)) (qB rq)) (qP rq)) (qU rq)) (qL rq)) (qW rq)) (qG rq)) (qC rq)) (qN rq)) (qM rq)) d k ls rf rz ra rn rq lt m1 m2 m3 m4 bd fc hd sz el t g fm hm so si sh ce ca td wa kp la bf oo bo pw ow tr)) at_X4_take_148 w1 rfl (by decide) (Nat.le_of_ble_eq_true rfl) rfl rfl rfl w_pt1_M ?_
    refine E_aload_n at_X4_take_151 rfl ?_
    refine E_aload_n at_X4_take_152 rfl ?_
    refine E_getfield (v := .int (qR rq)) at_X4_take_153 w35 rfl (by decide) rfl ?_
    refine E_putfield (cs2 := (ww im lf (qs_R (qs_M (qs_N (qs_C (qs_G (qs_W (qs_L (qs_U (qs_P (qs_B (qs_A (qs_K s (qK rq)) (qA rq)) (qB rq)) (qP rq)) (qU rq)) (qL rq)) (qW rq)) (qG rq)) (qC rq)) (qN rq)) (qM rq)) (qR rq)) d k ls rf rz ra rn rq lt m1 m2 m3 m4 bd fc hd sz el t g fm hm so si sh ce ca td wa kp la bf oo bo pw ow tr)) at_X4_take_156 w1 rfl (by decide) (Nat.le_of_ble_eq_true rfl) rfl rfl rfl w_pt1_R ?_
    refine E_aload_n at_X4_take_159 rfl ?_
    refine E_aload_n at_X4_take_160 rfl ?_
    refine E_getfield (v := .int (qY rq)) at_X4_take_161 w35 rfl (by decide) rfl ?_
    refine E_putfield (cs2 := (ww im lf (qs_Y (qs_R (qs_M (qs_N (qs_C (qs_G (qs_W (qs_L (qs_U (qs_P (qs_B (qs_A (qs_K s (qK rq)) (qA rq)) (qB rq)) (qP rq)) (qU rq)) (qL rq)) (qW rq)) (qG rq)) (qC rq)) (qN rq)) (qM rq)) (qR rq)) (qY rq)) d k ls rf rz ra rn rq lt m1 m2 m3 m4 bd fc hd sz el t g fm hm so si sh ce ca td wa kp la bf oo bo pw ow tr)) at_X4_take_164 w1 rfl (by decide) (Nat.le_of_ble_eq_true rfl) rfl rfl rfl w_pt1_Y ?_
    refine E_aload_n at_X4_take_167 rfl ?_
    refine E_aload_n at_X4_take_168 rfl ?_
    refine E_getfield (v := .int (qD rq)) at_X4_take_169 w35 rfl (by decide) rfl ?_
    refine E_putfield (cs2 := (ww im lf (qs_D (qs_Y (qs_R (qs_M (qs_N (qs_C (qs_G (qs_W (qs_L (qs_U (qs_P (qs_B (qs_A (qs_K s (qK rq)) (qA rq)) (qB rq)) (qP rq)) (qU rq)) (qL rq)) (qW rq)) (qG rq)) (qC rq)) (qN rq)) (qM rq)) (qR rq)) (qY rq)) (qD rq)) d k ls rf rz ra rn rq lt m1 m2 m3 m4 bd fc hd sz el t g fm hm so si sh ce ca td wa kp la bf oo bo pw ow tr)) at_X4_take_172 w1 rfl (by decide) (Nat.le_of_ble_eq_true rfl) rfl rfl rfl w_pt1_D ?_
    refine E_aload_n at_X4_take_175 rfl ?_
    refine E_aload_n at_X4_take_176 rfl ?_
    refine E_getfield (v := .int (qS rq)) at_X4_take_177 w35 rfl (by decide) rfl ?_
    refine E_putfield (cs2 := (ww im lf (qs_S (qs_D (qs_Y (qs_R (qs_M (qs_N (qs_C (qs_G (qs_W (qs_L (qs_U (qs_P (qs_B (qs_A (qs_K s (qK rq)) (qA rq)) (qB rq)) (qP rq)) (qU rq)) (qL rq)) (qW rq)) (qG rq)) (qC rq)) (qN rq)) (qM rq)) (qR rq)) (qY rq)) (qD rq)) (qS rq)) d k ls rf rz ra rn rq lt m1 m2 m3 m4 bd fc hd sz el t g fm hm so si sh ce ca td wa kp la bf oo bo pw ow tr)) at_X4_take_180 w1 rfl (by decide) (Nat.le_of_ble_eq_true rfl) rfl rfl rfl w_pt1_S ?_
    exact E_vret at_X4_take_183 rfl
  rw [qs_all] at X
  exact X
set_option maxHeartbeats 400000 in
theorem tk_11_1 (l : qLn d) (l2 : qLn s) : Ev ab_Z0 1 55 [.ref 11, .ref 1] (ww im lf s d k ls rf rz ra rn rq lt m1 m2 m3 m4 bd fc hd sz el t g fm hm so si sh ce ca td wa kp la bf oo bo pw ow tr) (none, (ww im lf s s k ls rf rz ra rn rq lt m1 m2 m3 m4 bd fc hd sz el t g fm hm so si sh ce ca td wa kp la bf oo bo pw ow tr)) := by
  obtain ⟨a1, a2, a3, a4, a5, a6, a7, a8, a9⟩ := id l
  obtain ⟨b1, b2, b3, b4, b5, b6, b7, b8, b9⟩ := id l2
  have X : Ev ab_Z0 1 55 [.ref 11, .ref 1] (ww im lf s d k ls rf rz ra rn rq lt m1 m2 m3 m4 bd fc hd sz el t g fm hm so si sh ce ca td wa kp la bf oo bo pw ow tr) (none, (ww im lf s (qs_S (qs_D (qs_Y (qs_R (qs_M (qs_N (qs_C (qs_G (qs_W (qs_L (qs_U (qs_P (qs_B (qs_A (qs_K d (qK s)) (qA s)) (qB s)) (qP s)) (qU s)) (qL s)) (qW s)) (qG s)) (qC s)) (qN s)) (qM s)) (qR s)) (qY s)) (qD s)) (qS s)) k ls rf rz ra rn rq lt m1 m2 m3 m4 bd fc hd sz el t g fm hm so si sh ce ca td wa kp la bf oo bo pw ow tr)) := by
    refine Ef.in (md := mX4_take) (L := [some (.ref 11), some (.ref 1)]) rfl (Nat.le_of_ble_eq_true rfl) rfl ?_
    refine E_aload_n at_X4_take_0 rfl ?_
    refine E_getfield (v := .ref 2) at_X4_take_1 w1 rfl (by decide) rfl ?_
    refine E_iconst (x := nI 0) at_X4_take_4 (by decide) ?_
    refine E_aload_n at_X4_take_5 rfl ?_
    refine E_getfield (v := .ref 12) at_X4_take_6 w11 rfl (by decide) rfl ?_
    refine E_iconst (x := nI 0) at_X4_take_9 (by decide) ?_
    refine E_bipush (x := nI 9) at_X4_take_10 (by decide) ?_
    refine E_cpN (cs2 := (ww im lf s (qs_K d (qK s)) k ls rf rz ra rn rq lt m1 m2 m3 m4 bd fc hd sz el t g fm hm so si sh ce ca td wa kp la bf oo bo pw ow tr)) at_X4_take_12 w2 w12 ⟨⟨by decide, Nat.le_of_ble_eq_true rfl⟩, by omega, by omega⟩ w_pt11_K ?_
    refine E_aload_n at_X4_take_15 rfl ?_
    refine E_getfield (v := .ref 3) at_X4_take_16 w1 rfl (by decide) rfl ?_
    refine E_iconst (x := nI 0) at_X4_take_19 (by decide) ?_
    refine E_aload_n at_X4_take_20 rfl ?_
    refine E_getfield (v := .ref 13) at_X4_take_21 w11 rfl (by decide) rfl ?_
    refine E_iconst (x := nI 0) at_X4_take_24 (by decide) ?_
    refine E_bipush (x := nI 9) at_X4_take_25 (by decide) ?_
    refine E_cpN (cs2 := (ww im lf s (qs_A (qs_K d (qK s)) (qA s)) k ls rf rz ra rn rq lt m1 m2 m3 m4 bd fc hd sz el t g fm hm so si sh ce ca td wa kp la bf oo bo pw ow tr)) at_X4_take_27 w3 (w13v qg_AK) ⟨⟨by decide, Nat.le_of_ble_eq_true rfl⟩, by omega, by omega⟩ w_pt11_A ?_
    refine E_aload_n at_X4_take_30 rfl ?_
    refine E_getfield (v := .ref 4) at_X4_take_31 w1 rfl (by decide) rfl ?_
    refine E_iconst (x := nI 0) at_X4_take_34 (by decide) ?_
    refine E_aload_n at_X4_take_35 rfl ?_
    refine E_getfield (v := .ref 14) at_X4_take_36 w11 rfl (by decide) rfl ?_
    refine E_iconst (x := nI 0) at_X4_take_39 (by decide) ?_
    refine E_bipush (x := nI 9) at_X4_take_40 (by decide) ?_
    refine E_cpN (cs2 := (ww im lf s (qs_B (qs_A (qs_K d (qK s)) (qA s)) (qB s)) k ls rf rz ra rn rq lt m1 m2 m3 m4 bd fc hd sz el t g fm hm so si sh ce ca td wa kp la bf oo bo pw ow tr)) at_X4_take_42 w4 (w14v (qg_BA.trans qg_BK)) ⟨⟨by decide, Nat.le_of_ble_eq_true rfl⟩, by omega, by omega⟩ w_pt11_B ?_
    refine E_aload_n at_X4_take_45 rfl ?_
    refine E_getfield (v := .ref 5) at_X4_take_46 w1 rfl (by decide) rfl ?_
    refine E_iconst (x := nI 0) at_X4_take_49 (by decide) ?_
    refine E_aload_n at_X4_take_50 rfl ?_
    refine E_getfield (v := .ref 15) at_X4_take_51 w11 rfl (by decide) rfl ?_
    refine E_iconst (x := nI 0) at_X4_take_54 (by decide) ?_
    refine E_bipush (x := nI 9) at_X4_take_55 (by decide) ?_
    refine E_cpN (cs2 := (ww im lf s (qs_P (qs_B (qs_A (qs_K d (qK s)) (qA s)) (qB s)) (qP s)) k ls rf rz ra rn rq lt m1 m2 m3 m4 bd fc hd sz el t g fm hm so si sh ce ca td wa kp la bf oo bo pw ow tr)) at_X4_take_57 w5 (w15v (qg_PB.trans (qg_PA.trans qg_PK))) ⟨⟨by decide, Nat.le_of_ble_eq_true rfl⟩, by omega, by omega⟩ w_pt11_P ?_
    refine E_aload_n at_X4_take_60 rfl ?_
    refine E_getfield (v := .ref 6) at_X4_take_61 w1 rfl (by decide) rfl ?_
    refine E_iconst (x := nI 0) at_X4_take_64 (by decide) ?_
    refine E_aload_n at_X4_take_65 rfl ?_
    refine E_getfield (v := .ref 16) at_X4_take_66 w11 rfl (by decide) rfl ?_
    refine E_iconst (x := nI 0) at_X4_take_69 (by decide) ?_
    refine E_bipush (x := nI 6) at_X4_take_70 (by decide) ?_
    refine E_cpN (cs2 := (ww im lf s (qs_U (qs_P (qs_B (qs_A (qs_K d (qK s)) (qA s)) (qB s)) (qP s)) (qU s)) k ls rf rz ra rn rq lt m1 m2 m3 m4 bd fc hd sz el t g fm hm so si sh ce ca td wa kp la bf oo bo pw ow tr)) at_X4_take_72 w6 (w16v (qg_UP.trans (qg_UB.trans (qg_UA.trans qg_UK)))) ⟨⟨by decide, Nat.le_of_ble_eq_true rfl⟩, by omega, by omega⟩ w_pt11_U ?_
    refine E_aload_n at_X4_take_75 rfl ?_
    refine E_getfield (v := .ref 7) at_X4_take_76 w1 rfl (by decide) rfl ?_
    refine E_iconst (x := nI 0) at_X4_take_79 (by decide) ?_
    refine E_aload_n at_X4_take_80 rfl ?_
    refine E_getfield (v := .ref 17) at_X4_take_81 w11 rfl (by decide) rfl ?_
    refine E_iconst (x := nI 0) at_X4_take_84 (by decide) ?_
    refine E_bipush (x := nI 6) at_X4_take_85 (by decide) ?_
    refine E_cpN (cs2 := (ww im lf s (qs_L (qs_U (qs_P (qs_B (qs_A (qs_K d (qK s)) (qA s)) (qB s)) (qP s)) (qU s)) (qL s)) k ls rf rz ra rn rq lt m1 m2 m3 m4 bd fc hd sz el t g fm hm so si sh ce ca td wa kp la bf oo bo pw ow tr)) at_X4_take_87 w7 (w17v (qg_LU.trans (qg_LP.trans (qg_LB.trans (qg_LA.trans qg_LK))))) ⟨⟨by decide, Nat.le_of_ble_eq_true rfl⟩, by omega, by omega⟩ w_pt11_L ?_
    refine E_aload_n at_X4_take_90 rfl ?_
    refine E_getfield (v := .ref 8) at_X4_take_91 w1 rfl (by decide) rfl ?_
    refine E_iconst (x := nI 0) at_X4_take_94 (by decide) ?_
    refine E_aload_n at_X4_take_95 rfl ?_
    refine E_getfield (v := .ref 18) at_X4_take_96 w11 rfl (by decide) rfl ?_
    refine E_iconst (x := nI 0) at_X4_take_99 (by decide) ?_
    refine E_bipush (x := nI 6) at_X4_take_100 (by decide) ?_
    refine E_cpN (cs2 := (ww im lf s (qs_W (qs_L (qs_U (qs_P (qs_B (qs_A (qs_K d (qK s)) (qA s)) (qB s)) (qP s)) (qU s)) (qL s)) (qW s)) k ls rf rz ra rn rq lt m1 m2 m3 m4 bd fc hd sz el t g fm hm so si sh ce ca td wa kp la bf oo bo pw ow tr)) at_X4_take_102 w8 (w18v (qg_WL.trans (qg_WU.trans (qg_WP.trans (qg_WB.trans (qg_WA.trans qg_WK)))))) ⟨⟨by decide, Nat.le_of_ble_eq_true rfl⟩, by omega, by omega⟩ w_pt11_W ?_
    refine E_aload_n at_X4_take_105 rfl ?_
    refine E_getfield (v := .ref 9) at_X4_take_106 w1 rfl (by decide) rfl ?_
    refine E_iconst (x := nI 0) at_X4_take_109 (by decide) ?_
    refine E_aload_n at_X4_take_110 rfl ?_
    refine E_getfield (v := .ref 19) at_X4_take_111 w11 rfl (by decide) rfl ?_
    refine E_iconst (x := nI 0) at_X4_take_114 (by decide) ?_
    refine E_bipush (x := nI 6) at_X4_take_115 (by decide) ?_
    refine E_cpW (cs2 := (ww im lf s (qs_G (qs_W (qs_L (qs_U (qs_P (qs_B (qs_A (qs_K d (qK s)) (qA s)) (qB s)) (qP s)) (qU s)) (qL s)) (qW s)) (qG s)) k ls rf rz ra rn rq lt m1 m2 m3 m4 bd fc hd sz el t g fm hm so si sh ce ca td wa kp la bf oo bo pw ow tr)) at_X4_take_117 w9 (w19v (qg_GW.trans (qg_GL.trans (qg_GU.trans (qg_GP.trans (qg_GB.trans (qg_GA.trans qg_GK))))))) ⟨⟨by decide, Nat.le_of_ble_eq_true rfl⟩, by omega, by omega⟩ w_pt11_G ?_
    refine E_aload_n at_X4_take_120 rfl ?_
    refine E_getfield (v := .ref 10) at_X4_take_121 w1 rfl (by decide) rfl ?_
    refine E_iconst (x := nI 0) at_X4_take_124 (by decide) ?_
    refine E_aload_n at_X4_take_125 rfl ?_
    refine E_getfield (v := .ref 20) at_X4_take_126 w11 rfl (by decide) rfl ?_
    refine E_iconst (x := nI 0) at_X4_take_129 (by decide) ?_
    refine E_bipush (x := nI 8) at_X4_take_130 (by decide) ?_
    refine E_cpN (cs2 := (ww im lf s (qs_C (qs_G (qs_W (qs_L (qs_U (qs_P (qs_B (qs_A (qs_K d (qK s)) (qA s)) (qB s)) (qP s)) (qU s)) (qL s)) (qW s)) (qG s)) (qC s)) k ls rf rz ra rn rq lt m1 m2 m3 m4 bd fc hd sz el t g fm hm so si sh ce ca td wa kp la bf oo bo pw ow tr)) at_X4_take_132 w10 (w20v (qg_CG.trans (qg_CW.trans (qg_CL.trans (qg_CU.trans (qg_CP.trans (qg_CB.trans (qg_CA.trans qg_CK)))))))) ⟨⟨by decide, Nat.le_of_ble_eq_true rfl⟩, by omega, by omega⟩ w_pt11_C ?_
    refine E_aload_n at_X4_take_135 rfl ?_
    refine E_aload_n at_X4_take_136 rfl ?_
    refine E_getfield (v := .int (nI (qN s))) at_X4_take_137 w1 rfl (by decide) rfl ?_
    refine E_putfield (cs2 := (ww im lf s (qs_N (qs_C (qs_G (qs_W (qs_L (qs_U (qs_P (qs_B (qs_A (qs_K d (qK s)) (qA s)) (qB s)) (qP s)) (qU s)) (qL s)) (qW s)) (qG s)) (qC s)) (qN s)) k ls rf rz ra rn rq lt m1 m2 m3 m4 bd fc hd sz el t g fm hm so si sh ce ca td wa kp la bf oo bo pw ow tr)) at_X4_take_140 w11 rfl (by decide) (Nat.le_of_ble_eq_true rfl) rfl rfl rfl w_pt11_N ?_
    refine E_aload_n at_X4_take_143 rfl ?_
    refine E_aload_n at_X4_take_144 rfl ?_
    refine E_getfield (v := .int (nI (qM s))) at_X4_take_145 w1 rfl (by decide) rfl ?_
    refine E_putfield (cs2 := (ww im lf s (qs_M (qs_N (qs_C (qs_G (qs_W (qs_L (qs_U (qs_P (qs_B (qs_A (qs_K d (qK s)) (qA s)) (qB s)) (qP s)) (qU s)) (qL s)) (qW s)) (qG s)) (qC s)) (qN s)) (qM s)) k ls rf rz ra rn rq lt m1 m2 m3 m4 bd fc hd sz el t g fm hm so si sh ce ca td wa kp la bf oo bo pw ow tr)) at_X4_take_148 w11 rfl (by decide) (Nat.le_of_ble_eq_true rfl) rfl rfl rfl w_pt11_M ?_
    refine E_aload_n at_X4_take_151 rfl ?_
    refine E_aload_n at_X4_take_152 rfl ?_
    refine E_getfield (v := .int (qR s)) at_X4_take_153 w1 rfl (by decide) rfl ?_
    refine E_putfield (cs2 := (ww im lf s (qs_R (qs_M (qs_N (qs_C (qs_G (qs_W (qs_L (qs_U (qs_P (qs_B (qs_A (qs_K d (qK s)) (qA s)) (qB s)) (qP s)) (qU s)) (qL s)) (qW s)) (qG s)) (qC s)) (qN s)) (qM s)) (qR s)) k ls rf rz ra rn rq lt m1 m2 m3 m4 bd fc hd sz el t g fm hm so si sh ce ca td wa kp la bf oo bo pw ow tr)) at_X4_take_156 w11 rfl (by decide) (Nat.le_of_ble_eq_true rfl) rfl rfl rfl w_pt11_R ?_
    refine E_aload_n at_X4_take_159 rfl ?_
    refine E_aload_n at_X4_take_160 rfl ?_
    refine E_getfield (v := .int (qY s)) at_X4_take_161 w1 rfl (by decide) rfl ?_
    refine E_putfield (cs2 := (ww im lf s (qs_Y (qs_R (qs_M (qs_N (qs_C (qs_G (qs_W (qs_L (qs_U (qs_P (qs_B (qs_A (qs_K d (qK s)) (qA s)) (qB s)) (qP s)) (qU s)) (qL s)) (qW s)) (qG s)) (qC s)) (qN s)) (qM s)) (qR s)) (qY s)) k ls rf rz ra rn rq lt m1 m2 m3 m4 bd fc hd sz el t g fm hm so si sh ce ca td wa kp la bf oo bo pw ow tr)) at_X4_take_164 w11 rfl (by decide) (Nat.le_of_ble_eq_true rfl) rfl rfl rfl w_pt11_Y ?_
    refine E_aload_n at_X4_take_167 rfl ?_
    refine E_aload_n at_X4_take_168 rfl ?_
    refine E_getfield (v := .int (qD s)) at_X4_take_169 w1 rfl (by decide) rfl ?_
    refine E_putfield (cs2 := (ww im lf s (qs_D (qs_Y (qs_R (qs_M (qs_N (qs_C (qs_G (qs_W (qs_L (qs_U (qs_P (qs_B (qs_A (qs_K d (qK s)) (qA s)) (qB s)) (qP s)) (qU s)) (qL s)) (qW s)) (qG s)) (qC s)) (qN s)) (qM s)) (qR s)) (qY s)) (qD s)) k ls rf rz ra rn rq lt m1 m2 m3 m4 bd fc hd sz el t g fm hm so si sh ce ca td wa kp la bf oo bo pw ow tr)) at_X4_take_172 w11 rfl (by decide) (Nat.le_of_ble_eq_true rfl) rfl rfl rfl w_pt11_D ?_
    refine E_aload_n at_X4_take_175 rfl ?_
    refine E_aload_n at_X4_take_176 rfl ?_
    refine E_getfield (v := .int (qS s)) at_X4_take_177 w1 rfl (by decide) rfl ?_
    refine E_putfield (cs2 := (ww im lf s (qs_S (qs_D (qs_Y (qs_R (qs_M (qs_N (qs_C (qs_G (qs_W (qs_L (qs_U (qs_P (qs_B (qs_A (qs_K d (qK s)) (qA s)) (qB s)) (qP s)) (qU s)) (qL s)) (qW s)) (qG s)) (qC s)) (qN s)) (qM s)) (qR s)) (qY s)) (qD s)) (qS s)) k ls rf rz ra rn rq lt m1 m2 m3 m4 bd fc hd sz el t g fm hm so si sh ce ca td wa kp la bf oo bo pw ow tr)) at_X4_take_180 w11 rfl (by decide) (Nat.le_of_ble_eq_true rfl) rfl rfl rfl w_pt11_S ?_
    exact E_vret at_X4_take_183 rfl
  rw [qs_all] at X
  exact X
set_option maxHeartbeats 400000 in
theorem tk_21_1 (l : qLn k) (l2 : qLn s) : Ev ab_Z0 1 55 [.ref 21, .ref 1] (ww im lf s d k ls rf rz ra rn rq lt m1 m2 m3 m4 bd fc hd sz el t g fm hm so si sh ce ca td wa kp la bf oo bo pw ow tr) (none, (ww im lf s d s ls rf rz ra rn rq lt m1 m2 m3 m4 bd fc hd sz el t g fm hm so si sh ce ca td wa kp la bf oo bo pw ow tr)) := by
  obtain ⟨a1, a2, a3, a4, a5, a6, a7, a8, a9⟩ := id l
  obtain ⟨b1, b2, b3, b4, b5, b6, b7, b8, b9⟩ := id l2
  have X : Ev ab_Z0 1 55 [.ref 21, .ref 1] (ww im lf s d k ls rf rz ra rn rq lt m1 m2 m3 m4 bd fc hd sz el t g fm hm so si sh ce ca td wa kp la bf oo bo pw ow tr) (none, (ww im lf s d (qs_S (qs_D (qs_Y (qs_R (qs_M (qs_N (qs_C (qs_G (qs_W (qs_L (qs_U (qs_P (qs_B (qs_A (qs_K k (qK s)) (qA s)) (qB s)) (qP s)) (qU s)) (qL s)) (qW s)) (qG s)) (qC s)) (qN s)) (qM s)) (qR s)) (qY s)) (qD s)) (qS s)) ls rf rz ra rn rq lt m1 m2 m3 m4 bd fc hd sz el t g fm hm so si sh ce ca td wa kp la bf oo bo pw ow tr)) := by
    refine Ef.in (md := mX4_take) (L := [some (.ref 21), some (.ref 1)]) rfl (Nat.le_of_ble_eq_true rfl) rfl ?_
    refine E_aload_n at_X4_take_0 rfl ?_
    refine E_getfield (v := .ref 2) at_X4_take_1 w1 rfl (by decide) rfl ?_
    refine E_iconst (x := nI 0) at_X4_take_4 (by decide) ?_
    refine E_aload_n at_X4_take_5 rfl ?_
    refine E_getfield (v := .ref 22) at_X4_take_6 w21 rfl (by decide) rfl ?_
    refine E_iconst (x := nI 0) at_X4_take_9 (by decide) ?_
    refine E_bipush (x := nI 9) at_X4_take_10 (by decide) ?_
    refine E_cpN (cs2 := (ww im lf s d (qs_K k (qK s)) ls rf rz ra rn rq lt m1 m2 m3 m4 bd fc hd sz el t g fm hm so si sh ce ca td wa kp la bf oo bo pw ow tr)) at_X4_take_12 w2 w22 ⟨⟨by decide, Nat.le_of_ble_eq_true rfl⟩, by omega, by omega⟩ w_pt21_K ?_
    refine E_aload_n at_X4_take_15 rfl ?_
    refine E_getfield (v := .ref 3) at_X4_take_16 w1 rfl (by decide) rfl ?_
    refine E_iconst (x := nI 0) at_X4_take_19 (by decide) ?_
    refine E_aload_n at_X4_take_20 rfl ?_
    refine E_getfield (v := .ref 23) at_X4_take_21 w21 rfl (by decide) rfl ?_
    refine E_iconst (x := nI 0) at_X4_take_24 (by decide) ?_
    refine E_bipush (x := nI 9) at_X4_take_25 (by decide) ?_
    refine E_cpN (cs2 := (ww im lf s d (qs_A (qs_K k (qK s)) (qA s)) ls rf rz ra rn rq lt m1 m2 m3 m4 bd fc hd sz el t g fm hm so si sh ce ca td wa kp la bf oo bo pw ow tr)) at_X4_take_27 w3 (w23v qg_AK) ⟨⟨by decide, Nat.le_of_ble_eq_true rfl⟩, by omega, by omega⟩ w_pt21_A ?_
    refine E_aload_n at_X4_take_30 rfl ?_
    refine E_getfield (v := .ref 4) at_X4_take_31 w1 rfl (by decide) rfl ?_
    refine E_iconst (x := nI 0) at_X4_take_34 (by decide) ?_
    refine E_aload_n at_X4_take_35 rfl ?_
    refine E_getfield (v := .ref 24) at_X4_take_36 w21 rfl (by decide) rfl ?_
    refine E_iconst (x := nI 0) at_X4_take_39 (by decide) ?_
    refine E_bipush (x := nI 9) at_X4_take_40 (by decide) ?_
    refine E_cpN (cs2 := (ww im lf s d (qs_B (qs_A (qs_K k (qK s)) (qA s)) (qB s)) ls rf rz ra rn rq lt m1 m2 m3 m4 bd fc hd sz el t g fm hm so si sh ce ca td wa kp la bf oo bo pw ow tr)) at_X4_take_42 w4 (w24v (qg_BA.trans qg_BK)) ⟨⟨by decide, Nat.le_of_ble_eq_true rfl⟩, by omega, by omega⟩ w_pt21_B ?_
    refine E_aload_n at_X4_take_45 rfl ?_
    refine E_getfield (v := .ref 5) at_X4_take_46 w1 rfl (by decide) rfl ?_
    refine E_iconst (x := nI 0) at_X4_take_49 (by decide) ?_
    refine E_aload_n at_X4_take_50 rfl ?_
    refine E_getfield (v := .ref 25) at_X4_take_51 w21 rfl (by decide) rfl ?_
    refine E_iconst (x := nI 0) at_X4_take_54 (by decide) ?_
    refine E_bipush (x := nI 9) at_X4_take_55 (by decide) ?_
    refine E_cpN (cs2 := (ww im lf s d (qs_P (qs_B (qs_A (qs_K k (qK s)) (qA s)) (qB s)) (qP s)) ls rf rz ra rn rq lt m1 m2 m3 m4 bd fc hd sz el t g fm hm so si sh ce ca td wa kp la bf oo bo pw ow tr)) at_X4_take_57 w5 (w25v (qg_PB.trans (qg_PA.trans qg_PK))) ⟨⟨by decide, Nat.le_of_ble_eq_true rfl⟩, by omega, by omega⟩ w_pt21_P ?_
    refine E_aload_n at_X4_take_60 rfl ?_
    refine E_getfield (v := .ref 6) at_X4_take_61 w1 rfl (by decide) rfl ?_
    refine E_iconst (x := nI 0) at_X4_take_64 (by decide) ?_
    refine E_aload_n at_X4_take_65 rfl ?_
    refine E_getfield (v := .ref 26) at_X4_take_66 w21 rfl (by decide) rfl ?_
    refine E_iconst (x := nI 0) at_X4_take_69 (by decide) ?_
    refine E_bipush (x := nI 6) at_X4_take_70 (by decide) ?_
    refine E_cpN (cs2 := (ww im lf s d (qs_U (qs_P (qs_B (qs_A (qs_K k (qK s)) (qA s)) (qB s)) (qP s)) (qU s)) ls rf rz ra rn rq lt m1 m2 m3 m4 bd fc hd sz el t g fm hm so si sh ce ca td wa kp la bf oo bo pw ow tr)) at_X4_take_72 w6 (w26v (qg_UP.trans (qg_UB.trans (qg_UA.trans qg_UK)))) ⟨⟨by decide, Nat.le_of_ble_eq_true rfl⟩, by omega, by omega⟩ w_pt21_U ?_
    refine E_aload_n at_X4_take_75 rfl ?_
    refine E_getfield (v := .ref 7) at_X4_take_76 w1 rfl (by decide) rfl ?_
    refine E_iconst (x := nI 0) at_X4_take_79 (by decide) ?_
    refine E_aload_n at_X4_take_80 rfl ?_
    refine E_getfield (v := .ref 27) at_X4_take_81 w21 rfl (by decide) rfl ?_
    refine E_iconst (x := nI 0) at_X4_take_84 (by decide) ?_
    refine E_bipush (x := nI 6) at_X4_take_85 (by decide) ?_
    refine E_cpN (cs2 := (ww im lf s d (qs_L (qs_U (qs_P (qs_B (qs_A (qs_K k (qK s)) (qA s)) (qB s)) (qP s)) (qU s)) (qL s)) ls rf rz ra rn rq lt m1 m2 m3 m4 bd fc hd sz el t g fm hm so si sh ce ca td wa kp la bf oo bo pw ow tr)) at_X4_take_87 w7 (w27v (qg_LU.trans (qg_LP.trans (qg_LB.trans (qg_LA.trans qg_LK))))) ⟨⟨by decide, Nat.le_of_ble_eq_true rfl⟩, by omega, by omega⟩ w_pt21_L ?_
    refine E_aload_n at_X4_take_90 rfl ?_
    refine E_getfield (v := .ref 8) at_X4_take_91 w1 rfl (by decide) rfl ?_
    refine E_iconst (x := nI 0) at_X4_take_94 (by decide) ?_
    refine E_aload_n at_X4_take_95 rfl ?_
    refine E_getfield (v := .ref 28) at_X4_take_96 w21 rfl (by decide) rfl ?_
    refine E_iconst (x := nI 0) at_X4_take_99 (by decide) ?_
    refine E_bipush (x := nI 6) at_X4_take_100 (by decide) ?_
    refine E_cpN (cs2 := (ww im lf s d (qs_W (qs_L (qs_U (qs_P (qs_B (qs_A (qs_K k (qK s)) (qA s)) (qB s)) (qP s)) (qU s)) (qL s)) (qW s)) ls rf rz ra rn rq lt m1 m2 m3 m4 bd fc hd sz el t g fm hm so si sh ce ca td wa kp la bf oo bo pw ow tr)) at_X4_take_102 w8 (w28v (qg_WL.trans (qg_WU.trans (qg_WP.trans (qg_WB.trans (qg_WA.trans qg_WK)))))) ⟨⟨by decide, Nat.le_of_ble_eq_true rfl⟩, by omega, by omega⟩ w_pt21_W ?_
    refine E_aload_n at_X4_take_105 rfl ?_
    refine E_getfield (v := .ref 9) at_X4_take_106 w1 rfl (by decide) rfl ?_
    refine E_iconst (x := nI 0) at_X4_take_109 (by decide) ?_
    refine E_aload_n at_X4_take_110 rfl ?_
    refine E_getfield (v := .ref 29) at_X4_take_111 w21 rfl (by decide) rfl ?_
    refine E_iconst (x := nI 0) at_X4_take_114 (by decide) ?_
    refine E_bipush (x := nI 6) at_X4_take_115 (by decide) ?_
    refine E_cpW (cs2 := (ww im lf s d (qs_G (qs_W (qs_L (qs_U (qs_P (qs_B (qs_A (qs_K k (qK s)) (qA s)) (qB s)) (qP s)) (qU s)) (qL s)) (qW s)) (qG s)) ls rf rz ra rn rq lt m1 m2 m3 m4 bd fc hd sz el t g fm hm so si sh ce ca td wa kp la bf oo bo pw ow tr)) at_X4_take_117 w9 (w29v (qg_GW.trans (qg_GL.trans (qg_GU.trans (qg_GP.trans (qg_GB.trans (qg_GA.trans qg_GK))))))) ⟨⟨by decide, Nat.le_of_ble_eq_true rfl⟩, by omega, by omega⟩ w_pt21_G ?_
    refine E_aload_n at_X4_take_120 rfl ?_
    refine E_getfield (v := .ref 10) at_X4_take_121 w1 rfl (by decide) rfl ?_
    refine E_iconst (x := nI 0) at_X4_take_124 (by decide) ?_
    refine E_aload_n at_X4_take_125 rfl ?_
    refine E_getfield (v := .ref 30) at_X4_take_126 w21 rfl (by decide) rfl ?_
    refine E_iconst (x := nI 0) at_X4_take_129 (by decide) ?_
    refine E_bipush (x := nI 8) at_X4_take_130 (by decide) ?_
    refine E_cpN (cs2 := (ww im lf s d (qs_C (qs_G (qs_W (qs_L (qs_U (qs_P (qs_B (qs_A (qs_K k (qK s)) (qA s)) (qB s)) (qP s)) (qU s)) (qL s)) (qW s)) (qG s)) (qC s)) ls rf rz ra rn rq lt m1 m2 m3 m4 bd fc hd sz el t g fm hm so si sh ce ca td wa kp la bf oo bo pw ow tr)) at_X4_take_132 w10 (w30v (qg_CG.trans (qg_CW.trans (qg_CL.trans (qg_CU.trans (qg_CP.trans (qg_CB.trans (qg_CA.trans qg_CK)))))))) ⟨⟨by decide, Nat.le_of_ble_eq_true rfl⟩, by omega, by omega⟩ w_pt21_C ?_
    refine E_aload_n at_X4_take_135 rfl ?_
    refine E_aload_n at_X4_take_136 rfl ?_
    refine E_getfield (v := .int (nI (qN s))) at_X4_take_137 w1 rfl (by decide) rfl ?_
    refine E_putfield (cs2 := (ww im lf s d (qs_N (qs_C (qs_G (qs_W (qs_L (qs_U (qs_P (qs_B (qs_A (qs_K k (qK s)) (qA s)) (qB s)) (qP s)) (qU s)) (qL s)) (qW s)) (qG s)) (qC s)) (qN s)) ls rf rz ra rn rq lt m1 m2 m3 m4 bd fc hd sz el t g fm hm so si sh ce ca td wa kp la bf oo bo pw ow tr)) at_X4_take_140 w21 rfl (by decide) (Nat.le_of_ble_eq_true rfl) rfl rfl rfl w_pt21_N ?_
    refine E_aload_n at_X4_take_143 rfl ?_
    refine E_aload_n at_X4_take_144 rfl ?_
    refine E_getfield (v := .int (nI (qM s))) at_X4_take_145 w1 rfl (by decide) rfl ?_
    refine E_putfield (cs2 := (ww im lf s d (qs_M (qs_N (qs_C (qs_G (qs_W (qs_L (qs_U (qs_P (qs_B (qs_A (qs_K k (qK s)) (qA s)) (qB s)) (qP s)) (qU s)) (qL s)) (qW s)) (qG s)) (qC s)) (qN s)) (qM s)) ls rf rz ra rn rq lt m1 m2 m3 m4 bd fc hd sz el t g fm hm so si sh ce ca td wa kp la bf oo bo pw ow tr)) at_X4_take_148 w21 rfl (by decide) (Nat.le_of_ble_eq_true rfl) rfl rfl rfl w_pt21_M ?_
    refine E_aload_n at_X4_take_151 rfl ?_
    refine E_aload_n at_X4_take_152 rfl ?_
    refine E_getfield (v := .int (qR s)) at_X4_take_153 w1 rfl (by decide) rfl ?_
    refine E_putfield (cs2 := (ww im lf s d (qs_R (qs_M (qs_N (qs_C (qs_G (qs_W (qs_L (qs_U (qs_P (qs_B (qs_A (qs_K k (qK s)) (qA s)) (qB s)) (qP s)) (qU s)) (qL s)) (qW s)) (qG s)) (qC s)) (qN s)) (qM s)) (qR s)) ls rf rz ra rn rq lt m1 m2 m3 m4 bd fc hd sz el t g fm hm so si sh ce ca td wa kp la bf oo bo pw ow tr)) at_X4_take_156 w21 rfl (by decide) (Nat.le_of_ble_eq_true rfl) rfl rfl rfl w_pt21_R ?_
    refine E_aload_n at_X4_take_159 rfl ?_
    refine E_aload_n at_X4_take_160 rfl ?_
    refine E_getfield (v := .int (qY s)) at_X4_take_161 w1 rfl (by decide) rfl ?_
    refine E_putfield (cs2 := (ww im lf s d (qs_Y (qs_R (qs_M (qs_N (qs_C (qs_G (qs_W (qs_L (qs_U (qs_P (qs_B (qs_A (qs_K k (qK s)) (qA s)) (qB s)) (qP s)) (qU s)) (qL s)) (qW s)) (qG s)) (qC s)) (qN s)) (qM s)) (qR s)) (qY s)) ls rf rz ra rn rq lt m1 m2 m3 m4 bd fc hd sz el t g fm hm so si sh ce ca td wa kp la bf oo bo pw ow tr)) at_X4_take_164 w21 rfl (by decide) (Nat.le_of_ble_eq_true rfl) rfl rfl rfl w_pt21_Y ?_
    refine E_aload_n at_X4_take_167 rfl ?_
    refine E_aload_n at_X4_take_168 rfl ?_
    refine E_getfield (v := .int (qD s)) at_X4_take_169 w1 rfl (by decide) rfl ?_
    refine E_putfield (cs2 := (ww im lf s d (qs_D (qs_Y (qs_R (qs_M (qs_N (qs_C (qs_G (qs_W (qs_L (qs_U (qs_P (qs_B (qs_A (qs_K k (qK s)) (qA s)) (qB s)) (qP s)) (qU s)) (qL s)) (qW s)) (qG s)) (qC s)) (qN s)) (qM s)) (qR s)) (qY s)) (qD s)) ls rf rz ra rn rq lt m1 m2 m3 m4 bd fc hd sz el t g fm hm so si sh ce ca td wa kp la bf oo bo pw ow tr)) at_X4_take_172 w21 rfl (by decide) (Nat.le_of_ble_eq_true rfl) rfl rfl rfl w_pt21_D ?_
    refine E_aload_n at_X4_take_175 rfl ?_
    refine E_aload_n at_X4_take_176 rfl ?_
    refine E_getfield (v := .int (qS s)) at_X4_take_177 w1 rfl (by decide) rfl ?_
    refine E_putfield (cs2 := (ww im lf s d (qs_S (qs_D (qs_Y (qs_R (qs_M (qs_N (qs_C (qs_G (qs_W (qs_L (qs_U (qs_P (qs_B (qs_A (qs_K k (qK s)) (qA s)) (qB s)) (qP s)) (qU s)) (qL s)) (qW s)) (qG s)) (qC s)) (qN s)) (qM s)) (qR s)) (qY s)) (qD s)) (qS s)) ls rf rz ra rn rq lt m1 m2 m3 m4 bd fc hd sz el t g fm hm so si sh ce ca td wa kp la bf oo bo pw ow tr)) at_X4_take_180 w21 rfl (by decide) (Nat.le_of_ble_eq_true rfl) rfl rfl rfl w_pt21_S ?_
    exact E_vret at_X4_take_183 rfl
  rw [qs_all] at X
  exact X
set_option maxHeartbeats 400000 in
theorem tk_35_1 (l : qLn rq) (l2 : qLn s) : Ev ab_Z0 1 55 [.ref 35, .ref 1] (ww im lf s d k ls rf rz ra rn rq lt m1 m2 m3 m4 bd fc hd sz el t g fm hm so si sh ce ca td wa kp la bf oo bo pw ow tr) (none, (ww im lf s d k ls rf rz ra rn s lt m1 m2 m3 m4 bd fc hd sz el t g fm hm so si sh ce ca td wa kp la bf oo bo pw ow tr)) := by
  obtain ⟨a1, a2, a3, a4, a5, a6, a7, a8, a9⟩ := id l
  obtain ⟨b1, b2, b3, b4, b5, b6, b7, b8, b9⟩ := id l2
  have X : Ev ab_Z0 1 55 [.ref 35, .ref 1] (ww im lf s d k ls rf rz ra rn rq lt m1 m2 m3 m4 bd fc hd sz el t g fm hm so si sh ce ca td wa kp la bf oo bo pw ow tr) (none, (ww im lf s d k ls rf rz ra rn (qs_S (qs_D (qs_Y (qs_R (qs_M (qs_N (qs_C (qs_G (qs_W (qs_L (qs_U (qs_P (qs_B (qs_A (qs_K rq (qK s)) (qA s)) (qB s)) (qP s)) (qU s)) (qL s)) (qW s)) (qG s)) (qC s)) (qN s)) (qM s)) (qR s)) (qY s)) (qD s)) (qS s)) lt m1 m2 m3 m4 bd fc hd sz el t g fm hm so si sh ce ca td wa kp la bf oo bo pw ow tr)) := by
    refine Ef.in (md := mX4_take) (L := [some (.ref 35), some (.ref 1)]) rfl (Nat.le_of_ble_eq_true rfl) rfl ?_
    refine E_aload_n at_X4_take_0 rfl ?_
    refine E_getfield (v := .ref 2) at_X4_take_1 w1 rfl (by decide) rfl ?_
    refine E_iconst (x := nI 0) at_X4_take_4 (by decide) ?_
    refine E_aload_n at_X4_take_5 rfl ?_
    refine E_getfield (v := .ref 36) at_X4_take_6 w35 rfl (by decide) rfl ?_
    refine E_iconst (x := nI 0) at_X4_take_9 (by decide) ?_
    refine E_bipush (x := nI 9) at_X4_take_10 (by decide) ?_
    refine E_cpN (cs2 := (ww im lf s d k ls rf rz ra rn (qs_K rq (qK s)) lt m1 m2 m3 m4 bd fc hd sz el t g fm hm so si sh ce ca td wa kp la bf oo bo pw ow tr)) at_X4_take_12 w2 w36 ⟨⟨by decide, Nat.le_of_ble_eq_true rfl⟩, by omega, by omega⟩ w_pt35_K ?_
    refine E_aload_n at_X4_take_15 rfl ?_
    refine E_getfield (v := .ref 3) at_X4_take_16 w1 rfl (by decide) rfl ?_
    refine E_iconst (x := nI 0) at_X4_take_19 (by decide) ?_
    refine E_aload_n at_X4_take_20 rfl ?_
    refine E_getfield (v := .ref 37) at_X4_take_21 w35 rfl (by decide) rfl ?_
    refine E_iconst (x := nI 0) at_X4_take_24 (by decide) ?_
    refine E_bipush (x := nI 9) at_X4_take_25 (by decide) ?_
    refine E_cpN (cs2 := (ww im lf s d k ls rf rz ra rn (qs_A (qs_K rq (qK s)) (qA s)) lt m1 m2 m3 m4 bd fc hd sz el t g fm hm so si sh ce ca td wa kp la bf oo bo pw ow tr)) at_X4_take_27 w3 (w37v qg_AK) ⟨⟨by decide, Nat.le_of_ble_eq_true rfl⟩, by omega, by omega⟩ w_pt35_A ?_
    refine E_aload_n at_X4_take_30 rfl ?_
    refine E_getfield (v := .ref 4) at_X4_take_31 w1 rfl (by decide) rfl ?_
    refine E_iconst (x := nI 0) at_X4_take_34 (by decide) ?_
    refine E_aload_n at_X4_take_35 rfl ?_
    refine E_getfield (v := .ref 38) at_X4_take_36 w35 rfl (by decide) rfl ?_
    refine E_iconst (x := nI 0) at_X4_take_39 (by decide) ?_
    refine E_bipush (x := nI 9) at_X4_take_40 (by decide) ?_
    refine E_cpN (cs2 := (ww im lf s d k ls rf rz ra rn (qs_B (qs_A (qs_K rq (qK s)) (qA s)) (qB s)) lt m1 m2 m3 m4 bd fc hd sz el t g fm hm so si sh ce ca td wa kp la bf oo bo pw ow tr)) at_X4_take_42 w4 (w38v (qg_BA.trans qg_BK)) ⟨⟨by decide, Nat.le_of_ble_eq_true rfl⟩, by omega, by omega⟩ w_pt35_B ?_
    refine E_aload_n at_X4_take_45 rfl ?_
    refine E_getfield (v := .ref 5) at_X4_take_46 w1 rfl (by decide) rfl ?_
    refine E_iconst (x := nI 0) at_X4_take_49 (by decide) ?_
    refine E_aload_n at_X4_take_50 rfl ?_
    refine E_getfield (v := .ref 39) at_X4_take_51 w35 rfl (by decide) rfl ?_
    refine E_iconst (x := nI 0) at_X4_take_54 (by decide) ?_
    refine E_bipush (x := nI 9) at_X4_take_55 (by decide) ?_
    refine E_cpN (cs2 := (ww im lf s d k ls rf rz ra rn (qs_P (qs_B (qs_A (qs_K rq (qK s)) (qA s)) (qB s)) (qP s)) lt m1 m2 m3 m4 bd fc hd sz el t g fm hm so si sh ce ca td wa kp la bf oo bo pw ow tr)) at_X4_take_57 w5 (w39v (qg_PB.trans (qg_PA.trans qg_PK))) ⟨⟨by decide, Nat.le_of_ble_eq_true rfl⟩, by omega, by omega⟩ w_pt35_P ?_
    refine E_aload_n at_X4_take_60 rfl ?_
    refine E_getfield (v := .ref 6) at_X4_take_61 w1 rfl (by decide) rfl ?_
    refine E_iconst (x := nI 0) at_X4_take_64 (by decide) ?_
    refine E_aload_n at_X4_take_65 rfl ?_
    refine E_getfield (v := .ref 40) at_X4_take_66 w35 rfl (by decide) rfl ?_
    refine E_iconst (x := nI 0) at_X4_take_69 (by decide) ?_
    refine E_bipush (x := nI 6) at_X4_take_70 (by decide) ?_
    refine E_cpN (cs2 := (ww im lf s d k ls rf rz ra rn (qs_U (qs_P (qs_B (qs_A (qs_K rq (qK s)) (qA s)) (qB s)) (qP s)) (qU s)) lt m1 m2 m3 m4 bd fc hd sz el t g fm hm so si sh ce ca td wa kp la bf oo bo pw ow tr)) at_X4_take_72 w6 (w40v (qg_UP.trans (qg_UB.trans (qg_UA.trans qg_UK)))) ⟨⟨by decide, Nat.le_of_ble_eq_true rfl⟩, by omega, by omega⟩ w_pt35_U ?_
    refine E_aload_n at_X4_take_75 rfl ?_
    refine E_getfield (v := .ref 7) at_X4_take_76 w1 rfl (by decide) rfl ?_
    refine E_iconst (x := nI 0) at_X4_take_79 (by decide) ?_
    refine E_aload_n at_X4_take_80 rfl ?_
    refine E_getfield (v := .ref 41) at_X4_take_81 w35 rfl (by decide) rfl ?_
    refine E_iconst (x := nI 0) at_X4_take_84 (by decide) ?_
    refine E_bipush (x := nI 6) at_X4_take_85 (by decide) ?_
    refine E_cpN (cs2 := (ww im lf s d k ls rf rz ra rn (qs_L (qs_U (qs_P (qs_B (qs_A (qs_K rq (qK s)) (qA s)) (qB s)) (qP s)) (qU s)) (qL s)) lt m1 m2 m3 m4 bd fc hd sz el t g fm hm so si sh ce ca td wa kp la bf oo bo pw ow tr)) at_X4_take_87 w7 (w41v (qg_LU.trans (qg_LP.trans (qg_LB.trans (qg_LA.trans qg_LK))))) ⟨⟨by decide, Nat.le_of_ble_eq_true rfl⟩, by omega, by omega⟩ w_pt35_L ?_
    refine E_aload_n at_X4_take_90 rfl ?_
    refine E_getfield (v := .ref 8) at_X4_take_91 w1 rfl (by decide) rfl ?_
    refine E_iconst (x := nI 0) at_X4_take_94 (by decide) ?_
    refine E_aload_n at_X4_take_95 rfl ?_
    refine E_getfield (v := .ref 42) at_X4_take_96 w35 rfl (by decide) rfl ?_
    refine E_iconst (x := nI 0) at_X4_take_99 (by decide) ?_
    refine E_bipush (x := nI 6) at_X4_take_100 (by decide) ?_
    refine E_cpN (cs2 := (ww im lf s d k ls rf rz ra rn (qs_W (qs_L (qs_U (qs_P (qs_B (qs_A (qs_K rq (qK s)) (qA s)) (qB s)) (qP s)) (qU s)) (qL s)) (qW s)) lt m1 m2 m3 m4 bd fc hd sz el t g fm hm so si sh ce ca td wa kp la bf oo bo pw ow tr)) at_X4_take_102 w8 (w42v (qg_WL.trans (qg_WU.trans (qg_WP.trans (qg_WB.trans (qg_WA.trans qg_WK)))))) ⟨⟨by decide, Nat.le_of_ble_eq_true rfl⟩, by omega, by omega⟩ w_pt35_W ?_
    refine E_aload_n at_X4_take_105 rfl ?_
    refine E_getfield (v := .ref 9) at_X4_take_106 w1 rfl (by decide) rfl ?_
    refine E_iconst (x := nI 0) at_X4_take_109 (by decide) ?_
    refine E_aload_n at_X4_take_110 rfl ?_
    refine E_getfield (v := .ref 43) at_X4_take_111 w35 rfl (by decide) rfl ?_
    refine E_iconst (x := nI 0) at_X4_take_114 (by decide) ?_
    refine E_bipush (x := nI 6) at_X4_take_115 (by decide) ?_
    refine E_cpW (cs2 := (ww im lf s d k ls rf rz ra rn (qs_G (qs_W (qs_L (qs_U (qs_P (qs_B (qs_A (qs_K rq (qK s)) (qA s)) (qB s)) (qP s)) (qU s)) (qL s)) (qW s)) (qG s)) lt m1 m2 m3 m4 bd fc hd sz el t g fm hm so si sh ce ca td wa kp la bf oo bo pw ow tr)) at_X4_take_117 w9 (w43v (qg_GW.trans (qg_GL.trans (qg_GU.trans (qg_GP.trans (qg_GB.trans (qg_GA.trans qg_GK))))))) ⟨⟨by decide, Nat.le_of_ble_eq_true rfl⟩, by omega, by omega⟩ w_pt35_G ?_
    refine E_aload_n at_X4_take_120 rfl ?_
    refine E_getfield (v := .ref 10) at_X4_take_121 w1 rfl (by decide) rfl ?_
    refine E_iconst (x := nI 0) at_X4_take_124 (by decide) ?_
    refine E_aload_n at_X4_take_125 rfl ?_
    refine E_getfield (v := .ref 44) at_X4_take_126 w35 rfl (by decide) rfl ?_
    refine E_iconst (x := nI 0) at_X4_take_129 (by decide) ?_
    refine E_bipush (x := nI 8) at_X4_take_130 (by decide) ?_
    refine E_cpN (cs2 := (ww im lf s d k ls rf rz ra rn (qs_C (qs_G (qs_W (qs_L (qs_U (qs_P (qs_B (qs_A (qs_K rq (qK s)) (qA s)) (qB s)) (qP s)) (qU s)) (qL s)) (qW s)) (qG s)) (qC s)) lt m1 m2 m3 m4 bd fc hd sz el t g fm hm so si sh ce ca td wa kp la bf oo bo pw ow tr)) at_X4_take_132 w10 (w44v (qg_CG.trans (qg_CW.trans (qg_CL.trans (qg_CU.trans (qg_CP.trans (qg_CB.trans (qg_CA.trans qg_CK)))))))) ⟨⟨by decide, Nat.le_of_ble_eq_true rfl⟩, by omega, by omega⟩ w_pt35_C ?_
    refine E_aload_n at_X4_take_135 rfl ?_
    refine E_aload_n at_X4_take_136 rfl ?_
    refine E_getfield (v := .int (nI (qN s))) at_X4_take_137 w1 rfl (by decide) rfl ?_
    refine E_putfield (cs2 := (ww im lf s d k ls rf rz ra rn (qs_N (qs_C (qs_G (qs_W (qs_L (qs_U (qs_P (qs_B (qs_A (qs_K rq (qK s)) (qA s)) (qB s)) (qP s)) (qU s)) (qL s)) (qW s)) (qG s)) (qC s)) (qN s)) lt m1 m2 m3 m4 bd fc hd sz el t g fm hm so si sh ce ca td wa kp la bf oo bo pw ow tr)) at_X4_take_140 w35 rfl (by decide) (Nat.le_of_ble_eq_true rfl) rfl rfl rfl w_pt35_N ?_
    refine E_aload_n at_X4_take_143 rfl ?_
    refine E_aload_n at_X4_take_144 rfl ?_
    refine E_getfield (v := .int (nI (qM s))) at_X4_take_145 w1 rfl (by decide) rfl ?_
    refine E_putfield (cs2 := (ww im lf s d k ls rf rz ra rn (qs_M (qs_N (qs_C (qs_G (qs_W (qs_L (qs_U (qs_P (qs_B (qs_A (qs_K rq (qK s)) (qA s)) (qB s)) (qP s)) (qU s)) (qL s)) (qW s)) (qG s)) (qC s)) (qN s)) (qM s)) lt m1 m2 m3 m4 bd fc hd sz el t g fm hm so si sh ce ca td wa kp la bf oo bo pw ow tr)) at_X4_take_148 w35 rfl (by decide) (Nat.le_of_ble_eq_true rfl) rfl rfl rfl w_pt35_M ?_
    refine E_aload_n at_X4_take_151 rfl ?_
    refine E_aload_n at_X4_take_152 rfl ?_
    refine E_getfield (v := .int (qR s)) at_X4_take_153 w1 rfl (by decide) rfl ?_
    refine E_putfield (cs2 := (ww im lf s d k ls rf rz ra rn (qs_R (qs_M (qs_N (qs_C (qs_G (qs_W (qs_L (qs_U (qs_P (qs_B (qs_A (qs_K rq (qK s)) (qA s)) (qB s)) (qP s)) (qU s)) (qL s)) (qW s)) (qG s)) (qC s)) (qN s)) (qM s)) (qR s)) lt m1 m2 m3 m4 bd fc hd sz el t g fm hm so si sh ce ca td wa kp la bf oo bo pw ow tr)) at_X4_take_156 w35 rfl (by decide) (Nat.le_of_ble_eq_true rfl) rfl rfl rfl w_pt35_R ?_
    refine E_aload_n at_X4_take_159 rfl ?_
    refine E_aload_n at_X4_take_160 rfl ?_
    refine E_getfield (v := .int (qY s)) at_X4_take_161 w1 rfl (by decide) rfl ?_
    refine E_putfield (cs2 := (ww im lf s d k ls rf rz ra rn (qs_Y (qs_R (qs_M (qs_N (qs_C (qs_G (qs_W (qs_L (qs_U (qs_P (qs_B (qs_A (qs_K rq (qK s)) (qA s)) (qB s)) (qP s)) (qU s)) (qL s)) (qW s)) (qG s)) (qC s)) (qN s)) (qM s)) (qR s)) (qY s)) lt m1 m2 m3 m4 bd fc hd sz el t g fm hm so si sh ce ca td wa kp la bf oo bo pw ow tr)) at_X4_take_164 w35 rfl (by decide) (Nat.le_of_ble_eq_true rfl) rfl rfl rfl w_pt35_Y ?_
    refine E_aload_n at_X4_take_167 rfl ?_
    refine E_aload_n at_X4_take_168 rfl ?_
    refine E_getfield (v := .int (qD s)) at_X4_take_169 w1 rfl (by decide) rfl ?_
    refine E_putfield (cs2 := (ww im lf s d k ls rf rz ra rn (qs_D (qs_Y (qs_R (qs_M (qs_N (qs_C (qs_G (qs_W (qs_L (qs_U (qs_P (qs_B (qs_A (qs_K rq (qK s)) (qA s)) (qB s)) (qP s)) (qU s)) (qL s)) (qW s)) (qG s)) (qC s)) (qN s)) (qM s)) (qR s)) (qY s)) (qD s)) lt m1 m2 m3 m4 bd fc hd sz el t g fm hm so si sh ce ca td wa kp la bf oo bo pw ow tr)) at_X4_take_172 w35 rfl (by decide) (Nat.le_of_ble_eq_true rfl) rfl rfl rfl w_pt35_D ?_
    refine E_aload_n at_X4_take_175 rfl ?_
    refine E_aload_n at_X4_take_176 rfl ?_
    refine E_getfield (v := .int (qS s)) at_X4_take_177 w1 rfl (by decide) rfl ?_
    refine E_putfield (cs2 := (ww im lf s d k ls rf rz ra rn (qs_S (qs_D (qs_Y (qs_R (qs_M (qs_N (qs_C (qs_G (qs_W (qs_L (qs_U (qs_P (qs_B (qs_A (qs_K rq (qK s)) (qA s)) (qB s)) (qP s)) (qU s)) (qL s)) (qW s)) (qG s)) (qC s)) (qN s)) (qM s)) (qR s)) (qY s)) (qD s)) (qS s)) lt m1 m2 m3 m4 bd fc hd sz el t g fm hm so si sh ce ca td wa kp la bf oo bo pw ow tr)) at_X4_take_180 w35 rfl (by decide) (Nat.le_of_ble_eq_true rfl) rfl rfl rfl w_pt35_S ?_
    exact E_vret at_X4_take_183 rfl
  rw [qs_all] at X
  exact X
end TK
