/-! the tables hold what the methods need; by program (wip/tools/tables.py) -/
def ab_Nl : ab_N := [(RX5, 30, yX0_init, "FountainGivesChange"), (RX5, 37, yX2_init, "FountainGivesChange"), (RX5, 44, yX1_init, "FountainGivesChange"), (RX5, 61, yX3_init, "FountainGivesChange")]
/-- the arrays that stay: of each kind the one it is under; of each move the body that each kind has -/
def ab_Tb : List (List Int32) := [[-1, 0, 0, 1, 0, 2, 4], [10, 20, 0, 40, 51, 0, 70, 11, 0, 30, 0, 0, 0, 71, 12, 0, 0, 0, 50, 60, 0]]
def ab_Sl : List (String × String) := [("FountainGivesChange$Square", "ABOVE"), ("FountainGivesChange$Moves", "BODIES")]
def ab_Cq : ab_X := (RX3, ab_Nl, ab_Tb, ab_Sl)
def ab_Z0 : ab_Z := (3, ab_Tb)
def ab_Ws : List Cond := lw_tbl.filter goodWord
/-- the tables, in pieces: word i of piece j is number 1000 j + i -/
def ab_tb : Nat → List Cond := fun j => match j with
  | 0 => k2_sels lw_privs
  | 1 => tables_1_1
  | 2 => tables_1_2
  | 3 => tables_1_3
  | 4 => tables_1_4
  | 5 => tables_1_5
  | 6 => tables_1_6
  | _ => []
def ab_wn (i : Nat) : Option Cond := (ab_tb (i / 1000))[i % 1000]?
theorem ab_tb_in {j : Nat} {w : Cond} (h : w ∈ ab_tb j) : w ∈ lw_tbl := by
  unfold ab_tb at h
  split at h
  · exact List.mem_append_left _ h
  · exact List.mem_append_right _ (show w ∈ tables_1 from List.mem_append_left _ h)
  · exact List.mem_append_right _ (show w ∈ tables_1 from List.mem_append_right _ (List.mem_append_left _ h))
  · exact List.mem_append_right _ (show w ∈ tables_1 from List.mem_append_right _ (List.mem_append_right _ (List.mem_append_left _ h)))
  · exact List.mem_append_right _ (show w ∈ tables_1 from List.mem_append_right _ (List.mem_append_right _ (List.mem_append_right _ (List.mem_append_left _ h))))
  · exact List.mem_append_right _ (show w ∈ tables_1 from List.mem_append_right _ (List.mem_append_right _ (List.mem_append_right _ (List.mem_append_right _ (List.mem_append_left _ h)))))
  · exact List.mem_append_right _ (show w ∈ tables_1 from List.mem_append_right _ (List.mem_append_right _ (List.mem_append_right _ (List.mem_append_right _ (List.mem_append_right _ (h))))))
  · cases h
theorem ab_wn_in {i : Nat} {w : Cond} (h : ab_wn i = some w) : w ∈ lw_tbl := ab_tb_in (List.mem_of_getElem? h)
theorem ab_Ws_good : GoodIn ab_Ws ab_Ws := fun w h => ⟨h, good_of_word (List.mem_filter.mp h).2⟩
theorem ab_Ws_tbl : GoodIn lw_tbl ab_Ws := fun w h => ⟨(List.mem_filter.mp h).1, good_of_word (List.mem_filter.mp h).2⟩
theorem ab_inW {ws : List Cond} (ps : List Nat) (h : ws = ps.filterMap ab_wn) (hg : ws.all goodWord = true) : ∀ w ∈ ws, w ∈ ab_Ws := by
  intro w hw
  refine List.mem_filter.mpr ⟨?_, List.all_eq_true.mp hg w hw⟩
  rw [h] at hw
  obtain ⟨i, -, hi⟩ := List.mem_filterMap.mp hw
  exact ab_wn_in hi
theorem ab_Nl_in : ∀ q ∈ ab_Nl, Cond.methodLinkNest q.1 q.2.1 q.2.2.1 q.2.2.2 ∈ lw_tbl := List.forall_mem_cons.mpr ⟨ab_wn_in (i := 1104) (by decide +kernel), List.forall_mem_cons.mpr ⟨ab_wn_in (i := 1114) (by decide +kernel), List.forall_mem_cons.mpr ⟨ab_wn_in (i := 1143) (by decide +kernel), List.forall_mem_cons.mpr ⟨ab_wn_in (i := 1165) (by decide +kernel), fun _ h => absurd h List.not_mem_nil⟩⟩⟩⟩
def ab_G : Nat → Option ab_T := fun ci => match ci with
  | 0 => some (RX0, TX0, 1, tyX0)
  | 1 => some (RX1, TX1, 5, tyX1)
  | 2 => some (RX2, TX2, 6, tyX2)
  | 3 => some (RX3, TX3, 3, tyX3)
  | 4 => some (RX4, TX4, 15, tyX4)
  | 5 => some (RX5, TX5, 10, tyX5)
  | 6 => some (RX6, TX6, 49, tyX6)
  | _ => none
theorem ab_lX0 : ∀ w ∈ u_ws RX0 TX0 1, w ∈ ab_Ws := ab_inW [1109] (by decide +kernel) (by decide +kernel)
theorem ab_dX0 : ∀ k, k < 1 → (TX0 k).1 = RX0 := by decide +kernel
theorem ab_lX1 : ∀ w ∈ u_ws RX1 TX1 5, w ∈ ab_Ws := ab_inW [1153, 1155, 1157, 1159, 1161] (by decide +kernel) (by decide +kernel)
theorem ab_dX1 : ∀ k, k < 5 → (TX1 k).1 = RX1 := by decide +kernel
theorem ab_lX2 : ∀ w ∈ u_ws RX2 TX2 6, w ∈ ab_Ws := ab_inW [1128, 1130, 1132, 1134, 1136, 1138] (by decide +kernel) (by decide +kernel)
theorem ab_dX2 : ∀ k, k < 6 → (TX2 k).1 = RX2 := by decide +kernel
theorem ab_lX3 : ∀ w ∈ u_ws RX3 TX3 3, w ∈ ab_Ws := ab_inW [1174, 1176, 1178] (by decide +kernel) (by decide +kernel)
theorem ab_dX3 : ∀ k, k < 3 → (TX3 k).1 = RX3 := by decide +kernel
theorem ab_lX4 : ∀ w ∈ u_ws RX4 TX4 15, w ∈ ab_Ws := ab_inW [1068, 1070, 1072, 1074, 1076, 1078, 1080, 1082, 1084, 1086, 1088, 1090, 1092, 1094, 1096] (by decide +kernel) (by decide +kernel)
theorem ab_dX4 : ∀ k, k < 15 → (TX4 k).1 = RX4 := by decide +kernel
theorem ab_lX5 : ∀ w ∈ u_ws RX5 TX5 10, w ∈ ab_Ws := ab_inW [1192, 1194, 1196, 1198, 1200, 1202, 1204, 1206, 1208, 1210] (by decide +kernel) (by decide +kernel)
theorem ab_dX5 : ∀ k, k < 10 → (TX5 k).1 = RX5 := by decide +kernel
theorem ab_lX6 : ∀ w ∈ u_ws RX6 TX6 49, w ∈ ab_Ws := ab_inW [4146, 4148, 4150, 4152, 4154, 4156, 4158, 4160, 4162, 4164, 4166, 4168, 4170, 4172, 4174, 4176, 4178, 4180, 4182, 4184, 4186, 4188, 4190, 4192, 4194, 4196, 4198, 4200, 4202, 4204, 4206, 4208, 4210, 4212, 4214, 4216, 4218, 4220, 4222, 4224, 4226, 4228, 4230, 4232, 4234, 4236, 4238, 5000, 5002] (by decide +kernel) (by decide +kernel)
theorem ab_dX6 : ∀ k, k < 49 → (TX6 k).1 = RX6 := by decide +kernel
theorem ab_cgW : ab_cg vwCl ab_Ws ab_G := by
  intro ci C T N ty h
  unfold ab_G at h
  split at h
  · cases h; exact ⟨rfl, ab_lX0, tyX0_ok, nmX0, ab_dX0⟩
  · cases h; exact ⟨rfl, ab_lX1, tyX1_ok, nmX1, ab_dX1⟩
  · cases h; exact ⟨rfl, ab_lX2, tyX2_ok, nmX2, ab_dX2⟩
  · cases h; exact ⟨rfl, ab_lX3, tyX3_ok, nmX3, ab_dX3⟩
  · cases h; exact ⟨rfl, ab_lX4, tyX4_ok, nmX4, ab_dX4⟩
  · cases h; exact ⟨rfl, ab_lX5, tyX5_ok, nmX5, ab_dX5⟩
  · cases h; exact ⟨rfl, ab_lX6, tyX6_ok, nmX6, ab_dX6⟩
  · cases h
def ab_M : List ab_D := [mX0_init, mX0_bitsBy, mX0_weigh, mX0_putIn, mX0_fewestFor, mX0_amountsOf, mX1_init, mX1_bodyAt, mX1_answer, mX1_begin, mX1_bodyOf, mX1_kindWithBody, mX1_answerFrom, mX2_init, mX2_read, mX2_readItem, mX2_readPiece, mX2_readPerson, mX2_readCost, mX2_readHas, mX2_readBack, mX2_readWord, mX2_spelt, mX2_lettersAsIn, mX2_stands, mX2_readSign, mX2_readNumber, mX2_isDigit, mX2_readDigit, mX3_init, mX3_holdRow, mX3_holdPiece, mX3_isEmpty, mX3_isOtherThanRow, mX3_isOfOtherSort, mX3_hasElement, mX3_hasStretch, mX3_put, mX3_lowestBits, mX3_copyTo, mX3_whole, mX3_read, mX3_readAll, mX3_first, mX3_second, mX4_init, mX4_isKind, mX4_isWish, mX4_isAmount, mX4_isBit, mX4_isPiece, mX4_isPerson, mX4_hasRoomForPiece, mX4_hasRoomForPerson, mX4_isOfKind, mX4_take, mX4_addPiece, mX4_addPerson, mX4_worthOf, mX4_harmOf, mX4_worthOfBits, mX4_harmOfBits, mX4_bitsAt, mX4_basin, mX4_wanting, mX4_grantedTogether, mX4_priceFor, mX4_priceByCost, mX4_bestThrow, mX4_greedyFor, mX4_greatestUpTo, mX4_grant, mX4_draw, mX4_drawDay, mX4_throwIn, mX5_init, mX5_row, mX5_set, mX5_copy, mX5_element, mX5_show, mX5_holds, mX5_says, mX5_piece, mX5_person, mX5_cost, mX5_rule, mX5_tell, mX5_pieceOf, mX5_personOf, mX5_square, mX5_fault, mX5_price, mX5_change, mX5_harm, mX5_best, mX5_fails, mX5_amounts, mX5_run, mX5_rules, mX5_costs, mX5_dear, mX5_rich, mX5_judge, mX5_behind, mX5_done, mX5_cast, mX5_back, mX5_days, mX5_seed, mX5_act, mX5_trace, mX5_image, mX5_restore, mX5_status, mX5_isFrom, mX5_isOneOfTwo, mX5_isShelf, mX5_refuse, mX5_whyNoRow, mX5_whyNoTwos, mX5_tellOne, mX5_throwBy, mX5_draftDay, mX5_areAllThere, mX5_isCost, mX5_dearest, mX5_crowd, mX6_init, mX6_no, mX6_noTen, mX6_isShelf, mX6_isPiece, mX6_isOne, mX6_isFrom, mX6_row, mX6_set, mX6_copy, mX6_element, mX6_show, mX6_holds, mX6_says, mX6_wanted, mX6_intAt, mX6_worth, mX6_harms, mX6_addsPiece, mX6_addsPerson, mX6_piece, mX6_person, mX6_cost, mX6_rule, mX6_tell, mX6_piecesOf, mX6_pieceOf, mX6_personOf, mX6_wrong, mX6_stands, mX6_word, mX6_isDigit, mX6_reads, mX6_isSo, mX6_item, mX6_carries, mX6_all, mX6_square, mX6_fault, mX6_many, mX6_worthOf, mX6_harmOf, mX6_tellsBest, mX6_greedyFor, mX6_changeFor, mX6_change, mX6_priceFor, mX6_price, mX6_thrown, mX6_tellsThrow, mX6_harm, mX6_best, mX6_fails, mX6_manyAmounts, mX6_amounts, mX6_throwsIn, mX6_runs, mX6_run, mX6_barsOf, mX6_rules, mX6_costs, mX6_dearest, mX6_wanting, mX6_dear, mX6_rich, mX6_goes, mX6_judge, mX6_behind, mX6_done, mX6_cast, mX6_back, mX6_draw, mX6_day, mX6_allGranted, mX6_days, mX6_seed, mX6_body, mX6_falling, mX6_ringing, mX6_sinking, mX6_act, mX6_trace, mX6_image, mX6_restore, mX6_status, mJ6_bitCount_0f7a4, mJ7_fill_d0a16, mJ7_fill_53178]
def ab_ck1 (md : ab_D) (cp : Nat) : Bool := plainName md.1.cls && (decide (md.1.cls ≠ "java/lang/invoke/MethodHandle") && (decide (md.1.cls ≠ "java/lang/invoke/VarHandle") && (decide ((parseMethodDescriptor md.1.desc).map (fun d => d.parameters.length) = some md.2.2.2.2.2.1) && (decide (ab_wn cp = some (.code md.1 md.2.1 md.2.2.1 md.2.2.2.1)) && (decide (md.2.2.1 ≤ 81) && ((!md.2.2.2.2.2.2.1 || decide (md.1.name = "<init>")) && (match ab_G md.2.2.2.2.1 with
  | some (C, _, _, _) => decide (C = md.1.cls)
  | none => true)))))))
def ab_q2 (md : ab_D) (x : ab_I) : Bool := decide (ab_wd ab_Sl ab_M ab_G md.1.cls x.1 x.2.2.1 = x.2.2.2.filterMap ab_wn) && ((ab_wd ab_Sl ab_M ab_G md.1.cls x.1 x.2.2.1).all goodWord && ((decide (x.2.2.1.1 ≠ 15) || (match x.1, ab_M[x.2.2.1.2.1]? with
    | .invokespecial i, some my => ab_Nl.any (fun q => decide (q.1 = md.1.cls ∧ q.2.1 = i ∧ q.2.2.1 = my.1))
    | _, _ => false)) && (decide (x.2.2.1.1 ≠ 13) || decide (x.2.2.1.2.1 < 2))))
def ab_ckr (md : ab_D) (j : Nat) : Bool := ab_wr md (ab_q2 md) (128 * j) (md.2.1.data.toList.drop (128 * j)) ((md.2.2.2.2.2.2.2.drop (8 * j)).take 8)
theorem ab_ck_at {md : ab_D} {J : Nat} (h2 : ∀ j, j < J → ab_ckr md j = true) (hJ : 16 * md.2.2.2.2.2.2.2.length ≤ 128 * J) : ∀ (pc : Nat) (ins : Instr) (len : Nat) (k : ab_K) (ps : List Nat), ab_at md pc = some (ins, len, k, ps) → decode md.2.1 pc = .ok (ins, len) ∧ (∀ w ∈ ab_wd ab_Sl ab_M ab_G md.1.cls ins k, w ∈ ab_Ws) ∧ ab_nd ab_Nl ab_Sl ab_M md.1.cls ins k := by
  intro pc ins len k ps hat
  have h3 : decode md.2.1 pc = .ok (ins, len) ∧ ab_q2 md (ins, len, k, ps) = true := by
    unfold ab_at at hat
    split at hat
    · rename_i row hr
      have hl := (List.getElem?_eq_some_iff.mp hr).1
      split at hat
      · rename_i o ho
        subst hat
        have hrow : ((md.2.2.2.2.2.2.2.drop (8 * (pc / 128))).take 8)[pc / 16 - 8 * (pc / 128)]? = some row := by
          rw [List.getElem?_take, if_pos (by omega), List.getElem?_drop, show 8 * (pc / 128) + (pc / 16 - 8 * (pc / 128)) = pc / 16 by omega]
          exact hr
        have := ab_wr_ok md (ab_q2 md) _ (128 * (pc / 128)) _ rfl (h2 (pc / 128) (by omega)) _ row hrow (pc % 16) _ ho
        rw [show 128 * (pc / 128) + 16 * (pc / 16 - 8 * (pc / 128)) + pc % 16 = pc by omega] at this
        exact this
      · cases hat
    · cases hat
  unfold ab_q2 at h3
  simp only [Bool.and_eq_true, decide_eq_true_eq] at h3
  refine ⟨h3.1, ab_inW ps h3.2.1 h3.2.2.1, fun i my hi hk hmy => ?_, fun i hi hk => ?_⟩
  rotate_left
  · have h5 := h3.2.2.2.2
    rw [hk] at h5
    have h5 : k.2.1 < 2 := by simpa using h5
    intro q
    have q2 := List.getElem?_eq_none_iff.mp q
    exact absurd h5 (Nat.not_lt.mpr q2)
  have h4 := h3.2.2.2.1
  subst hi
  rw [hmy, hk] at h4
  simp only [ne_eq, not_true_eq_false, decide_false, Bool.false_or, List.any_eq_true, decide_eq_true_eq] at h4
  obtain ⟨q, hq, e1, e2, e3⟩ := h4
  exact ⟨q.2.2.2, by rw [← e1, ← e2, ← e3]; exact hq⟩
theorem ab_ck_ok {md : ab_D} {cp J : Nat} (h1 : ab_ck1 md cp = true) (h2 : ∀ j, j < J → ab_ckr md j = true) (hJ : 16 * md.2.2.2.2.2.2.2.length ≤ 128 * J) : ab_ok ab_Nl ab_Sl ab_M ab_G ab_Ws md := by
  unfold ab_ck1 at h1
  simp only [Bool.and_eq_true, decide_eq_true_eq] at h1
  obtain ⟨a1, a2, a3, a4, a5, a6, a7, a8⟩ := h1
  refine ⟨a1, ⟨a2, a3, a4⟩, List.mem_filter.mpr ⟨ab_wn_in a5, rfl⟩, a6, fun q => ?_, fun C T N ty hg => ?_, fun pc ins len k ps hat => ?_⟩
  · rw [q] at a7
    simpa using a7
  · rw [hg] at a8
    exact of_decide_eq_true a8
  · exact ab_ck_at h2 hJ pc ins len k ps hat
