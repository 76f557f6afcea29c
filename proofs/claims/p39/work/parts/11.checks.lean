/-! the tables hold what the methods need; by program (wip/tools/tables.py) -/
def ab_Nl : ab_N := [(RX5, 30, yX0_init, "FountainGivesChange"), (RX5, 37, yX2_init, "FountainGivesChange"), (RX5, 44, yX1_init, "FountainGivesChange"), (RX5, 61, yX3_init, "FountainGivesChange")]
/-- the arrays that stay: of each kind the one it is under; of each move the body that each kind has -/
def ab_Tb : List (List Int32) := [[-1, 0, 0, 1, 0, 2, 4], [10, 20, 0, 40, 51, 0, 70, 11, 0, 30, 0, 0, 0, 71, 12, 0, 0, 0, 50, 60, 0]]
def ab_Sl : List (String × String) := [("FountainGivesChange$Square", "ABOVE"), ("FountainGivesChange$Moves", "BODIES")]
def ab_Cq : ab_X := (RX3, ab_Nl, ab_Tb, ab_Sl)
def ab_Z0 : ab_Z := (3, ab_Tb)
def ab_Ws : List Cond := lw_tbl.filter goodWord
/-- the tables, in pieces: word i of piece j is number 1000 j + i -/
def ab_tb : Nat → List Cond := fun j => match j with
  | 0 => k2_sels lw_privs
  | 1 => tables_1_1
  | 2 => tables_1_2
  | 3 => tables_1_3
  | 4 => tables_1_4
  | 5 => tables_1_5
  | 6 => tables_1_6
  | _ => []
def ab_wn (i : Nat) : Option Cond := (ab_tb (i / 1000))[i % 1000]?
theorem ab_tb_in {j : Nat} {w : Cond} (h : w ∈ ab_tb j) : w ∈ lw_tbl := by
  unfold ab_tb at h
  split at h
  · exact List.mem_append_left _ h
  · exact List.mem_append_right _ (show w ∈ tables_1 from List.mem_append_left _ h)
  · exact List.mem_append_right _ (show w ∈ tables_1 from List.mem_append_right _ (List.mem_append_left _ h))
  · exact List.mem_append_right _ (show w ∈ tables_1 from List.mem_append_right _ (List.mem_append_right _ (List.mem_append_left _ h)))
  · exact List.mem_append_right _ (show w ∈ tables_1 from List.mem_append_right _ (List.mem_append_right _ (List.mem_append_right _ (List.mem_append_left _ h))))
  · exact List.mem_append_right _ (show w ∈ tables_1 from List.mem_append_right _ (List.mem_append_right _ (List.mem_append_right _ (List.mem_append_right _ (List.mem_append_left _ h)))))
  · exact List.mem_append_right _ (show w ∈ tables_1 from List.mem_append_right _ (List.mem_append_right _ (List.mem_append_right _ (List.mem_append_right _ (List.mem_append_right _ (h))))))
  · cases h
theorem ab_wn_in {i : Nat} {w : Cond} (h : ab_wn i = some w) : w ∈ lw_tbl := ab_tb_in (List.mem_of_getElem? h)
theorem ab_Ws_good : GoodIn ab_Ws ab_Ws := fun w h => ⟨h, good_of_word (List.mem_filter.mp h).2⟩
theorem ab_Ws_tbl : GoodIn lw_tbl ab_Ws := fun w h => ⟨(List.mem_filter.mp h).1, good_of_word (List.mem_filter.mp h).2⟩
theorem ab_inW {ws : List Cond} (ps : List Nat) (h : ws = ps.filterMap ab_wn) (hg : ws.all goodWord = true) : ∀ w ∈ ws, w ∈ ab_Ws := by
  intro w hw
  refine List.mem_filter.mpr ⟨?_, List.all_eq_true.mp hg w hw⟩
  rw [h] at hw
  obtain ⟨i, -, hi⟩ := List.mem_filterMap.mp hw
  exact ab_wn_in hi
theorem ab_Nl_in : ∀ q ∈ ab_Nl, Cond.methodLinkNest q.1 q.2.1 q.2.2.1 q.2.2.2 ∈ lw_tbl := List.forall_mem_cons.mpr ⟨ab_wn_in (i := 1104) (by decide +kernel), List.forall_mem_cons.mpr ⟨ab_wn_in (i := 1114) (by decide +kernel), List.forall_mem_cons.mpr ⟨ab_wn_in (i := 1143) (by decide +kernel), List.forall_mem_cons.mpr ⟨ab_wn_in (i := 1165) (by decide +kernel), fun _ h => absurd h List.not_mem_nil⟩⟩⟩⟩
def ab_G : Nat → Option ab_T := fun ci => match ci with
  | 0 => some (RX0, TX0, 1, tyX0)
  | 1 => some (RX1, TX1, 5, tyX1)
  | 2 => some (RX2, TX2, 6, tyX2)
  | 3 => some (RX3, TX3, 3, tyX3)
  | 4 => some (RX4, TX4, 15, tyX4)
  | 5 => some (RX5, TX5, 10, tyX5)
  | 6 => some (RX6, TX6, 49, tyX6)
  | _ => none
theorem ab_lX0 : ∀ w ∈ u_ws RX0 TX0 1, w ∈ ab_Ws := ab_inW [1109] (by decide +kernel) (by decide +kernel)
theorem ab_dX0 : ∀ k, k < 1 → (TX0 k).1 = RX0 := by decide +kernel
theorem ab_lX1 : ∀ w ∈ u_ws RX1 TX1 5, w ∈ ab_Ws := ab_inW [1153, 1155, 1157, 1159, 1161] (by decide +kernel) (by decide +kernel)
theorem ab_dX1 : ∀ k, k < 5 → (TX1 k).1 = RX1 := by decide +kernel
theorem ab_lX2 : ∀ w ∈ u_ws RX2 TX2 6, w ∈ ab_Ws := ab_inW [1128, 1130, 1132, 1134, 1136, 1138] (by decide +kernel) (by decide +kernel)
theorem ab_dX2 : ∀ k, k < 6 → (TX2 k).1 = RX2 := by decide +kernel
theorem ab_lX3 : ∀ w ∈ u_ws RX3 TX3 3, w ∈ ab_Ws := ab_inW [1174, 1176, 1178] (by decide +kernel) (by decide +kernel)
theorem ab_dX3 : ∀ k, k < 3 → (TX3 k).1 = RX3 := by decide +kernel
theorem ab_lX4 : ∀ w ∈ u_ws RX4 TX4 15, w ∈ ab_Ws := ab_inW [1068, 1070, 1072, 1074, 1076, 1078, 1080, 1082, 1084, 1086, 1088, 1090, 1092, 1094, 1096] (by decide +kernel) (by decide +kernel)
theorem ab_dX4 : ∀ k, k < 15 → (TX4 k).1 = RX4 := by decide +kernel
theorem ab_lX5 : ∀ w ∈ u_ws RX5 TX5 10, w ∈ ab_Ws := ab_inW [1192, 1194, 1196, 1198, 1200, 1202, 1204, 1206, 1208, 1210] (by decide +kernel) (by decide +kernel)
theorem ab_dX5 : ∀ k, k < 10 → (TX5 k).1 = RX5 := by decide +kernel
theorem ab_lX6 : ∀ w ∈ u_ws RX6 TX6 49, w ∈ ab_Ws := ab_inW [4146, 4148, 4150, 4152, 4154, 4156, 4158, 4160, 4162, 4164, 4166, 4168, 4170, 4172, 4174, 4176, 4178, 4180, 4182, 4184, 4186, 4188, 4190, 4192, 4194, 4196, 4198, 4200, 4202, 4204, 4206, 4208, 4210, 4212, 4214, 4216, 4218, 4220, 4222, 4224, 4226, 4228, 4230, 4232, 4234, 4236, 4238, 5000, 5002] (by decide +kernel) (by decide +kernel)
theorem ab_dX6 : ∀ k, k < 49 → (TX6 k).1 = RX6 := by decide +kernel
theorem ab_cgW : ab_cg vwCl ab_Ws ab_G := by
  intro ci C T N ty h
  unfold ab_G at h
  split at h
  · cases h; exact ⟨rfl, ab_lX0, tyX0_ok, nmX0, ab_dX0⟩
  · cases h; exact ⟨rfl, ab_lX1, tyX1_ok, nmX1, ab_dX1⟩
  · cases h; exact ⟨rfl, ab_lX2, tyX2_ok, nmX2, ab_dX2⟩
  · cases h; exact ⟨rfl, ab_lX3, tyX3_ok, nmX3, ab_dX3⟩
  · cases h; exact ⟨rfl, ab_lX4, tyX4_ok, nmX4, ab_dX4⟩
  · cases h; exact ⟨rfl, ab_lX5, tyX5_ok, nmX5, ab_dX5⟩
  · cases h; exact ⟨rfl, ab_lX6, tyX6_ok, nmX6, ab_dX6⟩
  · cases h
def ab_M : List ab_D := [mX0_init, mX0_bitsBy, mX0_weigh, mX0_putIn, mX0_fewestFor, mX0_amountsOf, mX1_init, mX1_bodyAt, mX1_answer, mX1_begin, mX1_bodyOf, mX1_kindWithBody, mX1_answerFrom, mX2_init, mX2_read, mX2_readItem, mX2_readPiece, mX2_readPerson, mX2_readCost, mX2_readHas, mX2_readBack, mX2_readWord, mX2_spelt, mX2_lettersAsIn, mX2_stands, mX2_readSign, mX2_readNumber, mX2_isDigit, mX2_readDigit, mX3_init, mX3_holdRow, mX3_holdPiece, mX3_isEmpty, mX3_isOtherThanRow, mX3_isOfOtherSort, mX3_hasElement, mX3_hasStretch, mX3_put, mX3_lowestBits, mX3_copyTo, mX3_whole, mX3_read, mX3_readAll, mX3_first, mX3_second, mX4_init, mX4_isKind, mX4_isWish, mX4_isAmount, mX4_isBit, mX4_isPiece, mX4_isPerson, mX4_hasRoomForPiece, mX4_hasRoomForPerson, mX4_isOfKind, mX4_take, mX4_addPiece, mX4_addPerson, mX4_worthOf, mX4_harmOf, mX4_worthOfBits, mX4_harmOfBits, mX4_bitsAt, mX4_basin, mX4_wanting, mX4_grantedTogether, mX4_priceFor, mX4_priceByCost, mX4_bestThrow, mX4_greedyFor, mX4_greatestUpTo, mX4_grant, mX4_draw, mX4_drawDay, mX4_throwIn, mX5_init, mX5_row, mX5_set, mX5_copy, mX5_element, mX5_show, mX5_holds, mX5_says, mX5_piece, mX5_person, mX5_cost, mX5_rule, mX5_tell, mX5_pieceOf, mX5_personOf, mX5_square, mX5_fault, mX5_price, mX5_change, mX5_harm, mX5_best, mX5_fails, mX5_amounts, mX5_run, mX5_rules, mX5_costs, mX5_dear, mX5_rich, mX5_judge, mX5_behind, mX5_done, mX5_cast, mX5_back, mX5_days, mX5_seed, mX5_act, mX5_trace, mX5_image, mX5_restore, mX5_status, mX5_isFrom, mX5_isOneOfTwo, mX5_isShelf, mX5_refuse, mX5_whyNoRow, mX5_whyNoTwos, mX5_tellOne, mX5_throwBy, mX5_draftDay, mX5_areAllThere, mX5_isCost, mX5_dearest, mX5_crowd, mX6_init, mX6_no, mX6_noTen, mX6_isShelf, mX6_isPiece, mX6_isOne, mX6_isFrom, mX6_row, mX6_set, mX6_copy, mX6_element, mX6_show, mX6_holds, mX6_says, mX6_wanted, mX6_intAt, mX6_worth, mX6_harms, mX6_addsPiece, mX6_addsPerson, mX6_piece, mX6_person, mX6_cost, mX6_rule, mX6_tell, mX6_piecesOf, mX6_pieceOf, mX6_personOf, mX6_wrong, mX6_stands, mX6_word, mX6_isDigit, mX6_reads, mX6_isSo, mX6_item, mX6_carries, mX6_all, mX6_square, mX6_fault, mX6_many, mX6_worthOf, mX6_harmOf, mX6_tellsBest, mX6_greedyFor, mX6_changeFor, mX6_change, mX6_priceFor, mX6_price, mX6_thrown, mX6_tellsThrow, mX6_harm, mX6_best, mX6_fails, mX6_manyAmounts, mX6_amounts, mX6_throwsIn, mX6_runs, mX6_run, mX6_barsOf, mX6_rules, mX6_costs, mX6_dearest, mX6_wanting, mX6_dear, mX6_rich, mX6_goes, mX6_judge, mX6_behind, mX6_done, mX6_cast, mX6_back, mX6_draw, mX6_day, mX6_allGranted, mX6_days, mX6_seed, mX6_body, mX6_falling, mX6_ringing, mX6_sinking, mX6_act, mX6_trace, mX6_image, mX6_restore, mX6_status, mJ6_bitCount_0f7a4, mJ7_fill_d0a16, mJ7_fill_53178]
def ab_cnm (t : Nat) : String := match t with
  | 0 => "FountainGivesChange$Change"
  | 1 => "FountainGivesChange$Moves"
  | 2 => "FountainGivesChange$Reader"
  | 3 => "FountainGivesChange$Shelf"
  | 4 => "FountainGivesChange$Square"
  | 5 => "FountainGivesChange"
  | 6 => "FountainGivesChangeModel"
  | 20 => "java/lang/Integer"
  | 21 => "FountainGivesChangeLaw"
  | 22 => "java/util/Arrays"
  | _ => ""
def ab_dx0 : List (Nat × Instr × ab_K × List Nat) := [(0, .invokespecial 5, (6, 99999, 0), [1107, 1022, 1023]), (0, .newarray .int, (0, 99999, 0), [1099]), (0, .putfield 13, (1, 0, 0), [1108]), (0, .invokevirtual 17, (3, 69, 1), [3090, 3091, 3092, 1002]), (0, .invokevirtual 21, (3, 63, 0), [3107, 3095, 3096, 1002]), (0, .invokevirtual 25, (3, 2, 2), [3108, 3109, 3110, 1003]), (0, .invokevirtual 29, (3, 4, 1), [3123, 3124, 3125, 1003]), (0, .getfield 13, (1, 0, 0), [1108]), (0, .invokestatic 32, (4, 215, 2), [3112, 3113, 1008]), (0, .getfield 38, (1, 4, 9), [1053]), (0, .invokestatic 42, (4, 49, 2), [3115, 3105, 1002]), (0, .ldc 46, (10, 1048576, 0), [3116]), (0, .invokevirtual 47, (3, 59, 1), [3117, 2083, 2084, 1002]), (0, .invokevirtual 50, (3, 58, 1), [3118, 2087, 2088, 1002]), (0, .invokevirtual 53, (3, 3, 2), [3119, 3121, 18, 1003]), (0, .invokestatic 57, (4, 48, 1), [3127, 3084, 1002]), (1, .invokespecial 3, (6, 99999, 0), [1146, 1022, 1023]), (1, .newarray .int, (0, 99999, 0), [1099]), (1, .putfield 11, (1, 1, 0), [1147]), (1, .putfield 15, (1, 1, 1), [1148]), (1, .putfield 19, (1, 1, 2), [1150]), (1, .putfield 22, (1, 1, 3), [1151]), (1, .putfield 25, (1, 1, 4), [1152]), (1, .getfield 15, (1, 1, 1), [1148]), (1, .getfield 11, (1, 1, 0), [1147]), (1, .invokevirtual 28, (3, 50, 1), [4053, 2057, 2058, 1002]), (1, .getfield 34, (1, 4, 0), [1031]), (1, .getfield 36, (1, 4, 1), [1034]), (1, .getfield 22, (1, 1, 3), [1151]), (1, .invokestatic 38, (4, 12, 5), [4054, 4055, 1005]), (1, .getstatic 42, (13, 1, 0), [4064]), (1, .invokestatic 45, (4, 10, 2), [4061, 4062, 1005])]
def ab_dx1 : List (Nat × Instr × ab_K × List Nat) := [(1, .getstatic 49, (13, 0, 0), [4066]), (1, .invokestatic 52, (4, 46, 1), [4057, 2073, 1002]), (1, .invokestatic 55, (4, 11, 2), [4058, 4059, 1005]), (1, .invokevirtual 58, (3, 9, 1), [4067, 4069, 27, 1005]), (1, .getfield 19, (1, 1, 2), [1150]), (1, .getfield 25, (1, 1, 4), [1152]), (2, .invokespecial 3, (6, 99999, 0), [1117, 1022, 1023]), (2, .new 9, (2, 4, 0), [1118, 1025, 1002]), (2, .invokespecial 11, (5, 45, 0), [1119, 1027, 1002]), (2, .putfield 12, (1, 2, 0), [1120]), (2, .putfield 18, (1, 2, 1), [1122]), (2, .newarray .int, (0, 99999, 0), [1099]), (2, .putfield 24, (1, 2, 2), [1124]), (2, .putfield 28, (1, 2, 3), [1125]), (2, .putfield 31, (1, 2, 4), [1126]), (2, .putfield 34, (1, 2, 5), [1127]), (2, .getfield 12, (1, 2, 0), [1120]), (2, .invokevirtual 37, (3, 55, 1), [2162, 2163, 2164, 1002]), (2, .getfield 24, (1, 2, 2), [1124]), (2, .invokevirtual 41, (3, 42, 1), [2167, 2168, 2169, 1006]), (2, .getfield 28, (1, 2, 3), [1125]), (2, .invokevirtual 45, (3, 15, 0), [2179, 2181, 4, 1004]), (2, .getfield 18, (1, 2, 1), [1122]), (2, .getfield 31, (1, 2, 4), [1126]), (2, .invokevirtual 48, (3, 25, 1), [3023, 3025, 10, 1004]), (2, .invokevirtual 52, (3, 21, 0), [2183, 2185, 5, 1004]), (2, .invokevirtual 56, (3, 16, 1), [3014, 3016, 8, 1004]), (2, .invokevirtual 60, (3, 17, 1), [3036, 3038, 13, 1004]), (2, .invokevirtual 63, (3, 18, 0), [3042, 3044, 14, 1004]), (2, .invokevirtual 66, (3, 19, 0), [3046, 3048, 15, 1004]), (2, .invokevirtual 69, (3, 20, 0), [3050, 3052, 16, 1004]), (2, .putfield 72, (1, 4, 11), [1060])]
def ab_dx2 : List (Nat × Instr × ab_K × List Nat) := [(2, .invokevirtual 75, (3, 52, 0), [3018, 2098, 2099, 1002]), (2, .invokevirtual 79, (3, 26, 2), [3019, 3021, 9, 1004]), (2, .invokevirtual 83, (3, 56, 3), [3035, 2102, 2103, 1002]), (2, .invokevirtual 87, (3, 53, 0), [3040, 2114, 2115, 1002]), (2, .invokevirtual 90, (3, 57, 3), [3041, 2118, 2119, 1002]), (2, .getfield 93, (1, 4, 8), [1050]), (2, .getfield 96, (1, 4, 9), [1054]), (2, .getfield 99, (1, 4, 3), [1039]), (2, .getfield 34, (1, 2, 5), [1127]), (2, .getfield 102, (1, 4, 10), [1057]), (2, .invokestatic 105, (4, 22, 1), [2187, 2188, 1004]), (2, .invokevirtual 109, (3, 23, 1), [2197, 2199, 6, 1004]), (2, .invokevirtual 113, (17, 99999, 0), [2201, 2202, 2203, 1011, 2204, 6103, 2205, 2206, 2207, 1011, 2208, 2209, 6104]), (2, .invokestatic 118, (7, 99999, 0), [3013, 2091, 1010, 2092]), (2, .ldc 123, (16, 0, 0), []), (2, .ldc 125, (16, 1, 0), []), (2, .ldc 127, (16, 2, 0), []), (2, .ldc 128, (16, 3, 0), []), (2, .ldc 130, (16, 4, 0), []), (2, .ldc 132, (16, 5, 0), []), (2, .ldc 134, (16, 6, 0), []), (2, .invokevirtual 136, (18, 99999, 0), [2211, 2212, 2213, 1011, 2214, 6103, 2215, 2216, 2217, 1011, 2218, 2209, 6104, 2219, 2220, 1012, 2221, 2222, 2223, 1011, 2224, 2225, 2227, 2228, 1013, 2229]), (2, .invokevirtual 140, (3, 24, 2), [3009, 3011, 7, 1004]), (2, .invokevirtual 144, (3, 27, 1), [3027, 3029, 11, 1004]), (2, .invokevirtual 148, (3, 28, 0), [3031, 3033, 12, 1004]), (3, .invokespecial 3, (6, 99999, 0), [1168, 1022, 1023]), (3, .newarray .long, (0, 99999, 0), [1181]), (3, .putfield 11, (1, 3, 0), [1169]), (3, .putfield 15, (1, 3, 1), [1170]), (3, .putfield 19, (1, 3, 2), [1172]), (3, .getfield 11, (1, 3, 0), [1169]), (3, .invokestatic 22, (4, 214, 2), [1231, 1232, 1008])]
def ab_dx3 : List (Nat × Instr × ab_K × List Nat) := [(3, .getfield 15, (1, 3, 1), [1170]), (3, .invokevirtual 28, (3, 32, 0), [2031, 2007, 2008, 1006]), (3, .getfield 19, (1, 3, 2), [1172]), (3, .invokevirtual 32, (3, 35, 1), [2018, 2011, 2012, 1006]), (3, .invokevirtual 36, (3, 38, 1), [2019, 2021, 2, 1006]), (3, .invokevirtual 40, (3, 36, 2), [2040, 2033, 2034, 1006]), (3, .invokestatic 44, (9, 99999, 0), [2041, 2043, 2042, 1009]), (3, .invokevirtual 50, (3, 40, 1), [2178, 2049, 2050, 1006]), (3, .invokestatic 54, (8, 99999, 0), [2171, 2172, 1010, 2173]), (3, .invokevirtual 60, (3, 41, 1), [2174, 2175, 2176, 1006]), (4, .invokespecial 3, (6, 99999, 0), [1029, 1022, 1023]), (4, .newarray .int, (0, 99999, 0), [1099]), (4, .putfield 11, (1, 4, 0), [1030]), (4, .putfield 15, (1, 4, 1), [1033]), (4, .putfield 18, (1, 4, 2), [1036]), (4, .putfield 21, (1, 4, 3), [1038]), (4, .putfield 24, (1, 4, 4), [1041]), (4, .putfield 27, (1, 4, 5), [1043]), (4, .putfield 30, (1, 4, 6), [1045]), (4, .putfield 33, (1, 4, 7), [1047]), (4, .putfield 36, (1, 4, 8), [1049]), (4, .putfield 39, (1, 4, 9), [1052]), (4, .putfield 43, (1, 4, 10), [1056]), (4, .putfield 46, (1, 4, 11), [1059]), (4, .putfield 49, (1, 4, 12), [1062]), (4, .putfield 52, (1, 4, 13), [1064]), (4, .putfield 55, (1, 4, 14), [1066]), (4, .getfield 36, (1, 4, 8), [1049]), (4, .getfield 39, (1, 4, 9), [1052]), (4, .getfield 43, (1, 4, 10), [1056]), (4, .getfield 11, (1, 4, 0), [1030]), (4, .invokestatic 58, (4, 46, 1), [2079, 2073, 1002])]
def ab_dx4 : List (Nat × Instr × ab_K × List Nat) := [(4, .getstatic 62, (13, 0, 0), [2080]), (4, .invokestatic 65, (9, 99999, 0), [2166, 2043, 2042, 1009]), (4, .getfield 15, (1, 4, 1), [1033]), (4, .getfield 18, (1, 4, 2), [1036]), (4, .getfield 21, (1, 4, 3), [1038]), (4, .getfield 24, (1, 4, 4), [1041]), (4, .getfield 27, (1, 4, 5), [1043]), (4, .getfield 30, (1, 4, 6), [1045]), (4, .getfield 33, (1, 4, 7), [1047]), (4, .getfield 46, (1, 4, 11), [1059]), (4, .getfield 49, (1, 4, 12), [1062]), (4, .getfield 52, (1, 4, 13), [1064]), (4, .getfield 55, (1, 4, 14), [1066]), (4, .invokevirtual 71, (3, 52, 0), [2105, 2098, 2099, 1002]), (4, .invokevirtual 75, (3, 53, 0), [2121, 2114, 2115, 1002]), (4, .invokestatic 78, (7, 99999, 0), [2090, 2091, 1010, 2092]), (4, .invokestatic 84, (4, 49, 2), [3104, 3105, 1002]), (4, .invokevirtual 88, (3, 58, 1), [3103, 2087, 2088, 1002]), (4, .invokevirtual 92, (3, 59, 1), [3140, 2083, 2084, 1002]), (4, .invokevirtual 95, (3, 62, 1), [3098, 2151, 2152, 1002]), (4, .invokevirtual 98, (3, 67, 3), [3068, 3069, 3070, 1002]), (4, .invokevirtual 102, (3, 64, 1), [3072, 3073, 3074, 1002]), (4, .invokevirtual 105, (3, 66, 2), [3149, 3065, 3066, 1002]), (4, .invokevirtual 108, (3, 63, 0), [3094, 3095, 3096, 1002]), (4, .invokevirtual 112, (3, 70, 2), [3099, 3101, 17, 1002]), (4, .ldc 115, (10, 1103515245, 0), [4027]), (4, .invokevirtual 116, (3, 72, 1), [4023, 4024, 4025, 1002]), (4, .invokevirtual 119, (3, 51, 1), [4028, 2135, 2136, 1002]), (4, .invokestatic 122, (8, 99999, 0), [4029, 2172, 1010, 2173]), (4, .invokevirtual 125, (3, 68, 1), [4030, 3146, 3147, 1002]), (4, .invokevirtual 128, (3, 71, 3), [4031, 3236, 3237, 1002]), (4, .invokevirtual 132, (3, 74, 2), [4032, 4034, 26, 1002])]
def ab_dx5 : List (Nat × Instr × ab_K × List Nat) := [(4, .invokevirtual 136, (3, 50, 1), [4036, 2057, 2058, 1002]), (5, .invokespecial 1, (6, 99999, 0), [1021, 1022, 1023]), (5, .new 7, (2, 4, 0), [1024, 1025, 1002]), (5, .invokespecial 9, (5, 45, 0), [1026, 1027, 1002]), (5, .putfield 10, (1, 5, 0), [1182]), (5, .putfield 16, (1, 5, 1), [1183]), (5, .putfield 19, (1, 5, 2), [1184]), (5, .anewarray 22, (12, 3, 0), [1100]), (5, .putfield 24, (1, 5, 3), [1185]), (5, .new 28, (2, 0, 0), [1102, 1103, 1003]), (5, .invokespecial 30, (15, 0, 0), [1105, 1003]), (5, .putfield 31, (1, 5, 4), [1186]), (5, .new 35, (2, 2, 0), [1112, 1113, 1004]), (5, .invokespecial 37, (15, 13, 0), [1115, 1004]), (5, .putfield 38, (1, 5, 5), [1187]), (5, .new 42, (2, 1, 0), [1141, 1142, 1005]), (5, .invokespecial 44, (15, 6, 0), [1144, 1005]), (5, .putfield 45, (1, 5, 6), [1188]), (5, .newarray .int, (0, 99999, 0), [1099]), (5, .putfield 49, (1, 5, 7), [1189]), (5, .putfield 53, (1, 5, 8), [1190]), (5, .putfield 57, (1, 5, 9), [1191]), (5, .getfield 24, (1, 5, 3), [1185]), (5, .new 22, (2, 3, 0), [1100, 1164, 1006]), (5, .invokespecial 61, (15, 29, 0), [1166, 1006]), (5, .invokestatic 62, (4, 117, 1), [1217, 1218, 1001]), (5, .invokevirtual 66, (3, 118, 1), [1220, 1222, 0, 1001]), (5, .invokevirtual 70, (3, 30, 2), [1227, 1228, 1229, 1006]), (5, .invokevirtual 74, (3, 119, 1), [1238, 2000, 1, 1001]), (5, .invokevirtual 77, (3, 35, 1), [2010, 2011, 2012, 1006]), (5, .invokevirtual 80, (3, 37, 2), [2014, 2015, 2016, 1006]), (5, .invokevirtual 84, (3, 33, 0), [2002, 2003, 2004, 1006])]
def ab_dx6 : List (Nat × Instr × ab_K × List Nat) := [(5, .invokevirtual 88, (3, 34, 1), [2027, 2028, 2029, 1006]), (5, .invokevirtual 92, (3, 32, 0), [2006, 2007, 2008, 1006]), (5, .invokevirtual 95, (3, 36, 2), [2032, 2033, 2034, 1006]), (5, .invokevirtual 99, (3, 39, 4), [2036, 2037, 2038, 1006]), (5, .invokevirtual 103, (3, 40, 1), [2048, 2049, 2050, 1006]), (5, .getfield 10, (1, 5, 0), [1182]), (5, .invokevirtual 107, (3, 50, 1), [2056, 2057, 2058, 1002]), (5, .invokevirtual 110, (3, 31, 1), [2060, 2061, 2062, 1006]), (5, .getfield 114, (1, 3, 1), [1171]), (5, .invokestatic 117, (4, 46, 1), [2072, 2073, 1002]), (5, .invokevirtual 120, (3, 54, 2), [2075, 2076, 2077, 1002]), (5, .getfield 123, (1, 4, 2), [1037]), (5, .invokevirtual 126, (3, 59, 1), [2082, 2083, 2084, 1002]), (5, .invokevirtual 129, (3, 58, 1), [2086, 2087, 2088, 1002]), (5, .getfield 132, (1, 4, 1), [1035]), (5, .invokestatic 135, (4, 115, 3), [1224, 1225, 1001]), (5, .invokevirtual 139, (3, 52, 0), [2097, 2098, 2099, 1002]), (5, .invokevirtual 142, (3, 56, 3), [2101, 2102, 2103, 1002]), (5, .invokestatic 146, (4, 47, 1), [2110, 2111, 1002]), (5, .invokevirtual 149, (3, 53, 0), [2113, 2114, 2115, 1002]), (5, .invokevirtual 152, (3, 57, 3), [2117, 2118, 2119, 1002]), (5, .getfield 155, (1, 4, 8), [1051]), (5, .getfield 158, (1, 4, 11), [1061]), (5, .putfield 158, (1, 4, 11), [1061]), (5, .invokevirtual 161, (3, 51, 1), [2134, 2135, 2136, 1002]), (5, .getfield 164, (1, 4, 4), [1042]), (5, .invokevirtual 167, (3, 121, 4), [2138, 2140, 3, 1001]), (5, .getfield 171, (1, 4, 5), [1044]), (5, .getfield 174, (1, 4, 6), [1046]), (5, .getfield 177, (1, 4, 0), [1032]), (5, .getfield 180, (1, 4, 3), [1040]), (5, .getfield 183, (1, 4, 7), [1048])]
def ab_dx7 : List (Nat × Instr × ab_K × List Nat) := [(5, .invokevirtual 186, (3, 62, 1), [2150, 2151, 2152, 1002]), (5, .getfield 38, (1, 5, 5), [1187]), (5, .invokevirtual 189, (3, 14, 2), [2158, 2159, 2160, 1004]), (5, .getfield 193, (1, 2, 1), [1123]), (5, .getfield 196, (1, 2, 0), [1121]), (5, .invokevirtual 199, (3, 55, 1), [3054, 2163, 2164, 1002]), (5, .getfield 57, (1, 5, 9), [1191]), (5, .invokevirtual 203, (3, 66, 2), [3064, 3065, 3066, 1002]), (5, .invokestatic 207, (4, 116, 1), [3080, 3081, 1001]), (5, .invokestatic 210, (4, 48, 1), [3083, 3084, 1002]), (5, .getfield 31, (1, 5, 4), [1186]), (5, .invokevirtual 213, (3, 1, 3), [3086, 3087, 3088, 1003]), (5, .invokevirtual 217, (3, 122, 3), [3132, 3134, 19, 1001]), (5, .invokevirtual 220, (3, 61, 1), [3136, 3137, 3138, 1002]), (5, .invokevirtual 223, (3, 68, 1), [3145, 3146, 3147, 1002]), (5, .invokevirtual 226, (3, 63, 0), [3154, 3095, 3096, 1002]), (5, .invokevirtual 230, (3, 2, 2), [3155, 3109, 3110, 1003]), (5, .invokevirtual 234, (3, 4, 1), [3156, 3124, 3125, 1003]), (5, .invokevirtual 237, (3, 69, 1), [3157, 3091, 3092, 1002]), (5, .invokestatic 240, (4, 213, 1), [3158, 3159, 1015]), (5, .invokevirtual 245, (3, 5, 2), [3168, 3169, 3170, 1003]), (5, .getfield 249, (1, 4, 10), [1058]), (5, .invokevirtual 252, (3, 120, 4), [3180, 3182, 20, 1001]), (5, .invokevirtual 256, (3, 43, 1), [3184, 3185, 3186, 1006]), (5, .invokevirtual 259, (3, 44, 1), [3188, 3189, 3190, 1006]), (5, .invokevirtual 262, (3, 124, 2), [3196, 3198, 21, 1001]), (5, .invokevirtual 266, (3, 125, 4), [3200, 3202, 22, 1001]), (5, .invokevirtual 270, (3, 126, 0), [3209, 3211, 23, 1001]), (5, .invokevirtual 273, (3, 127, 0), [3214, 3216, 24, 1001]), (5, .invokevirtual 276, (3, 60, 1), [3223, 3224, 3225, 1002]), (5, .invokevirtual 279, (3, 123, 2), [3231, 3233, 25, 1001]), (5, .getfield 16, (1, 5, 1), [1183])]
def ab_dx8 : List (Nat × Instr × ab_K × List Nat) := [(5, .getfield 283, (1, 4, 12), [1063]), (5, .invokevirtual 286, (3, 71, 3), [3235, 3236, 3237, 1002]), (5, .invokevirtual 290, (3, 73, 0), [4019, 4020, 4021, 1002]), (5, .invokevirtual 293, (3, 65, 0), [4037, 4038, 4039, 1002]), (5, .getfield 296, (1, 4, 14), [1067]), (5, .putfield 296, (1, 4, 14), [1067]), (5, .getfield 45, (1, 5, 6), [1188]), (5, .invokevirtual 299, (3, 8, 4), [4049, 4050, 4051, 1005]), (5, .invokevirtual 303, (3, 7, 1), [4075, 4076, 4077, 1005]), (5, .getfield 19, (1, 5, 2), [1184]), (5, .getfield 306, (1, 4, 9), [1055]), (5, .getfield 53, (1, 5, 8), [1190]), (5, .getfield 309, (1, 4, 13), [1065]), (5, .getfield 312, (1, 1, 1), [1149]), (5, .getfield 49, (1, 5, 7), [1189]), (5, .getfield 315, (1, 3, 2), [1173]), (5, .invokevirtual 318, (3, 67, 3), [3204, 3069, 3070, 1002]), (5, .invokestatic 321, (4, 49, 2), [3213, 3105, 1002]), (5, .invokevirtual 324, (3, 64, 1), [3218, 3073, 3074, 1002]), (6, .invokespecial 1, (6, 99999, 0), [4096, 1022, 1023]), (6, .putfield 7, (1, 6, 5), [4102]), (6, .putfield 13, (1, 6, 6), [4103]), (6, .newarray .int, (0, 99999, 0), [1099]), (6, .putfield 16, (1, 6, 7), [4104]), (6, .putfield 20, (1, 6, 8), [4105]), (6, .putfield 23, (1, 6, 9), [4106]), (6, .putfield 26, (1, 6, 10), [4107]), (6, .putfield 29, (1, 6, 11), [4108]), (6, .putfield 32, (1, 6, 12), [4109]), (6, .putfield 35, (1, 6, 13), [4110]), (6, .putfield 38, (1, 6, 14), [4111]), (6, .putfield 41, (1, 6, 15), [4112])]
def ab_dx9 : List (Nat × Instr × ab_K × List Nat) := [(6, .putfield 44, (1, 6, 16), [4113]), (6, .putfield 47, (1, 6, 17), [4114]), (6, .putfield 50, (1, 6, 18), [4115]), (6, .putfield 53, (1, 6, 19), [4116]), (6, .putfield 56, (1, 6, 20), [4117]), (6, .newarray .long, (0, 99999, 0), [1181]), (6, .putfield 59, (1, 6, 21), [4118]), (6, .putfield 63, (1, 6, 22), [4119]), (6, .putfield 66, (1, 6, 23), [4120]), (6, .putfield 69, (1, 6, 24), [4121]), (6, .putfield 72, (1, 6, 25), [4122]), (6, .putfield 75, (1, 6, 26), [4123]), (6, .putfield 78, (1, 6, 32), [4129]), (6, .putfield 81, (1, 6, 33), [4130]), (6, .putfield 84, (1, 6, 34), [4131]), (6, .putfield 87, (1, 6, 35), [4132]), (6, .putfield 90, (1, 6, 38), [4135]), (6, .putfield 93, (1, 6, 39), [4136]), (6, .putfield 96, (1, 6, 40), [4137]), (6, .putfield 99, (1, 6, 41), [4138]), (6, .putfield 102, (1, 6, 46), [4143]), (6, .getfield 16, (1, 6, 7), [4104]), (6, .getfield 105, (1, 6, 0), [4097]), (6, .getfield 108, (1, 6, 1), [4098]), (6, .invokevirtual 111, (3, 131, 1), [5009, 5011, 28, 1007]), (6, .invokevirtual 115, (3, 129, 1), [5013, 5015, 29, 1007]), (6, .getfield 47, (1, 6, 17), [4114]), (6, .getfield 50, (1, 6, 18), [4115]), (6, .getfield 53, (1, 6, 19), [4116]), (6, .getfield 59, (1, 6, 21), [4118]), (6, .getfield 63, (1, 6, 22), [4119]), (6, .invokevirtual 119, (3, 132, 1), [5033, 5035, 30, 1007])]
def ab_dx10 : List (Nat × Instr × ab_K × List Nat) := [(6, .getfield 56, (1, 6, 20), [4117]), (6, .getfield 20, (1, 6, 8), [4105]), (6, .getfield 26, (1, 6, 10), [4107]), (6, .invokevirtual 122, (3, 145, 1), [5045, 5047, 31, 1007]), (6, .invokevirtual 125, (3, 144, 1), [5049, 5051, 32, 1007]), (6, .getfield 23, (1, 6, 9), [4106]), (6, .getfield 29, (1, 6, 11), [4108]), (6, .putfield 105, (1, 6, 0), [4097]), (6, .getfield 32, (1, 6, 12), [4109]), (6, .getfield 35, (1, 6, 13), [4110]), (6, .getfield 38, (1, 6, 14), [4111]), (6, .getfield 41, (1, 6, 15), [4112]), (6, .putfield 108, (1, 6, 1), [4098]), (6, .invokevirtual 128, (3, 134, 3), [5057, 5059, 33, 1007]), (6, .invokevirtual 132, (3, 146, 3), [5061, 5063, 34, 1007]), (6, .invokevirtual 136, (3, 147, 3), [5069, 5071, 35, 1007]), (6, .getfield 44, (1, 6, 16), [4113]), (6, .getfield 139, (1, 6, 2), [4099]), (6, .putfield 139, (1, 6, 2), [4099]), (6, .invokevirtual 142, (3, 133, 1), [5085, 5087, 36, 1007]), (6, .invokevirtual 145, (3, 153, 1), [5097, 5099, 37, 1007]), (6, .putfield 148, (1, 6, 31), [4128]), (6, .getfield 66, (1, 6, 23), [4120]), (6, .getfield 151, (1, 6, 28), [4125]), (6, .getfield 154, (1, 6, 29), [4126]), (6, .getfield 157, (1, 6, 27), [4124]), (6, .putfield 151, (1, 6, 28), [4125]), (6, .putfield 160, (1, 6, 30), [4127]), (6, .invokevirtual 163, (3, 159, 0), [5137, 5139, 46, 1007]), (6, .invokevirtual 167, (3, 156, 1), [5125, 5127, 43, 1007]), (6, .getfield 160, (1, 6, 30), [4127]), (6, .getfield 72, (1, 6, 25), [4122])]
def ab_dx11 : List (Nat × Instr × ab_K × List Nat) := [(6, .invokevirtual 170, (3, 157, 1), [5121, 5123, 42, 1007]), (6, .invokevirtual 173, (3, 158, 0), [5129, 5131, 44, 1007]), (6, .getfield 69, (1, 6, 24), [4121]), (6, .invokevirtual 177, (3, 160, 0), [5133, 5135, 45, 1007]), (6, .invokevirtual 180, (3, 161, 2), [5141, 5143, 47, 1007]), (6, .getfield 75, (1, 6, 26), [4123]), (6, .invokevirtual 184, (3, 163, 5), [5113, 5115, 40, 1007]), (6, .putfield 188, (1, 6, 3), [4100]), (6, .putfield 191, (1, 6, 4), [4101]), (6, .getfield 188, (1, 6, 3), [4100]), (6, .getfield 191, (1, 6, 4), [4101]), (6, .getfield 7, (1, 6, 5), [4102]), (6, .invokevirtual 194, (3, 142, 1), [5105, 5107, 38, 1007]), (6, .getfield 78, (1, 6, 32), [4129]), (6, .invokevirtual 197, (3, 164, 2), [5109, 5111, 39, 1007]), (6, .putfield 157, (1, 6, 27), [4124]), (6, .putfield 154, (1, 6, 29), [4126]), (6, .invokevirtual 201, (3, 162, 0), [5117, 5119, 41, 1007]), (6, .getfield 148, (1, 6, 31), [4128]), (6, .getfield 13, (1, 6, 6), [4103]), (6, .getfield 87, (1, 6, 35), [4132]), (6, .invokevirtual 204, (3, 168, 1), [5161, 5163, 50, 1007]), (6, .invokevirtual 207, (3, 167, 1), [5165, 5167, 51, 1007]), (6, .invokevirtual 210, (3, 169, 1), [5169, 5171, 52, 1007]), (6, .invokevirtual 213, (3, 171, 1), [5173, 5175, 53, 1007]), (6, .invokevirtual 216, (3, 130, 1), [5153, 5155, 48, 1007]), (6, .invokevirtual 219, (3, 170, 1), [5157, 5159, 49, 1007]), (6, .invokevirtual 223, (3, 174, 2), [5181, 5183, 54, 1007]), (6, .invokevirtual 227, (3, 172, 1), [5193, 5195, 56, 1007]), (6, .putfield 230, (1, 6, 36), [4133]), (6, .putfield 233, (1, 6, 37), [4134]), (6, .invokevirtual 236, (3, 176, 2), [5189, 5191, 55, 1007])]
def ab_dx12 : List (Nat × Instr × ab_K × List Nat) := [(6, .getfield 230, (1, 6, 36), [4133]), (6, .getfield 233, (1, 6, 37), [4134]), (6, .invokevirtual 239, (3, 177, 1), [5201, 5203, 57, 1007]), (6, .invokevirtual 242, (3, 181, 1), [5213, 5215, 58, 1007]), (6, .getfield 246, (1, 6, 42), [4139]), (6, .putfield 246, (1, 6, 42), [4139]), (6, .getfield 93, (1, 6, 39), [4136]), (6, .getfield 90, (1, 6, 38), [4135]), (6, .getfield 96, (1, 6, 40), [4137]), (6, .getfield 99, (1, 6, 41), [4138]), (6, .invokevirtual 249, (3, 183, 3), [5225, 5227, 60, 1007]), (6, .invokevirtual 253, (3, 184, 3), [5221, 5223, 59, 1007]), (6, .getfield 84, (1, 6, 34), [4131]), (6, .invokevirtual 256, (3, 186, 4), [5233, 5235, 61, 1007]), (6, .invokevirtual 260, (3, 143, 2), [5237, 5239, 62, 1007]), (6, .invokevirtual 263, (3, 189, 0), [6009, 6011, 63, 1007]), (6, .invokevirtual 266, (3, 190, 1), [6013, 6015, 64, 1007]), (6, .putfield 269, (1, 6, 43), [4140]), (6, .putfield 272, (1, 6, 44), [4141]), (6, .putfield 275, (1, 6, 45), [4142]), (6, .getfield 269, (1, 6, 43), [4140]), (6, .getfield 272, (1, 6, 44), [4141]), (6, .getfield 275, (1, 6, 45), [4142]), (6, .invokevirtual 278, (3, 193, 2), [6025, 6027, 65, 1007]), (6, .ldc_w 281, (10, 1103515245, 0), [6057]), (6, .invokevirtual 282, (3, 199, 1), [6053, 6055, 67, 1007]), (6, .invokevirtual 285, (3, 200, 0), [6049, 6051, 66, 1007]), (6, .invokevirtual 288, (3, 201, 0), [6058, 6060, 68, 1007]), (6, .getfield 291, (1, 6, 47), [4144]), (6, .getfield 102, (1, 6, 46), [4143]), (6, .putfield 291, (1, 6, 47), [4144]), (6, .invokevirtual 294, (3, 204, 1), [6074, 6076, 70, 1007])]
def ab_dx13 : List (Nat × Instr × ab_K × List Nat) := [(6, .invokevirtual 297, (3, 205, 2), [6070, 6072, 69, 1007]), (6, .invokevirtual 300, (3, 206, 2), [6078, 6080, 71, 1007]), (6, .invokevirtual 303, (3, 207, 2), [6082, 6084, 72, 1007]), (6, .putfield 306, (1, 6, 48), [4145]), (6, .getfield 81, (1, 6, 33), [4130]), (6, .getfield 306, (1, 6, 48), [4145]), (20, .ldc_w 265, (10, 1431655765, 0), [3161]), (20, .ldc_w 266, (10, 858993459, 0), [3162]), (20, .ldc_w 267, (10, 252645135, 0), [3163]), (21, .new 7, (2, 5, 0), [1016, 1017, 1001]), (21, .invokespecial 9, (5, 75, 0), [1018, 1019, 1001]), (21, .new 10, (2, 6, 0), [4091, 4092, 1007]), (21, .invokespecial 12, (5, 128, 0), [4093, 4094, 1007]), (21, .invokevirtual 13, (3, 76, 3), [1213, 1214, 1215, 1001]), (21, .invokevirtual 17, (3, 135, 3), [5005, 5006, 5007, 1007]), (21, .ldc2_w 18, (11, 4294967295, 0), [6102]), (21, .invokevirtual 20, (3, 77, 3), [1234, 1235, 1236, 1001]), (21, .invokevirtual 24, (3, 136, 3), [5017, 5018, 5019, 1007]), (21, .invokevirtual 25, (3, 78, 5), [2023, 2024, 2025, 1001]), (21, .invokevirtual 29, (3, 137, 5), [5021, 5022, 5023, 1007]), (21, .invokevirtual 30, (3, 79, 2), [2044, 2045, 2046, 1001]), (21, .invokevirtual 34, (3, 138, 2), [5025, 5026, 5027, 1007]), (21, .invokevirtual 35, (3, 80, 2), [2052, 2053, 2054, 1001]), (21, .invokevirtual 39, (3, 139, 2), [5029, 5030, 5031, 1007]), (21, .invokevirtual 40, (3, 81, 1), [2064, 2065, 2066, 1001]), (21, .invokevirtual 44, (3, 140, 1), [5037, 5038, 5039, 1007]), (21, .invokevirtual 45, (3, 82, 2), [2068, 2069, 2070, 1001]), (21, .invokevirtual 48, (3, 141, 2), [5041, 5042, 5043, 1007]), (21, .invokevirtual 49, (3, 83, 3), [2093, 2094, 2095, 1001]), (21, .invokevirtual 52, (3, 148, 3), [5053, 5054, 5055, 1007]), (21, .invokevirtual 53, (3, 84, 3), [2106, 2107, 2108, 1001]), (21, .invokevirtual 56, (3, 149, 3), [5065, 5066, 5067, 1007])]
def ab_dx14 : List (Nat × Instr × ab_K × List Nat) := [(21, .invokevirtual 57, (3, 85, 2), [2122, 2123, 2124, 1001]), (21, .invokevirtual 60, (3, 150, 2), [5073, 5074, 5075, 1007]), (21, .invokevirtual 61, (3, 86, 1), [2126, 2127, 2128, 1001]), (21, .invokevirtual 64, (3, 151, 1), [5077, 5078, 5079, 1007]), (21, .invokevirtual 65, (3, 87, 3), [2130, 2131, 2132, 1001]), (21, .invokevirtual 68, (3, 152, 3), [5081, 5082, 5083, 1007]), (21, .invokevirtual 69, (3, 88, 2), [2142, 2143, 2144, 1001]), (21, .invokevirtual 72, (3, 154, 2), [5089, 5090, 5091, 1007]), (21, .invokevirtual 73, (3, 89, 2), [2146, 2147, 2148, 1001]), (21, .invokevirtual 76, (3, 155, 2), [5093, 5094, 5095, 1007]), (21, .invokevirtual 77, (3, 90, 1), [2154, 2155, 2156, 1001]), (21, .invokevirtual 80, (3, 165, 1), [5101, 5102, 5103, 1007]), (21, .invokevirtual 81, (3, 91, 0), [3056, 3057, 3058, 1001]), (21, .invokevirtual 85, (3, 166, 0), [5145, 5146, 5147, 1007]), (21, .invokevirtual 86, (3, 92, 2), [3060, 3061, 3062, 1001]), (21, .invokevirtual 89, (3, 175, 2), [5177, 5178, 5179, 1007]), (21, .invokevirtual 90, (3, 93, 2), [3076, 3077, 3078, 1001]), (21, .invokevirtual 93, (3, 173, 2), [5149, 5150, 5151, 1007]), (21, .invokevirtual 94, (3, 94, 2), [3128, 3129, 3130, 1001]), (21, .invokevirtual 97, (3, 178, 2), [5185, 5186, 5187, 1007]), (21, .invokevirtual 98, (3, 95, 2), [3141, 3142, 3143, 1001]), (21, .invokevirtual 101, (3, 179, 2), [5197, 5198, 5199, 1007]), (21, .invokevirtual 102, (3, 96, 1), [3150, 3151, 3152, 1001]), (21, .invokevirtual 105, (3, 180, 1), [5205, 5206, 5207, 1007]), (21, .invokevirtual 106, (3, 97, 1), [3164, 3165, 3166, 1001]), (21, .invokevirtual 109, (3, 182, 1), [5209, 5210, 5211, 1007]), (21, .invokevirtual 110, (3, 98, 1), [3172, 3173, 3174, 1001]), (21, .invokevirtual 113, (3, 185, 1), [5217, 5218, 5219, 1007]), (21, .invokevirtual 114, (3, 99, 2), [3176, 3177, 3178, 1001]), (21, .invokevirtual 117, (3, 187, 2), [5229, 5230, 5231, 1007]), (21, .invokevirtual 118, (3, 100, 4), [3192, 3193, 3194, 1001]), (21, .invokevirtual 122, (3, 188, 4), [6001, 6002, 6003, 1007])]
def ab_dx15 : List (Nat × Instr × ab_K × List Nat) := [(21, .invokevirtual 123, (3, 101, 1), [3205, 3206, 3207, 1001]), (21, .invokevirtual 126, (3, 191, 1), [6005, 6006, 6007, 1007]), (21, .invokevirtual 127, (3, 102, 1), [3219, 3220, 3221, 1001]), (21, .invokevirtual 130, (3, 192, 1), [6017, 6018, 6019, 1007]), (21, .invokevirtual 131, (3, 103, 2), [3227, 3228, 3229, 1001]), (21, .invokevirtual 134, (3, 194, 2), [6021, 6022, 6023, 1007]), (21, .invokevirtual 135, (3, 104, 3), [3239, 4000, 4001, 1001]), (21, .invokevirtual 138, (3, 195, 3), [6029, 6030, 6031, 1007]), (21, .invokevirtual 139, (3, 105, 2), [4003, 4004, 4005, 1001]), (21, .invokevirtual 142, (3, 196, 2), [6033, 6034, 6035, 1007]), (21, .invokevirtual 143, (3, 106, 2), [4007, 4008, 4009, 1001]), (21, .invokevirtual 146, (3, 197, 2), [6037, 6038, 6039, 1007]), (21, .invokevirtual 147, (3, 107, 1), [4011, 4012, 4013, 1001]), (21, .invokevirtual 150, (3, 198, 1), [6041, 6042, 6043, 1007]), (21, .invokevirtual 151, (3, 108, 1), [4015, 4016, 4017, 1001]), (21, .invokevirtual 154, (3, 202, 1), [6045, 6046, 6047, 1007]), (21, .invokevirtual 155, (3, 109, 1), [4041, 4042, 4043, 1001]), (21, .invokevirtual 158, (3, 203, 1), [6062, 6063, 6064, 1007]), (21, .invokevirtual 159, (3, 110, 3), [4045, 4046, 4047, 1001]), (21, .invokevirtual 162, (3, 208, 3), [6066, 6067, 6068, 1007]), (21, .invokevirtual 163, (3, 111, 1), [4071, 4072, 4073, 1001]), (21, .invokevirtual 166, (3, 209, 1), [6086, 6087, 6088, 1007]), (21, .invokevirtual 167, (3, 112, 0), [4079, 4080, 4081, 1001]), (21, .invokevirtual 170, (3, 210, 0), [6090, 6091, 6092, 1007]), (21, .invokevirtual 171, (3, 113, 0), [4083, 4084, 4085, 1001]), (21, .invokevirtual 174, (3, 211, 0), [6094, 6095, 6096, 1007]), (21, .invokevirtual 175, (3, 114, 1), [4087, 4088, 4089, 1001]), (21, .invokevirtual 178, (3, 212, 1), [6098, 6099, 6100, 1007])]
def ab_dxt (i : Nat) : List (Nat × Instr × ab_K × List Nat) := match i with
  | 0 => ab_dx0
  | 1 => ab_dx1
  | 2 => ab_dx2
  | 3 => ab_dx3
  | 4 => ab_dx4
  | 5 => ab_dx5
  | 6 => ab_dx6
  | 7 => ab_dx7
  | 8 => ab_dx8
  | 9 => ab_dx9
  | 10 => ab_dx10
  | 11 => ab_dx11
  | 12 => ab_dx12
  | 13 => ab_dx13
  | 14 => ab_dx14
  | 15 => ab_dx15
  | _ => []
def ab_dxn (j : Nat) : Option (Nat × Instr × ab_K × List Nat) := (ab_dxt (j / 32))[j % 32]?
/-- a table's code word is the method's: its bytes by a list of them (byte by byte in an array costs the square) -/
def ab_cd (o : Option Cond) (md : ab_D) : Bool := match o with
  | some (.code n b ml r) => decide (n = md.1) && (decide (b.data.toList = md.2.1.data.toList) && (decide (ml = md.2.2.1) && decide (r = md.2.2.2.1)))
  | _ => false
theorem ab_cd_ok {o : Option Cond} {md : ab_D} (h : ab_cd o md = true) : o = some (.code md.1 md.2.1 md.2.2.1 md.2.2.2.1) := by
  unfold ab_cd at h
  split at h
  · rename_i n b ml r
    simp only [Bool.and_eq_true, decide_eq_true_eq] at h
    obtain ⟨h1, h2, h3, h4⟩ := h
    have hb : b = md.2.1 := by
      have h5 : b.data = md.2.1.data := Array.toList_inj.mp h2
      show ByteArray.mk b.data = ByteArray.mk md.2.1.data
      rw [h5]
    rw [h1, hb, h3, h4]
  · cases h
def ab_ck1 (md : ab_D) (cp : Nat) : Bool := plainName md.1.cls && (decide (md.1.cls ≠ "java/lang/invoke/MethodHandle") && (decide (md.1.cls ≠ "java/lang/invoke/VarHandle") && (decide ((parseMethodDescriptor md.1.desc).map (fun d => d.parameters.length) = some md.2.2.2.2.2.1) && (ab_cd (ab_wn cp) md && (decide (md.2.2.1 ≤ 81) && ((!md.2.2.2.2.2.2.1 || decide (md.1.name = "<init>")) && (match ab_G md.2.2.2.2.1 with
  | some (C, _, _, _) => decide (C = md.1.cls)
  | none => true)))))))
def ab_dq (e : Nat × Instr × ab_K × List Nat) : Bool := decide (ab_wd ab_Sl ab_M ab_G (ab_cnm e.1) e.2.1 e.2.2.1 = e.2.2.2.filterMap ab_wn) && ((ab_wd ab_Sl ab_M ab_G (ab_cnm e.1) e.2.1 e.2.2.1).all goodWord && ((decide (e.2.2.1.1 ≠ 15) || (match e.2.1, ab_M[e.2.2.1.2.1]? with
    | .invokespecial i, some my => ab_Nl.any (fun q => decide (q.1 = ab_cnm e.1 ∧ q.2.1 = i ∧ q.2.2.1 = my.1))
    | _, _ => false)) && ((decide (e.2.2.1.1 ≠ 13) || decide (e.2.2.1.2.1 < 2)) && (decide (e.2.2.1.1 ≠ 16) || (match e.2.1 with
    | .ldc i => tx_R.any (fun q => decide (q.1 = ab_cnm e.1 ∧ q.2.1 = i ∧ q.2.2.2 = e.2.2.1.2.1))
    | _ => false)))))
def ab_q2 (t : Nat) (md : ab_D) (x : ab_I) : Bool := match x.2.2.2 with
  | [] => (ab_wd ab_Sl ab_M ab_G md.1.cls x.1 x.2.2.1).isEmpty && (decide (x.2.2.1.1 ≠ 15) && (decide (x.2.2.1.1 ≠ 13) && decide (x.2.2.1.1 ≠ 16)))
  | j :: _ => match ab_dxn j with
    | some (t2, ins2, k2, _) => decide (t2 = t ∧ ins2 = x.1 ∧ k2 = x.2.2.1)
    | none => false
def ab_ckr (t : Nat) (md : ab_D) (j : Nat) : Bool := ab_wr md (ab_q2 t md) (128 * j) (md.2.1.data.toList.drop (128 * j)) ((md.2.2.2.2.2.2.2.drop (8 * j)).take 8)

theorem ab_dxk0 : ab_dx0.all ab_dq = true := by decide +kernel
theorem ab_dxk1 : ab_dx1.all ab_dq = true := by decide +kernel
theorem ab_dxk2 : ab_dx2.all ab_dq = true := by decide +kernel
theorem ab_dxk3 : ab_dx3.all ab_dq = true := by decide +kernel
theorem ab_dxk4 : ab_dx4.all ab_dq = true := by decide +kernel
theorem ab_dxk5 : ab_dx5.all ab_dq = true := by decide +kernel
theorem ab_dxk6 : ab_dx6.all ab_dq = true := by decide +kernel
theorem ab_dxk7 : ab_dx7.all ab_dq = true := by decide +kernel
theorem ab_dxk8 : ab_dx8.all ab_dq = true := by decide +kernel
theorem ab_dxk9 : ab_dx9.all ab_dq = true := by decide +kernel
theorem ab_dxk10 : ab_dx10.all ab_dq = true := by decide +kernel
theorem ab_dxk11 : ab_dx11.all ab_dq = true := by decide +kernel
theorem ab_dxk12 : ab_dx12.all ab_dq = true := by decide +kernel
theorem ab_dxk13 : ab_dx13.all ab_dq = true := by decide +kernel
theorem ab_dxk14 : ab_dx14.all ab_dq = true := by decide +kernel
theorem ab_dxk15 : ab_dx15.all ab_dq = true := by decide +kernel
theorem ab_dxa : ∀ i, (ab_dxt i).all ab_dq = true := by
  intro i
  unfold ab_dxt
  split
  · exact ab_dxk0
  · exact ab_dxk1
  · exact ab_dxk2
  · exact ab_dxk3
  · exact ab_dxk4
  · exact ab_dxk5
  · exact ab_dxk6
  · exact ab_dxk7
  · exact ab_dxk8
  · exact ab_dxk9
  · exact ab_dxk10
  · exact ab_dxk11
  · exact ab_dxk12
  · exact ab_dxk13
  · exact ab_dxk14
  · exact ab_dxk15
  · rfl
theorem ab_dx_ok (j : Nat) (e : Nat × Instr × ab_K × List Nat) (h : ab_dxn j = some e) : ab_dq e = true := List.all_eq_true.mp (ab_dxa (j / 32)) e (List.mem_of_getElem? h)
theorem ab_dq_ok {e : Nat × Instr × ab_K × List Nat} (h3 : ab_dq e = true) : (∀ w ∈ ab_wd ab_Sl ab_M ab_G (ab_cnm e.1) e.2.1 e.2.2.1, w ∈ ab_Ws) ∧ ab_nd ab_Nl ab_Sl ab_M (ab_cnm e.1) e.2.1 e.2.2.1 := by
  obtain ⟨t, ins, k, ps⟩ := e
  unfold ab_dq at h3
  simp only [Bool.and_eq_true, decide_eq_true_eq] at h3
  refine ⟨ab_inW ps h3.1 h3.2.1, fun i my hi hk hmy => ?_, fun i hi hk => ?_, fun i hi hk => ?_⟩
  · have h4 := h3.2.2.1
    dsimp only at hi
    subst hi
    dsimp only at hmy
    rw [hmy, hk] at h4
    simp only [ne_eq, not_true_eq_false, decide_false, Bool.false_or, List.any_eq_true, decide_eq_true_eq] at h4
    obtain ⟨q, hq, e1, e2, e3⟩ := h4
    exact ⟨q.2.2.2, by rw [← e1, ← e2, ← e3]; exact hq⟩
  · have h5 := h3.2.2.2.1
    rw [hk] at h5
    have h5 : k.2.1 < 2 := by simpa using h5
    intro q
    have q2 := List.getElem?_eq_none_iff.mp q
    exact absurd h5 (Nat.not_lt.mpr q2)
  · have h6 := h3.2.2.2.2
    dsimp only at hi
    subst hi
    rw [hk] at h6
    simp only [ne_eq, not_true_eq_false, decide_false, Bool.false_or, List.any_eq_true, decide_eq_true_eq] at h6
    obtain ⟨q, hq, e1, e2, e3⟩ := h6
    exact ⟨q.2.2.1, by rw [← e1, ← e2]; show (q.1, q.2.1, q.2.2.1, k.2.1) ∈ tx_R; rw [← e3]; exact hq⟩
theorem ab_ck_at {t : Nat} {md : ab_D} {J : Nat} (ht : md.1.cls = ab_cnm t) (h2 : ∀ j, j < J → ab_ckr t md j = true) (hJ : 16 * md.2.2.2.2.2.2.2.length ≤ 128 * J) : ∀ (pc : Nat) (ins : Instr) (len : Nat) (k : ab_K) (ps : List Nat), ab_at md pc = some (ins, len, k, ps) → decode md.2.1 pc = .ok (ins, len) ∧ (∀ w ∈ ab_wd ab_Sl ab_M ab_G md.1.cls ins k, w ∈ ab_Ws) ∧ ab_nd ab_Nl ab_Sl ab_M md.1.cls ins k := by
  intro pc ins len k ps hat
  have h3 : decode md.2.1 pc = .ok (ins, len) ∧ ab_q2 t md (ins, len, k, ps) = true := by
    unfold ab_at at hat
    split at hat
    · rename_i row hr
      have hl := (List.getElem?_eq_some_iff.mp hr).1
      split at hat
      · rename_i o ho
        subst hat
        have hrow : ((md.2.2.2.2.2.2.2.drop (8 * (pc / 128))).take 8)[pc / 16 - 8 * (pc / 128)]? = some row := by
          rw [List.getElem?_take, if_pos (by omega), List.getElem?_drop, show 8 * (pc / 128) + (pc / 16 - 8 * (pc / 128)) = pc / 16 by omega]
          exact hr
        have := ab_wr_ok md (ab_q2 t md) _ (128 * (pc / 128)) _ rfl (h2 (pc / 128) (by omega)) _ row hrow (pc % 16) _ ho
        rw [show 128 * (pc / 128) + 16 * (pc / 16 - 8 * (pc / 128)) + pc % 16 = pc by omega] at this
        exact this
      · cases hat
    · cases hat
  refine ⟨h3.1, ?_⟩
  have h4 := h3.2
  unfold ab_q2 at h4
  dsimp only at h4
  split at h4
  · simp only [Bool.and_eq_true, decide_eq_true_eq, List.isEmpty_iff] at h4
    obtain ⟨e0, e1, e2, e3⟩ := h4
    exact ⟨fun w hw => (by rw [e0] at hw; cases hw), fun i my _ hk => absurd hk e1, fun i _ hk => absurd hk e2, fun i _ hk => absurd hk e3⟩
  · rename_i j _
    split at h4
    · rename_i t2 ins2 k2 ps2 he
      obtain ⟨rfl, rfl, rfl⟩ := of_decide_eq_true h4
      have := ab_dq_ok (ab_dx_ok j _ he)
      rw [ht]
      exact this
    · cases h4
theorem ab_ck_ok {t : Nat} {md : ab_D} {cp J : Nat} (ht : md.1.cls = ab_cnm t) (h1 : ab_ck1 md cp = true) (h2 : ∀ j, j < J → ab_ckr t md j = true) (hJ : 16 * md.2.2.2.2.2.2.2.length ≤ 128 * J) : ab_ok ab_Nl ab_Sl ab_M ab_G ab_Ws md := by
  unfold ab_ck1 at h1
  simp only [Bool.and_eq_true, decide_eq_true_eq] at h1
  obtain ⟨a1, a2, a3, a4, a5, a6, a7, a8⟩ := h1
  refine ⟨a1, ⟨a2, a3, a4⟩, List.mem_filter.mpr ⟨ab_wn_in (ab_cd_ok a5), rfl⟩, a6, fun q => ?_, fun C T N ty hg => ?_, fun pc ins len k ps hat => ?_⟩
  · rw [q] at a7
    simpa using a7
  · rw [hg] at a8
    exact of_decide_eq_true a8
  · exact ab_ck_at ht h2 hJ pc ins len k ps hat
