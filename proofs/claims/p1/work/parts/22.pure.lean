/-! every script of at most 6 ints -/
theorem w0_sz : ab_sz w0 ≤ 7302250 := by decide +kernel
theorem law_six (a0 a1 a2 a3 a4 a5 : Int32) : ∃ cs2, Ef (3, ab_Tb ++ [[a0, a1, a2, a3, a4, a5]]) 8 mL_law (27, [some (.ref 1000002), some (.ref 0), some (.ref 65), some (.int 0)], [], w0) (some (.int 1), cs2) ∧ cs2.length = 95 ∧ ab_sz cs2 = ab_sz w0 := by
  obtain ⟨j, hj, hk⟩ := pk_andE a0 (m := 63) 6 (by decide)
  match j, hj, hk with
  | 0, _, hk =>
    obtain ⟨r, cs1, cs2, e1, e2, l1, l2, z, hrv⟩ := f_row a1 a2 a3
    exact ⟨cs2, law_0 (hk.trans (by decide)) e1 e2 l1 l2 hrv, l2, z⟩
  | 1, _, hk =>
    obtain ⟨r, cs1, cs2, e1, e2, l1, l2, z, hrv⟩ := f_set a1 a2 ((a3.toInt64 <<< ((32 : Int32).toInt64 &&& 63)) ||| (a4.toInt64 &&& 4294967295))
    exact ⟨cs2, law_1 (hk.trans (by decide)) e1 e2 l1 l2 hrv, l2, z⟩
  | 2, _, hk =>
    obtain ⟨r, cs1, cs2, e1, e2, l1, l2, z, hrv⟩ := f_copy a1 a2 a3 a4 a5
    exact ⟨cs2, law_2 (hk.trans (by decide)) e1 e2 l1 l2 hrv, l2, z⟩
  | 3, _, hk =>
    obtain ⟨r, cs1, cs2, e1, e2, l1, l2, z, hrv⟩ := f_element a1 a2
    exact ⟨cs2, law_3 (hk.trans (by decide)) e1 e2 l1 l2 hrv, l2, z⟩
  | 4, _, hk =>
    obtain ⟨r, cs1, cs2, e1, e2, l1, l2, z, hrv⟩ := f_show a1 a2
    exact ⟨cs2, law_4 (hk.trans (by decide)) e1 e2 l1 l2 hrv, l2, z⟩
  | 5, _, hk =>
    obtain ⟨r, cs1, cs2, e1, e2, l1, l2, z, hrv⟩ := f_holds a1
    exact ⟨cs2, law_5 (hk.trans (by decide)) e1 e2 l1 l2 hrv, l2, z⟩
  | 6, _, hk =>
    obtain ⟨r, cs1, cs2, e1, e2, l1, l2, z, hrv⟩ := f_says a1 a2
    exact ⟨cs2, law_6 (hk.trans (by decide)) e1 e2 l1 l2 hrv, l2, z⟩
  | 7, _, hk =>
    obtain ⟨r, cs1, cs2, e1, e2, l1, l2, z, hrv⟩ := f_piece a1 a2 a3
    exact ⟨cs2, law_7 (hk.trans (by decide)) e1 e2 l1 l2 hrv, l2, z⟩
  | 8, _, hk =>
    obtain ⟨r, cs1, cs2, e1, e2, l1, l2, z, hrv⟩ := f_person a1 a2 a3
    exact ⟨cs2, law_8 (hk.trans (by decide)) e1 e2 l1 l2 hrv, l2, z⟩
  | 9, _, hk =>
    obtain ⟨r, cs1, cs2, e1, e2, l1, l2, z, hrv⟩ := f_cost a1 a2
    exact ⟨cs2, law_9 (hk.trans (by decide)) e1 e2 l1 l2 hrv, l2, z⟩
  | 10, _, hk =>
    obtain ⟨r, cs1, cs2, e1, e2, l1, l2, z, hrv⟩ := f_rule a1
    exact ⟨cs2, law_10 (hk.trans (by decide)) e1 e2 l1 l2 hrv, l2, z⟩
  | 11, _, hk =>
    obtain ⟨r, cs1, cs2, e1, e2, l1, l2, z, hrv⟩ := f_tell a1 a2 a3
    exact ⟨cs2, law_11 (hk.trans (by decide)) e1 e2 l1 l2 hrv, l2, z⟩
  | 12, _, hk =>
    obtain ⟨r, cs1, cs2, e1, e2, l1, l2, z, hrv⟩ := f_pieceOf a1 a2
    exact ⟨cs2, law_12 (hk.trans (by decide)) e1 e2 l1 l2 hrv, l2, z⟩
  | 13, _, hk =>
    obtain ⟨r, cs1, cs2, e1, e2, l1, l2, z, hrv⟩ := f_personOf a1 a2
    exact ⟨cs2, law_13 (hk.trans (by decide)) e1 e2 l1 l2 hrv, l2, z⟩
  | 14, _, hk =>
    obtain ⟨r, cs1, cs2, e1, e2, l1, l2, z, hrv⟩ := f_square a1
    exact ⟨cs2, law_14 (hk.trans (by decide)) e1 e2 l1 l2 hrv, l2, z⟩
  | 15, _, hk =>
    obtain ⟨r, cs1, cs2, e1, e2, l1, l2, z, hrv⟩ := f_fault 
    exact ⟨cs2, law_15 (hk.trans (by decide)) e1 e2 l1 l2 hrv, l2, z⟩
  | 16, _, hk =>
    obtain ⟨r, cs1, cs2, e1, e2, l1, l2, z, hrv⟩ := f_price a1 a2
    exact ⟨cs2, law_16 (hk.trans (by decide)) e1 e2 l1 l2 hrv, l2, z⟩
  | 17, _, hk =>
    obtain ⟨r, cs1, cs2, e1, e2, l1, l2, z, hrv⟩ := f_change a1 a2
    exact ⟨cs2, law_17 (hk.trans (by decide)) e1 e2 l1 l2 hrv, l2, z⟩
  | 18, _, hk =>
    obtain ⟨r, cs1, cs2, e1, e2, l1, l2, z, hrv⟩ := f_harm a1 a2
    exact ⟨cs2, law_18 (hk.trans (by decide)) e1 e2 l1 l2 hrv, l2, z⟩
  | 19, _, hk =>
    obtain ⟨r, cs1, cs2, e1, e2, l1, l2, z, hrv⟩ := f_best a1 a2
    exact ⟨cs2, law_19 (hk.trans (by decide)) e1 e2 l1 l2 hrv, l2, z⟩
  | 20, _, hk =>
    obtain ⟨r, cs1, cs2, e1, e2, l1, l2, z, hrv⟩ := f_fails a1
    exact ⟨cs2, law_20 (hk.trans (by decide)) e1 e2 l1 l2 hrv, l2, z⟩
  | 21, _, hk =>
    obtain ⟨r, cs1, cs2, e1, e2, l1, l2, z, hrv⟩ := f_amounts a1
    exact ⟨cs2, law_21 (hk.trans (by decide)) e1 e2 l1 l2 hrv, l2, z⟩
  | 22, _, hk =>
    obtain ⟨r, cs1, cs2, e1, e2, l1, l2, z, hrv⟩ := f_run a1
    exact ⟨cs2, law_22 (hk.trans (by decide)) e1 e2 l1 l2 hrv, l2, z⟩
  | 23, _, hk =>
    obtain ⟨r, cs1, cs2, e1, e2, l1, l2, z, hrv⟩ := f_rules a1 a2
    exact ⟨cs2, law_23 (hk.trans (by decide)) e1 e2 l1 l2 hrv, l2, z⟩
  | 24, _, hk =>
    obtain ⟨r, cs1, cs2, e1, e2, l1, l2, z, hrv⟩ := f_costs a1 a2 a3 a4
    exact ⟨cs2, law_24 (hk.trans (by decide)) e1 e2 l1 l2 hrv, l2, z⟩
  | 25, _, hk =>
    obtain ⟨r, cs1, cs2, e1, e2, l1, l2, z, hrv⟩ := f_dear a1
    exact ⟨cs2, law_25 (hk.trans (by decide)) e1 e2 l1 l2 hrv, l2, z⟩
  | 26, _, hk =>
    obtain ⟨r, cs1, cs2, e1, e2, l1, l2, z, hrv⟩ := f_rich a1
    exact ⟨cs2, law_26 (hk.trans (by decide)) e1 e2 l1 l2 hrv, l2, z⟩
  | 27, _, hk =>
    obtain ⟨r, cs1, cs2, e1, e2, l1, l2, z, hrv⟩ := f_judge a1 a2
    exact ⟨cs2, law_27 (hk.trans (by decide)) e1 e2 l1 l2 hrv, l2, z⟩
  | 28, _, hk =>
    obtain ⟨r, cs1, cs2, e1, e2, l1, l2, z, hrv⟩ := f_behind a1 a2 a3
    exact ⟨cs2, law_28 (hk.trans (by decide)) e1 e2 l1 l2 hrv, l2, z⟩
  | 29, _, hk =>
    obtain ⟨r, cs1, cs2, e1, e2, l1, l2, z, hrv⟩ := f_done a1 a2
    exact ⟨cs2, law_29 (hk.trans (by decide)) e1 e2 l1 l2 hrv, l2, z⟩
  | 30, _, hk =>
    obtain ⟨r, cs1, cs2, e1, e2, l1, l2, z, hrv⟩ := f_cast a1 a2
    exact ⟨cs2, law_30 (hk.trans (by decide)) e1 e2 l1 l2 hrv, l2, z⟩
  | 31, _, hk =>
    obtain ⟨r, cs1, cs2, e1, e2, l1, l2, z, hrv⟩ := f_back a1
    exact ⟨cs2, law_31 (hk.trans (by decide)) e1 e2 l1 l2 hrv, l2, z⟩
  | 32, _, hk =>
    obtain ⟨r, cs1, cs2, e1, e2, l1, l2, z, hrv⟩ := f_days a1
    exact ⟨cs2, law_32 (hk.trans (by decide)) e1 e2 l1 l2 hrv, l2, z⟩
  | 33, _, hk =>
    obtain ⟨r, cs1, cs2, e1, e2, l1, l2, z, hrv⟩ := f_seed a1
    exact ⟨cs2, law_33 (hk.trans (by decide)) e1 e2 l1 l2 hrv, l2, z⟩
  | 34, _, hk =>
    obtain ⟨r, cs1, cs2, e1, e2, l1, l2, z, hrv⟩ := f_act a1 a2 a3
    exact ⟨cs2, law_34 (hk.trans (by decide)) e1 e2 l1 l2 hrv, l2, z⟩
  | 35, _, hk =>
    obtain ⟨r, cs1, cs2, e1, e2, l1, l2, z, hrv⟩ := f_trace a1
    exact ⟨cs2, law_35 (hk.trans (by decide)) e1 e2 l1 l2 hrv, l2, z⟩
  | 36, _, hk =>
    obtain ⟨r, cs1, cs2, e1, e2, l1, l2, z, hrv⟩ := f_image 
    exact ⟨cs2, law_36 (hk.trans (by decide)) e1 e2 l1 l2 hrv, l2, z⟩
  | 37, _, hk =>
    obtain ⟨r, cs1, cs2, e1, e2, l1, l2, z, hrv⟩ := f_restore 
    exact ⟨cs2, law_37 (hk.trans (by decide)) e1 e2 l1 l2 hrv, l2, z⟩
  | 38, _, hk =>
    obtain ⟨r, cs1, cs2, e1, e2, l1, l2, z, hrv⟩ := f_status a1
    exact ⟨cs2, law_38 (hk.trans (by decide)) e1 e2 l1 l2 hrv, l2, z⟩
  | j + 39, hj, hk =>
    exact ⟨w0, law_d (by rw [hk, nI_toInt (by omega)]; omega), rfl, rfl⟩
theorem ab_pure (xs : List Int32) (h : xs.length ≤ 6) : ∃ (d f F : Nat) (cs2 : List ab_C), d ≤ 800 ∧ ab_fr ab_M ab_G (3, ab_Tb ++ [xs]) (fun y As cs => ab_run ab_M ab_G ab_Z0 d f y As cs) mL_law F (0, [some (.ref 1000002), none, none, none], [], []) = some (some (.int 1), cs2) ∧ cs2.length ≤ 600000 ∧ ab_sz cs2 ≤ 7302250 := by
  have key : ∃ cs2, Ef (3, ab_Tb ++ [xs]) 8 mL_law (18, [some (.ref 1000002), some (.ref 0), some (.ref 65), some (.int 0)], [], w0) (some (.int 1), cs2) ∧ cs2.length = 95 ∧ ab_sz cs2 = ab_sz w0 := by
    match xs, h with
    | [], _ => exact ⟨w0, law_s0, rfl, rfl⟩
    | [a0], _ => exact ⟨w0, law_s1, rfl, rfl⟩
    | [a0, a1], _ => exact ⟨w0, law_s2, rfl, rfl⟩
    | [a0, a1, a2], _ => exact ⟨w0, law_s3, rfl, rfl⟩
    | [a0, a1, a2, a3], _ => exact ⟨w0, law_s4, rfl, rfl⟩
    | [a0, a1, a2, a3, a4], _ => exact ⟨w0, law_s5, rfl, rfl⟩
    | [a0, a1, a2, a3, a4, a5], _ =>
      obtain ⟨cs2, e, l, z⟩ := law_six a0 a1 a2 a3 a4 a5
      exact ⟨cs2, law_s6 e, l, z⟩
    | _ :: _ :: _ :: _ :: _ :: _ :: _ :: _, h => simp at h
  obtain ⟨cs2, e, hl, hz⟩ := key
  obtain ⟨f, F, hF⟩ := law_start e
  exact ⟨8, f, F, cs2, by decide, hF, by omega, by rw [hz]; exact w0_sz⟩
