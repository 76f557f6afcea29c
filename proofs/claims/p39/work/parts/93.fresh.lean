/-! the world behind both constructors; by program (wip/tools/mkend.py) -/
def fx_q : ab_q := (List.replicate 9 0, List.replicate 9 0, List.replicate 9 0, List.replicate 9 0, List.replicate 6 0, List.replicate 6 0, List.replicate 6 0, List.replicate 6 0, [5, 6, 7, 8, 9, 10, 11, 12], 0, 0, 0, 0, 0, 1)
def fx_0 : St := (0, (-1), fx_q, fx_q, fx_q, List.replicate 100 0, (-1), 0, 0, 0, fx_q, List.replicate 160 0, 0, 0, 0, 0, List.replicate 20 0, List.replicate 8 0, (fun _ => (-1)), (fun _ => 0), (fun _ => List.replicate 160 0), fx_q, (fun v => if v = 6 then (-1) else 0), List.replicate 8 0, List.replicate 8 0, List.replicate 8 0, List.replicate 8 0, List.replicate 8 0, List.replicate 1280 0, List.replicate 160 0, List.replicate 3 0, List.replicate 75 0, List.replicate 75 0, List.replicate 75 0, List.replicate 100 0, List.replicate 6 0, List.replicate 6 0, List.replicate 42 0, List.replicate 63 0, List.replicate 20 0)
def fx_w : List ab_C := [
  .inr (.inr (.inr (5, [.ref 1, .ref 11, .ref 21, .ref 31, .ref 32, .ref 34, .ref 46, .ref 48, .int 0, .int (-1)]))),
  .inr (.inr (.inr (4, [.ref 2, .ref 3, .ref 4, .ref 5, .ref 6, .ref 7, .ref 8, .ref 9, .ref 10, .int 0, .int 0, .int 0, .int 0, .int 0, .int 1]))),
  .inl [0, 0, 0, 0, 0, 0, 0, 0, 0],
  .inl [0, 0, 0, 0, 0, 0, 0, 0, 0],
  .inl [0, 0, 0, 0, 0, 0, 0, 0, 0],
  .inl [0, 0, 0, 0, 0, 0, 0, 0, 0],
  .inl [0, 0, 0, 0, 0, 0],
  .inl [0, 0, 0, 0, 0, 0],
  .inl [0, 0, 0, 0, 0, 0],
  .inl [0, 0, 0, 0, 0, 0],
  .inl [5, 6, 7, 8, 9, 10, 11, 12],
  .inr (.inr (.inr (4, [.ref 12, .ref 13, .ref 14, .ref 15, .ref 16, .ref 17, .ref 18, .ref 19, .ref 20, .int 0, .int 0, .int 0, .int 0, .int 0, .int 1]))),
  .inl [0, 0, 0, 0, 0, 0, 0, 0, 0],
  .inl [0, 0, 0, 0, 0, 0, 0, 0, 0],
  .inl [0, 0, 0, 0, 0, 0, 0, 0, 0],
  .inl [0, 0, 0, 0, 0, 0, 0, 0, 0],
  .inl [0, 0, 0, 0, 0, 0],
  .inl [0, 0, 0, 0, 0, 0],
  .inl [0, 0, 0, 0, 0, 0],
  .inl [0, 0, 0, 0, 0, 0],
  .inl [5, 6, 7, 8, 9, 10, 11, 12],
  .inr (.inr (.inr (4, [.ref 22, .ref 23, .ref 24, .ref 25, .ref 26, .ref 27, .ref 28, .ref 29, .ref 30, .int 0, .int 0, .int 0, .int 0, .int 0, .int 1]))),
  .inl [0, 0, 0, 0, 0, 0, 0, 0, 0],
  .inl [0, 0, 0, 0, 0, 0, 0, 0, 0],
  .inl [0, 0, 0, 0, 0, 0, 0, 0, 0],
  .inl [0, 0, 0, 0, 0, 0, 0, 0, 0],
  .inl [0, 0, 0, 0, 0, 0],
  .inl [0, 0, 0, 0, 0, 0],
  .inl [0, 0, 0, 0, 0, 0],
  .inl [0, 0, 0, 0, 0, 0],
  .inl [5, 6, 7, 8, 9, 10, 11, 12],
  .inr (.inr (.inl [some 49, some 51, some 53, some 55, some 57, some 59, some 61, some 63])),
  .inr (.inr (.inr (0, [.ref 33]))),
  .inl (List.replicate 100 0),
  .inr (.inr (.inr (2, [.ref 35, .int (-1), .ref 45, .int 0, .int 0, .int 0]))),
  .inr (.inr (.inr (4, [.ref 36, .ref 37, .ref 38, .ref 39, .ref 40, .ref 41, .ref 42, .ref 43, .ref 44, .int 0, .int 0, .int 0, .int 0, .int 0, .int 1]))),
  .inl [0, 0, 0, 0, 0, 0, 0, 0, 0],
  .inl [0, 0, 0, 0, 0, 0, 0, 0, 0],
  .inl [0, 0, 0, 0, 0, 0, 0, 0, 0],
  .inl [0, 0, 0, 0, 0, 0, 0, 0, 0],
  .inl [0, 0, 0, 0, 0, 0],
  .inl [0, 0, 0, 0, 0, 0],
  .inl [0, 0, 0, 0, 0, 0],
  .inl [0, 0, 0, 0, 0, 0],
  .inl [5, 6, 7, 8, 9, 10, 11, 12],
  .inl (List.replicate 160 0),
  .inr (.inr (.inr (1, [.ref 47, .int 0, .int 0, .int 0, .int 0]))),
  .inl (List.replicate 20 0),
  .inl [0, 0, 0, 0, 0, 0, 0, 0],
  .inr (.inr (.inr (3, [.ref 50, .int (-1), .int 0]))),
  .inr (.inl (List.replicate 160 0)),
  .inr (.inr (.inr (3, [.ref 52, .int (-1), .int 0]))),
  .inr (.inl (List.replicate 160 0)),
  .inr (.inr (.inr (3, [.ref 54, .int (-1), .int 0]))),
  .inr (.inl (List.replicate 160 0)),
  .inr (.inr (.inr (3, [.ref 56, .int (-1), .int 0]))),
  .inr (.inl (List.replicate 160 0)),
  .inr (.inr (.inr (3, [.ref 58, .int (-1), .int 0]))),
  .inr (.inl (List.replicate 160 0)),
  .inr (.inr (.inr (3, [.ref 60, .int (-1), .int 0]))),
  .inr (.inl (List.replicate 160 0)),
  .inr (.inr (.inr (3, [.ref 62, .int (-1), .int 0]))),
  .inr (.inl (List.replicate 160 0)),
  .inr (.inr (.inr (3, [.ref 64, .int (-1), .int 0]))),
  .inr (.inl (List.replicate 160 0))]
theorem fx_5 : Ev ab_Z0 3 75 [.ref 0] ([] ++ [.inr (.inr (.inr (5, ab_df tyX5 10)))]) (none, fx_w) := Ev.by (f := 2000) (by decide +kernel)
theorem fx_6 : Ev ab_Z0 3 128 [.ref 65] (fx_w ++ [.inr (.inr (.inr (6, ab_df tyX6 49)))]) (none, wt fx_0) := Ev.by (f := 2000) (by decide +kernel)
theorem fx_qI : qI fx_q := by
  refine ⟨⟨rfl, rfl, rfl, rfl⟩, ⟨rfl, rfl, rfl, rfl, rfl⟩, ⟨Nat.zero_le _, Nat.zero_le _⟩, fun v h => absurd h (Nat.not_lt_zero v), fun v h => absurd h (Nat.not_lt_zero v), ?_, Or.inl rfl⟩
  intro v h
  match v, h with
  | 0, _ | 1, _ | 2, _ | 3, _ | 4, _ | 5, _ | 6, _ | 7, _ => exact ⟨by decide, by decide⟩
  | v + 8, h => omega
theorem fx_rep {α : Type} {c : α} {n0 : Nat} : (List.replicate n0 c).length = n0 := List.length_replicate
theorem fx_hm (v : Nat) : (List.replicate 8 (0 : Nat)).getD v 0 = 0 := by
  rw [List.getD_eq_getElem?_getD, List.getElem?_replicate]
  split <;> rfl
theorem fx_wI : wI fx_0 := by
  refine ⟨fx_qI, rfl, rfl, ⟨fx_qI.ln, fx_qI.ln, fx_qI.ln⟩, Or.inl ⟨rfl, rfl⟩, ⟨0, Nat.zero_le _, rfl, rfl, fun v _ h => absurd h (Nat.not_lt_zero v)⟩, fun v _ => Or.inl ⟨rfl, rfl, fx_hm v⟩, fun v _ => fx_rep, fx_rep, fx_rep, fx_rep, fx_rep, fx_rep, fx_rep, fx_rep, fx_rep, fx_rep, fx_rep, fx_rep, fx_rep, fx_rep, fx_rep, fx_rep, fx_rep, fx_rep, fx_rep, fx_rep, fx_rep, fx_rep⟩
theorem wt_sz : ∀ x : St, wI x → ab_sz (wt x) ≤ 7302250
  | (im, lf, s, d, k, ls, rf, rz, ra, rn, rq, lt, m1, m2, m3, m4, bd, fc, hd, sz, el, t, g, fm, hm, so, si, sh, ce, ca, td, wa, kp, la, bf, oo, bo, pw, ow, tr), h => by
    obtain ⟨I, ts, hf, iQ, iM, iT, iS, l_el, l_ls, l_lt, l_bd, l_fc, l_fm, l_hm, l_so, l_si, l_sh, l_ce, l_ca, l_td, l_wa, l_kp, l_la, l_bf, l_oo, l_bo, l_pw, l_ow, l_tr⟩ := h
    subst ts
    obtain ⟨s0, s1, s2, s3, s4, s5, s6, s7, s8⟩ := I.ln
    obtain ⟨⟨d0, d1, d2, d3, d4, d5, d6, d7, d8⟩, ⟨k0, k1, k2, k3, k4, k5, k6, k7, k8⟩, ⟨r0, r1, r2, r3, r4, r5, r6, r7, r8⟩⟩ := iQ
    have e0 := l_el 0 (by decide)
    have e1 := l_el 1 (by decide)
    have e2 := l_el 2 (by decide)
    have e3 := l_el 3 (by decide)
    have e4 := l_el 4 (by decide)
    have e5 := l_el 5 (by decide)
    have e6 := l_el 6 (by decide)
    have e7 := l_el 7 (by decide)
    have eO : (mOb s g).length = 49 := rfl
    show ab_sz (ww im lf s d k ls rf rz ra rn rq lt m1 m2 m3 m4 bd fc hd sz el s g fm hm so si sh ce ca td wa kp la bf oo bo pw ow tr) ≤ 7302250
    unfold ab_sz ww
    simp only [List.map_cons, List.map_nil, List.sum_cons, List.sum_nil, ab_sc, List.length_map, List.length_cons, List.length_nil, l_ls, l_lt, l_bd, l_fc, l_fm, l_hm, l_so, l_si, l_sh, l_ce, l_ca, l_td, l_wa, l_kp, l_la, l_bf, l_oo, l_bo, l_pw, l_ow, l_tr, e0, e1, e2, e3, e4, e5, e6, e7, eO, s0, s1, s2, s3, s4, s5, s6, s7, s8, d0, d1, d2, d3, d4, d5, d6, d7, d8, k0, k1, k2, k3, k4, k5, k6, k7, k8, r0, r1, r2, r3, r4, r5, r6, r7, r8] <;> omega
theorem fx_start {T : List (List Int32)} {r : Option Value × List ab_C} (K : Ef (3, ab_Tb ++ T) 41 mL_law (18, [some (.ref 1000002), some (.ref 0), some (.ref 65), some (.int (nI 0))], [], wt fx_0) r) : Ef (3, ab_Tb ++ T) 41 mL_law (0, [some (.ref 1000002), none, none, none], [], []) r := by
  refine E_new (q := 0) rfl rfl rfl ⟨by decide, rfl⟩ ?_
  refine E_dup rfl rfl ?_
  refine E_init (As := [.ref 0]) (r0 := [.ref 0]) (cs2 := fx_w) rfl rfl rfl (Nat.le_of_ble_eq_true rfl) rfl ⟨rfl, rfl, rfl⟩ fx_5 (by decide) rfl ?_
  refine E_astore_n (L2 := [some (.ref 1000002), some (.ref 0), none, none]) rfl rfl ?_
  refine E_new (q := 65) rfl rfl rfl ⟨by decide +kernel, by decide +kernel⟩ ?_
  refine E_dup rfl rfl ?_
  refine E_init (As := [.ref 65]) (r0 := [.ref 65]) (cs2 := wt fx_0) rfl rfl rfl (Nat.le_of_ble_eq_true rfl) rfl ⟨rfl, rfl, rfl⟩ fx_6 (by decide) (by decide +kernel) ?_
  refine E_astore_n (L2 := [some (.ref 1000002), some (.ref 0), some (.ref 65), none]) rfl rfl ?_
  refine E_iconst (x := nI 0) rfl (by decide) ?_
  exact E_istore_n (L2 := [some (.ref 1000002), some (.ref 0), some (.ref 65), some (.int (nI 0))]) rfl rfl K
