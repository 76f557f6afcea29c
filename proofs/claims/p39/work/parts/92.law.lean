/-! the law over any script; by program (wip/tools/mklaw.py) -/
theorem wt_len : ∀ x : St, (wt x).length = 95
  | (im, lf, s, d, k, ls, rf, rz, ra, rn, rq, lt, m1, m2, m3, m4, bd, fc, hd, sz, el, t, g, fm, hm, so, si, sh, ce, ca, td, wa, kp, la, bf, oo, bo, pw, ow, tr) => w_len
theorem lw_r0 : ∀ (x : St) (l : List Value), ab_rv ab_G 5 (.ref 0 :: l) (wt x) = true
  | (im, lf, s, d, k, ls, rf, rz, ra, rn, rq, lt, m1, m2, m3, m4, bd, fc, hd, sz, el, t, g, fm, hm, so, si, sh, ce, ca, td, wa, kp, la, bf, oo, bo, pw, ow, tr), _ => ab_rvOf w0 rfl
theorem lw_r65 : ∀ (x : St) (l : List Value), ab_rv ab_G 6 (.ref 65 :: l) (wt x) = true
  | (im, lf, s, d, k, ls, rf, rz, ra, rn, rq, lt, m1, m2, m3, m4, bd, fc, hd, sz, el, t, g, fm, hm, so, si, sh, ce, ca, td, wa, kp, la, bf, oo, bo, pw, ow, tr), _ => ab_rvOf w65 rfl
theorem lw_neg {v : Nat} (h : v < 2147483648) : ¬ nI v < 0 := fun z => by
  have y := Int32.lt_iff_toInt_lt.mp z
  rw [nI_toInt h] at y
  have : (0 : Int32).toInt = 0 := by decide
  omega
theorem lw_cl {v : Nat} (h : v < 2147483648) : (nI v).toNatClampNeg = v := by
  show (nI v).toInt.toNat = v
  rw [nI_toInt h]
  exact Int.toNat_natCast v
theorem lw_at {xs : List Int32} {v : Nat} (h : v < xs.length) : xs[v]? = some (xs.getD v 0) := by
  rw [List.getD_eq_getElem?_getD, List.getElem?_eq_getElem h]
  rfl
theorem lw_cmp (x : Int64) : lg_cmp x x = 0 := by
  unfold lg_cmp
  simp
theorem lw_0 {xs : List Int32} {v : Nat} (hv : v + 6 ≤ xs.length) (hl : xs.length ≤ 3072) {x x1 x2 : St} (h0 : (xs.getD v 0) &&& 63 = 0) {r : Int32} (hx : Ev ab_Z0 3 76 [.ref 0, .int (xs.getD (v + 1) 0), .int (xs.getD (v + 2) 0), .int (xs.getD (v + 3) 0)] (wt x) (some (.int r), wt x1)) (hm : Ev ab_Z0 2 135 [.ref 65, .int (xs.getD (v + 1) 0), .int (xs.getD (v + 2) 0), .int (xs.getD (v + 3) 0)] (wt x1) (some (.int r), wt x2)) {e : Option Value × List ab_C} (K : Ef (3, ab_Tb ++ [xs]) 41 mL_law (1451, [some (.ref 1000002), some (.ref 0), some (.ref 65), some (.int (nI v))], [], (wt x2)) e) : Ef (3, ab_Tb ++ [xs]) 41 mL_law (27, [some (.ref 1000002), some (.ref 0), some (.ref 65), some (.int (nI v))], [], (wt x)) e := by
  refine E_aload_n rfl rfl ?_
  refine E_iload_n rfl rfl ?_
  refine E_tload (x := (xs.getD v 0)) (j := v) (t := 2) rfl (List.getElem?_eq_none (by have := wt_len x; omega)) rfl (by decide) rfl (lw_neg (by omega)) (lw_cl (by omega)) (lw_at (by omega)) ?_
  refine E_bipush (x := 63) rfl (by decide) ?_
  refine E_iand (z := 0) rfl h0 ?_
  refine E_tsIn (off := 171) (t := 204) rfl (by decide) rfl rfl ?_
  refine E_aload_n rfl rfl ?_
  refine E_aload_n rfl rfl ?_
  refine E_iload_n rfl rfl ?_
  refine E_iconst (x := nI 1) rfl (by decide) ?_
  refine E_iadd (z := nI (v + 1)) rfl (nI_add _ _) ?_
  refine E_tload (x := (xs.getD (v + 1) 0)) (j := v + 1) (t := 2) rfl (List.getElem?_eq_none (by have := wt_len x; omega)) rfl (by decide) rfl (lw_neg (by omega)) (lw_cl (by omega)) (lw_at (by omega)) ?_
  refine E_aload_n rfl rfl ?_
  refine E_iload_n rfl rfl ?_
  refine E_iconst (x := nI 2) rfl (by decide) ?_
  refine E_iadd (z := nI (v + 2)) rfl (nI_add _ _) ?_
  refine E_tload (x := (xs.getD (v + 2) 0)) (j := v + 2) (t := 2) rfl (List.getElem?_eq_none (by have := wt_len x; omega)) rfl (by decide) rfl (lw_neg (by omega)) (lw_cl (by omega)) (lw_at (by omega)) ?_
  refine E_aload_n rfl rfl ?_
  refine E_iload_n rfl rfl ?_
  refine E_iconst (x := nI 3) rfl (by decide) ?_
  refine E_iadd (z := nI (v + 3)) rfl (nI_add _ _) ?_
  refine E_tload (x := (xs.getD (v + 3) 0)) (j := v + 3) (t := 2) rfl (List.getElem?_eq_none (by have := wt_len x; omega)) rfl (by decide) rfl (lw_neg (by omega)) (lw_cl (by omega)) (lw_at (by omega)) ?_
  refine E_callV (v := some (.int r)) (As := [.ref 0, .int (xs.getD (v + 1) 0), .int (xs.getD (v + 2) 0), .int (xs.getD (v + 3) 0)]) (r0 := []) (cs2 := (wt x1)) rfl rfl rfl (Nat.le_of_ble_eq_true rfl) rfl (lw_r0 _ _) hx (by decide) (by have := wt_len x; have := wt_len x1; have := wt_len x2; omega) ?_
  refine E_pop rfl rfl ?_
  refine E_aload_n rfl rfl ?_
  refine E_aload_n rfl rfl ?_
  refine E_iload_n rfl rfl ?_
  refine E_iconst (x := nI 1) rfl (by decide) ?_
  refine E_iadd (z := nI (v + 1)) rfl (nI_add _ _) ?_
  refine E_tload (x := (xs.getD (v + 1) 0)) (j := v + 1) (t := 2) rfl (List.getElem?_eq_none (by have := wt_len x1; omega)) rfl (by decide) rfl (lw_neg (by omega)) (lw_cl (by omega)) (lw_at (by omega)) ?_
  refine E_aload_n rfl rfl ?_
  refine E_iload_n rfl rfl ?_
  refine E_iconst (x := nI 2) rfl (by decide) ?_
  refine E_iadd (z := nI (v + 2)) rfl (nI_add _ _) ?_
  refine E_tload (x := (xs.getD (v + 2) 0)) (j := v + 2) (t := 2) rfl (List.getElem?_eq_none (by have := wt_len x1; omega)) rfl (by decide) rfl (lw_neg (by omega)) (lw_cl (by omega)) (lw_at (by omega)) ?_
  refine E_aload_n rfl rfl ?_
  refine E_iload_n rfl rfl ?_
  refine E_iconst (x := nI 3) rfl (by decide) ?_
  refine E_iadd (z := nI (v + 3)) rfl (nI_add _ _) ?_
  refine E_tload (x := (xs.getD (v + 3) 0)) (j := v + 3) (t := 2) rfl (List.getElem?_eq_none (by have := wt_len x1; omega)) rfl (by decide) rfl (lw_neg (by omega)) (lw_cl (by omega)) (lw_at (by omega)) ?_
  refine E_callV (v := some (.int r)) (As := [.ref 65, .int (xs.getD (v + 1) 0), .int (xs.getD (v + 2) 0), .int (xs.getD (v + 3) 0)]) (r0 := []) (cs2 := (wt x2)) rfl rfl rfl (Nat.le_of_ble_eq_true rfl) rfl (lw_r65 _ _) hm (by decide) (by have := wt_len x; have := wt_len x1; have := wt_len x2; omega) ?_
  refine E_pop rfl rfl ?_
  refine E_goto (t := 1451) rfl rfl ?_
  exact K
theorem lw_1 {xs : List Int32} {v : Nat} (hv : v + 6 ≤ xs.length) (hl : xs.length ≤ 3072) {x x1 x2 : St} (h0 : (xs.getD v 0) &&& 63 = 1) {r : Int32} (hx : Ev ab_Z0 3 77 [.ref 0, .int (xs.getD (v + 1) 0), .int (xs.getD (v + 2) 0), .long ((((xs.getD (v + 3) 0).toInt64) <<< ((32 : Int32).toInt64 &&& 63)) ||| (((xs.getD (v + 4) 0).toInt64) &&& 4294967295))] (wt x) (some (.int r), wt x1)) (hm : Ev ab_Z0 2 136 [.ref 65, .int (xs.getD (v + 1) 0), .int (xs.getD (v + 2) 0), .long ((((xs.getD (v + 3) 0).toInt64) <<< ((32 : Int32).toInt64 &&& 63)) ||| (((xs.getD (v + 4) 0).toInt64) &&& 4294967295))] (wt x1) (some (.int r), wt x2)) {e : Option Value × List ab_C} (K : Ef (3, ab_Tb ++ [xs]) 41 mL_law (1451, [some (.ref 1000002), some (.ref 0), some (.ref 65), some (.int (nI v))], [], (wt x2)) e) : Ef (3, ab_Tb ++ [xs]) 41 mL_law (27, [some (.ref 1000002), some (.ref 0), some (.ref 65), some (.int (nI v))], [], (wt x)) e := by
  refine E_aload_n rfl rfl ?_
  refine E_iload_n rfl rfl ?_
  refine E_tload (x := (xs.getD v 0)) (j := v) (t := 2) rfl (List.getElem?_eq_none (by have := wt_len x; omega)) rfl (by decide) rfl (lw_neg (by omega)) (lw_cl (by omega)) (lw_at (by omega)) ?_
  refine E_bipush (x := 63) rfl (by decide) ?_
  refine E_iand (z := 1) rfl h0 ?_
  refine E_tsIn (off := 214) (t := 247) rfl (by decide) rfl rfl ?_
  refine E_aload_n rfl rfl ?_
  refine E_aload_n rfl rfl ?_
  refine E_iload_n rfl rfl ?_
  refine E_iconst (x := nI 1) rfl (by decide) ?_
  refine E_iadd (z := nI (v + 1)) rfl (nI_add _ _) ?_
  refine E_tload (x := (xs.getD (v + 1) 0)) (j := v + 1) (t := 2) rfl (List.getElem?_eq_none (by have := wt_len x; omega)) rfl (by decide) rfl (lw_neg (by omega)) (lw_cl (by omega)) (lw_at (by omega)) ?_
  refine E_aload_n rfl rfl ?_
  refine E_iload_n rfl rfl ?_
  refine E_iconst (x := nI 2) rfl (by decide) ?_
  refine E_iadd (z := nI (v + 2)) rfl (nI_add _ _) ?_
  refine E_tload (x := (xs.getD (v + 2) 0)) (j := v + 2) (t := 2) rfl (List.getElem?_eq_none (by have := wt_len x; omega)) rfl (by decide) rfl (lw_neg (by omega)) (lw_cl (by omega)) (lw_at (by omega)) ?_
  refine E_aload_n rfl rfl ?_
  refine E_iload_n rfl rfl ?_
  refine E_iconst (x := nI 3) rfl (by decide) ?_
  refine E_iadd (z := nI (v + 3)) rfl (nI_add _ _) ?_
  refine E_tload (x := (xs.getD (v + 3) 0)) (j := v + 3) (t := 2) rfl (List.getElem?_eq_none (by have := wt_len x; omega)) rfl (by decide) rfl (lw_neg (by omega)) (lw_cl (by omega)) (lw_at (by omega)) ?_
  refine E_i2l (z := ((xs.getD (v + 3) 0).toInt64)) rfl rfl ?_
  refine E_bipush (x := 32) rfl (by decide) ?_
  refine E_lshl (z := (((xs.getD (v + 3) 0).toInt64) <<< ((32 : Int32).toInt64 &&& 63))) rfl rfl ?_
  refine E_aload_n rfl rfl ?_
  refine E_iload_n rfl rfl ?_
  refine E_iconst (x := nI 4) rfl (by decide) ?_
  refine E_iadd (z := nI (v + 4)) rfl (nI_add _ _) ?_
  refine E_tload (x := (xs.getD (v + 4) 0)) (j := v + 4) (t := 2) rfl (List.getElem?_eq_none (by have := wt_len x; omega)) rfl (by decide) rfl (lw_neg (by omega)) (lw_cl (by omega)) (lw_at (by omega)) ?_
  refine E_i2l (z := ((xs.getD (v + 4) 0).toInt64)) rfl rfl ?_
  refine E_ldc2 (x := 4294967295) rfl (by decide) ?_
  refine E_land (z := (((xs.getD (v + 4) 0).toInt64) &&& 4294967295)) rfl rfl ?_
  refine E_lor (z := ((((xs.getD (v + 3) 0).toInt64) <<< ((32 : Int32).toInt64 &&& 63)) ||| (((xs.getD (v + 4) 0).toInt64) &&& 4294967295))) rfl rfl ?_
  refine E_callV (v := some (.int r)) (As := [.ref 0, .int (xs.getD (v + 1) 0), .int (xs.getD (v + 2) 0), .long ((((xs.getD (v + 3) 0).toInt64) <<< ((32 : Int32).toInt64 &&& 63)) ||| (((xs.getD (v + 4) 0).toInt64) &&& 4294967295))]) (r0 := []) (cs2 := (wt x1)) rfl rfl rfl (Nat.le_of_ble_eq_true rfl) rfl (lw_r0 _ _) hx (by decide) (by have := wt_len x; have := wt_len x1; have := wt_len x2; omega) ?_
  refine E_pop rfl rfl ?_
  refine E_aload_n rfl rfl ?_
  refine E_aload_n rfl rfl ?_
  refine E_iload_n rfl rfl ?_
  refine E_iconst (x := nI 1) rfl (by decide) ?_
  refine E_iadd (z := nI (v + 1)) rfl (nI_add _ _) ?_
  refine E_tload (x := (xs.getD (v + 1) 0)) (j := v + 1) (t := 2) rfl (List.getElem?_eq_none (by have := wt_len x1; omega)) rfl (by decide) rfl (lw_neg (by omega)) (lw_cl (by omega)) (lw_at (by omega)) ?_
  refine E_aload_n rfl rfl ?_
  refine E_iload_n rfl rfl ?_
  refine E_iconst (x := nI 2) rfl (by decide) ?_
  refine E_iadd (z := nI (v + 2)) rfl (nI_add _ _) ?_
  refine E_tload (x := (xs.getD (v + 2) 0)) (j := v + 2) (t := 2) rfl (List.getElem?_eq_none (by have := wt_len x1; omega)) rfl (by decide) rfl (lw_neg (by omega)) (lw_cl (by omega)) (lw_at (by omega)) ?_
  refine E_aload_n rfl rfl ?_
  refine E_iload_n rfl rfl ?_
  refine E_iconst (x := nI 3) rfl (by decide) ?_
  refine E_iadd (z := nI (v + 3)) rfl (nI_add _ _) ?_
  refine E_tload (x := (xs.getD (v + 3) 0)) (j := v + 3) (t := 2) rfl (List.getElem?_eq_none (by have := wt_len x1; omega)) rfl (by decide) rfl (lw_neg (by omega)) (lw_cl (by omega)) (lw_at (by omega)) ?_
  refine E_i2l (z := ((xs.getD (v + 3) 0).toInt64)) rfl rfl ?_
  refine E_bipush (x := 32) rfl (by decide) ?_
  refine E_lshl (z := (((xs.getD (v + 3) 0).toInt64) <<< ((32 : Int32).toInt64 &&& 63))) rfl rfl ?_
  refine E_aload_n rfl rfl ?_
  refine E_iload_n rfl rfl ?_
  refine E_iconst (x := nI 4) rfl (by decide) ?_
  refine E_iadd (z := nI (v + 4)) rfl (nI_add _ _) ?_
  refine E_tload (x := (xs.getD (v + 4) 0)) (j := v + 4) (t := 2) rfl (List.getElem?_eq_none (by have := wt_len x1; omega)) rfl (by decide) rfl (lw_neg (by omega)) (lw_cl (by omega)) (lw_at (by omega)) ?_
  refine E_i2l (z := ((xs.getD (v + 4) 0).toInt64)) rfl rfl ?_
  refine E_ldc2 (x := 4294967295) rfl (by decide) ?_
  refine E_land (z := (((xs.getD (v + 4) 0).toInt64) &&& 4294967295)) rfl rfl ?_
  refine E_lor (z := ((((xs.getD (v + 3) 0).toInt64) <<< ((32 : Int32).toInt64 &&& 63)) ||| (((xs.getD (v + 4) 0).toInt64) &&& 4294967295))) rfl rfl ?_
  refine E_callV (v := some (.int r)) (As := [.ref 65, .int (xs.getD (v + 1) 0), .int (xs.getD (v + 2) 0), .long ((((xs.getD (v + 3) 0).toInt64) <<< ((32 : Int32).toInt64 &&& 63)) ||| (((xs.getD (v + 4) 0).toInt64) &&& 4294967295))]) (r0 := []) (cs2 := (wt x2)) rfl rfl rfl (Nat.le_of_ble_eq_true rfl) rfl (lw_r65 _ _) hm (by decide) (by have := wt_len x; have := wt_len x1; have := wt_len x2; omega) ?_
  refine E_pop rfl rfl ?_
  refine E_goto (t := 1451) rfl rfl ?_
  exact K
theorem lw_2 {xs : List Int32} {v : Nat} (hv : v + 6 ≤ xs.length) (hl : xs.length ≤ 3072) {x x1 x2 : St} (h0 : (xs.getD v 0) &&& 63 = 2) {r : Int32} (hx : Ev ab_Z0 3 78 [.ref 0, .int (xs.getD (v + 1) 0), .int (xs.getD (v + 2) 0), .int (xs.getD (v + 3) 0), .int (xs.getD (v + 4) 0), .int (xs.getD (v + 5) 0)] (wt x) (some (.int r), wt x1)) (hm : Ev ab_Z0 2 137 [.ref 65, .int (xs.getD (v + 1) 0), .int (xs.getD (v + 2) 0), .int (xs.getD (v + 3) 0), .int (xs.getD (v + 4) 0), .int (xs.getD (v + 5) 0)] (wt x1) (some (.int r), wt x2)) {e : Option Value × List ab_C} (K : Ef (3, ab_Tb ++ [xs]) 41 mL_law (1451, [some (.ref 1000002), some (.ref 0), some (.ref 65), some (.int (nI v))], [], (wt x2)) e) : Ef (3, ab_Tb ++ [xs]) 41 mL_law (27, [some (.ref 1000002), some (.ref 0), some (.ref 65), some (.int (nI v))], [], (wt x)) e := by
  refine E_aload_n rfl rfl ?_
  refine E_iload_n rfl rfl ?_
  refine E_tload (x := (xs.getD v 0)) (j := v) (t := 2) rfl (List.getElem?_eq_none (by have := wt_len x; omega)) rfl (by decide) rfl (lw_neg (by omega)) (lw_cl (by omega)) (lw_at (by omega)) ?_
  refine E_bipush (x := 63) rfl (by decide) ?_
  refine E_iand (z := 2) rfl h0 ?_
  refine E_tsIn (off := 287) (t := 320) rfl (by decide) rfl rfl ?_
  refine E_aload_n rfl rfl ?_
  refine E_aload_n rfl rfl ?_
  refine E_iload_n rfl rfl ?_
  refine E_iconst (x := nI 1) rfl (by decide) ?_
  refine E_iadd (z := nI (v + 1)) rfl (nI_add _ _) ?_
  refine E_tload (x := (xs.getD (v + 1) 0)) (j := v + 1) (t := 2) rfl (List.getElem?_eq_none (by have := wt_len x; omega)) rfl (by decide) rfl (lw_neg (by omega)) (lw_cl (by omega)) (lw_at (by omega)) ?_
  refine E_aload_n rfl rfl ?_
  refine E_iload_n rfl rfl ?_
  refine E_iconst (x := nI 2) rfl (by decide) ?_
  refine E_iadd (z := nI (v + 2)) rfl (nI_add _ _) ?_
  refine E_tload (x := (xs.getD (v + 2) 0)) (j := v + 2) (t := 2) rfl (List.getElem?_eq_none (by have := wt_len x; omega)) rfl (by decide) rfl (lw_neg (by omega)) (lw_cl (by omega)) (lw_at (by omega)) ?_
  refine E_aload_n rfl rfl ?_
  refine E_iload_n rfl rfl ?_
  refine E_iconst (x := nI 3) rfl (by decide) ?_
  refine E_iadd (z := nI (v + 3)) rfl (nI_add _ _) ?_
  refine E_tload (x := (xs.getD (v + 3) 0)) (j := v + 3) (t := 2) rfl (List.getElem?_eq_none (by have := wt_len x; omega)) rfl (by decide) rfl (lw_neg (by omega)) (lw_cl (by omega)) (lw_at (by omega)) ?_
  refine E_aload_n rfl rfl ?_
  refine E_iload_n rfl rfl ?_
  refine E_iconst (x := nI 4) rfl (by decide) ?_
  refine E_iadd (z := nI (v + 4)) rfl (nI_add _ _) ?_
  refine E_tload (x := (xs.getD (v + 4) 0)) (j := v + 4) (t := 2) rfl (List.getElem?_eq_none (by have := wt_len x; omega)) rfl (by decide) rfl (lw_neg (by omega)) (lw_cl (by omega)) (lw_at (by omega)) ?_
  refine E_aload_n rfl rfl ?_
  refine E_iload_n rfl rfl ?_
  refine E_iconst (x := nI 5) rfl (by decide) ?_
  refine E_iadd (z := nI (v + 5)) rfl (nI_add _ _) ?_
  refine E_tload (x := (xs.getD (v + 5) 0)) (j := v + 5) (t := 2) rfl (List.getElem?_eq_none (by have := wt_len x; omega)) rfl (by decide) rfl (lw_neg (by omega)) (lw_cl (by omega)) (lw_at (by omega)) ?_
  refine E_callV (v := some (.int r)) (As := [.ref 0, .int (xs.getD (v + 1) 0), .int (xs.getD (v + 2) 0), .int (xs.getD (v + 3) 0), .int (xs.getD (v + 4) 0), .int (xs.getD (v + 5) 0)]) (r0 := []) (cs2 := (wt x1)) rfl rfl rfl (Nat.le_of_ble_eq_true rfl) rfl (lw_r0 _ _) hx (by decide) (by have := wt_len x; have := wt_len x1; have := wt_len x2; omega) ?_
  refine E_pop rfl rfl ?_
  refine E_aload_n rfl rfl ?_
  refine E_aload_n rfl rfl ?_
  refine E_iload_n rfl rfl ?_
  refine E_iconst (x := nI 1) rfl (by decide) ?_
  refine E_iadd (z := nI (v + 1)) rfl (nI_add _ _) ?_
  refine E_tload (x := (xs.getD (v + 1) 0)) (j := v + 1) (t := 2) rfl (List.getElem?_eq_none (by have := wt_len x1; omega)) rfl (by decide) rfl (lw_neg (by omega)) (lw_cl (by omega)) (lw_at (by omega)) ?_
  refine E_aload_n rfl rfl ?_
  refine E_iload_n rfl rfl ?_
  refine E_iconst (x := nI 2) rfl (by decide) ?_
  refine E_iadd (z := nI (v + 2)) rfl (nI_add _ _) ?_
  refine E_tload (x := (xs.getD (v + 2) 0)) (j := v + 2) (t := 2) rfl (List.getElem?_eq_none (by have := wt_len x1; omega)) rfl (by decide) rfl (lw_neg (by omega)) (lw_cl (by omega)) (lw_at (by omega)) ?_
  refine E_aload_n rfl rfl ?_
  refine E_iload_n rfl rfl ?_
  refine E_iconst (x := nI 3) rfl (by decide) ?_
  refine E_iadd (z := nI (v + 3)) rfl (nI_add _ _) ?_
  refine E_tload (x := (xs.getD (v + 3) 0)) (j := v + 3) (t := 2) rfl (List.getElem?_eq_none (by have := wt_len x1; omega)) rfl (by decide) rfl (lw_neg (by omega)) (lw_cl (by omega)) (lw_at (by omega)) ?_
  refine E_aload_n rfl rfl ?_
  refine E_iload_n rfl rfl ?_
  refine E_iconst (x := nI 4) rfl (by decide) ?_
  refine E_iadd (z := nI (v + 4)) rfl (nI_add _ _) ?_
  refine E_tload (x := (xs.getD (v + 4) 0)) (j := v + 4) (t := 2) rfl (List.getElem?_eq_none (by have := wt_len x1; omega)) rfl (by decide) rfl (lw_neg (by omega)) (lw_cl (by omega)) (lw_at (by omega)) ?_
  refine E_aload_n rfl rfl ?_
  refine E_iload_n rfl rfl ?_
  refine E_iconst (x := nI 5) rfl (by decide) ?_
  refine E_iadd (z := nI (v + 5)) rfl (nI_add _ _) ?_
  refine E_tload (x := (xs.getD (v + 5) 0)) (j := v + 5) (t := 2) rfl (List.getElem?_eq_none (by have := wt_len x1; omega)) rfl (by decide) rfl (lw_neg (by omega)) (lw_cl (by omega)) (lw_at (by omega)) ?_
  refine E_callV (v := some (.int r)) (As := [.ref 65, .int (xs.getD (v + 1) 0), .int (xs.getD (v + 2) 0), .int (xs.getD (v + 3) 0), .int (xs.getD (v + 4) 0), .int (xs.getD (v + 5) 0)]) (r0 := []) (cs2 := (wt x2)) rfl rfl rfl (Nat.le_of_ble_eq_true rfl) rfl (lw_r65 _ _) hm (by decide) (by have := wt_len x; have := wt_len x1; have := wt_len x2; omega) ?_
  refine E_pop rfl rfl ?_
  refine E_goto (t := 1451) rfl rfl ?_
  exact K
theorem lw_3 {xs : List Int32} {v : Nat} (hv : v + 6 ≤ xs.length) (hl : xs.length ≤ 3072) {x x1 x2 : St} (h0 : (xs.getD v 0) &&& 63 = 3) {r : Int64} (hx : Ev ab_Z0 3 79 [.ref 0, .int (xs.getD (v + 1) 0), .int (xs.getD (v + 2) 0)] (wt x) (some (.long r), wt x1)) (hm : Ev ab_Z0 2 138 [.ref 65, .int (xs.getD (v + 1) 0), .int (xs.getD (v + 2) 0)] (wt x1) (some (.long r), wt x2)) {e : Option Value × List ab_C} (K : Ef (3, ab_Tb ++ [xs]) 41 mL_law (1451, [some (.ref 1000002), some (.ref 0), some (.ref 65), some (.int (nI v))], [], (wt x2)) e) : Ef (3, ab_Tb ++ [xs]) 41 mL_law (27, [some (.ref 1000002), some (.ref 0), some (.ref 65), some (.int (nI v))], [], (wt x)) e := by
  refine E_aload_n rfl rfl ?_
  refine E_iload_n rfl rfl ?_
  refine E_tload (x := (xs.getD v 0)) (j := v) (t := 2) rfl (List.getElem?_eq_none (by have := wt_len x; omega)) rfl (by decide) rfl (lw_neg (by omega)) (lw_cl (by omega)) (lw_at (by omega)) ?_
  refine E_bipush (x := 63) rfl (by decide) ?_
  refine E_iand (z := 3) rfl h0 ?_
  refine E_tsIn (off := 350) (t := 383) rfl (by decide) rfl rfl ?_
  refine E_aload_n rfl rfl ?_
  refine E_aload_n rfl rfl ?_
  refine E_iload_n rfl rfl ?_
  refine E_iconst (x := nI 1) rfl (by decide) ?_
  refine E_iadd (z := nI (v + 1)) rfl (nI_add _ _) ?_
  refine E_tload (x := (xs.getD (v + 1) 0)) (j := v + 1) (t := 2) rfl (List.getElem?_eq_none (by have := wt_len x; omega)) rfl (by decide) rfl (lw_neg (by omega)) (lw_cl (by omega)) (lw_at (by omega)) ?_
  refine E_aload_n rfl rfl ?_
  refine E_iload_n rfl rfl ?_
  refine E_iconst (x := nI 2) rfl (by decide) ?_
  refine E_iadd (z := nI (v + 2)) rfl (nI_add _ _) ?_
  refine E_tload (x := (xs.getD (v + 2) 0)) (j := v + 2) (t := 2) rfl (List.getElem?_eq_none (by have := wt_len x; omega)) rfl (by decide) rfl (lw_neg (by omega)) (lw_cl (by omega)) (lw_at (by omega)) ?_
  refine E_callV (v := some (.long r)) (As := [.ref 0, .int (xs.getD (v + 1) 0), .int (xs.getD (v + 2) 0)]) (r0 := []) (cs2 := (wt x1)) rfl rfl rfl (Nat.le_of_ble_eq_true rfl) rfl (lw_r0 _ _) hx (by decide) (by have := wt_len x; have := wt_len x1; have := wt_len x2; omega) ?_
  refine E_pop2 rfl rfl ?_
  refine E_aload_n rfl rfl ?_
  refine E_aload_n rfl rfl ?_
  refine E_iload_n rfl rfl ?_
  refine E_iconst (x := nI 1) rfl (by decide) ?_
  refine E_iadd (z := nI (v + 1)) rfl (nI_add _ _) ?_
  refine E_tload (x := (xs.getD (v + 1) 0)) (j := v + 1) (t := 2) rfl (List.getElem?_eq_none (by have := wt_len x1; omega)) rfl (by decide) rfl (lw_neg (by omega)) (lw_cl (by omega)) (lw_at (by omega)) ?_
  refine E_aload_n rfl rfl ?_
  refine E_iload_n rfl rfl ?_
  refine E_iconst (x := nI 2) rfl (by decide) ?_
  refine E_iadd (z := nI (v + 2)) rfl (nI_add _ _) ?_
  refine E_tload (x := (xs.getD (v + 2) 0)) (j := v + 2) (t := 2) rfl (List.getElem?_eq_none (by have := wt_len x1; omega)) rfl (by decide) rfl (lw_neg (by omega)) (lw_cl (by omega)) (lw_at (by omega)) ?_
  refine E_callV (v := some (.long r)) (As := [.ref 65, .int (xs.getD (v + 1) 0), .int (xs.getD (v + 2) 0)]) (r0 := []) (cs2 := (wt x2)) rfl rfl rfl (Nat.le_of_ble_eq_true rfl) rfl (lw_r65 _ _) hm (by decide) (by have := wt_len x; have := wt_len x1; have := wt_len x2; omega) ?_
  refine E_pop2 rfl rfl ?_
  refine E_goto (t := 1451) rfl rfl ?_
  exact K
theorem lw_4 {xs : List Int32} {v : Nat} (hv : v + 6 ≤ xs.length) (hl : xs.length ≤ 3072) {x x1 x2 : St} (h0 : (xs.getD v 0) &&& 63 = 4) {r : Int32} (hx : Ev ab_Z0 3 80 [.ref 0, .int (xs.getD (v + 1) 0), .int (xs.getD (v + 2) 0)] (wt x) (some (.int r), wt x1)) (hm : Ev ab_Z0 2 139 [.ref 65, .int (xs.getD (v + 1) 0), .int (xs.getD (v + 2) 0)] (wt x1) (some (.int r), wt x2)) {e : Option Value × List ab_C} (K : Ef (3, ab_Tb ++ [xs]) 41 mL_law (1451, [some (.ref 1000002), some (.ref 0), some (.ref 65), some (.int (nI v))], [], (wt x2)) e) : Ef (3, ab_Tb ++ [xs]) 41 mL_law (27, [some (.ref 1000002), some (.ref 0), some (.ref 65), some (.int (nI v))], [], (wt x)) e := by
  refine E_aload_n rfl rfl ?_
  refine E_iload_n rfl rfl ?_
  refine E_tload (x := (xs.getD v 0)) (j := v) (t := 2) rfl (List.getElem?_eq_none (by have := wt_len x; omega)) rfl (by decide) rfl (lw_neg (by omega)) (lw_cl (by omega)) (lw_at (by omega)) ?_
  refine E_bipush (x := 63) rfl (by decide) ?_
  refine E_iand (z := 4) rfl h0 ?_
  refine E_tsIn (off := 383) (t := 416) rfl (by decide) rfl rfl ?_
  refine E_aload_n rfl rfl ?_
  refine E_aload_n rfl rfl ?_
  refine E_iload_n rfl rfl ?_
  refine E_iconst (x := nI 1) rfl (by decide) ?_
  refine E_iadd (z := nI (v + 1)) rfl (nI_add _ _) ?_
  refine E_tload (x := (xs.getD (v + 1) 0)) (j := v + 1) (t := 2) rfl (List.getElem?_eq_none (by have := wt_len x; omega)) rfl (by decide) rfl (lw_neg (by omega)) (lw_cl (by omega)) (lw_at (by omega)) ?_
  refine E_aload_n rfl rfl ?_
  refine E_iload_n rfl rfl ?_
  refine E_iconst (x := nI 2) rfl (by decide) ?_
  refine E_iadd (z := nI (v + 2)) rfl (nI_add _ _) ?_
  refine E_tload (x := (xs.getD (v + 2) 0)) (j := v + 2) (t := 2) rfl (List.getElem?_eq_none (by have := wt_len x; omega)) rfl (by decide) rfl (lw_neg (by omega)) (lw_cl (by omega)) (lw_at (by omega)) ?_
  refine E_callV (v := some (.int r)) (As := [.ref 0, .int (xs.getD (v + 1) 0), .int (xs.getD (v + 2) 0)]) (r0 := []) (cs2 := (wt x1)) rfl rfl rfl (Nat.le_of_ble_eq_true rfl) rfl (lw_r0 _ _) hx (by decide) (by have := wt_len x; have := wt_len x1; have := wt_len x2; omega) ?_
  refine E_pop rfl rfl ?_
  refine E_aload_n rfl rfl ?_
  refine E_aload_n rfl rfl ?_
  refine E_iload_n rfl rfl ?_
  refine E_iconst (x := nI 1) rfl (by decide) ?_
  refine E_iadd (z := nI (v + 1)) rfl (nI_add _ _) ?_
  refine E_tload (x := (xs.getD (v + 1) 0)) (j := v + 1) (t := 2) rfl (List.getElem?_eq_none (by have := wt_len x1; omega)) rfl (by decide) rfl (lw_neg (by omega)) (lw_cl (by omega)) (lw_at (by omega)) ?_
  refine E_aload_n rfl rfl ?_
  refine E_iload_n rfl rfl ?_
  refine E_iconst (x := nI 2) rfl (by decide) ?_
  refine E_iadd (z := nI (v + 2)) rfl (nI_add _ _) ?_
  refine E_tload (x := (xs.getD (v + 2) 0)) (j := v + 2) (t := 2) rfl (List.getElem?_eq_none (by have := wt_len x1; omega)) rfl (by decide) rfl (lw_neg (by omega)) (lw_cl (by omega)) (lw_at (by omega)) ?_
  refine E_callV (v := some (.int r)) (As := [.ref 65, .int (xs.getD (v + 1) 0), .int (xs.getD (v + 2) 0)]) (r0 := []) (cs2 := (wt x2)) rfl rfl rfl (Nat.le_of_ble_eq_true rfl) rfl (lw_r65 _ _) hm (by decide) (by have := wt_len x; have := wt_len x1; have := wt_len x2; omega) ?_
  refine E_pop rfl rfl ?_
  refine E_goto (t := 1451) rfl rfl ?_
  exact K
theorem lw_5 {xs : List Int32} {v : Nat} (hv : v + 6 ≤ xs.length) (hl : xs.length ≤ 3072) {x x1 x2 : St} (h0 : (xs.getD v 0) &&& 63 = 5) {r : Int32} (hx : Ev ab_Z0 2 81 [.ref 0, .int (xs.getD (v + 1) 0)] (wt x) (some (.int r), wt x1)) (hm : Ev ab_Z0 2 140 [.ref 65, .int (xs.getD (v + 1) 0)] (wt x1) (some (.int r), wt x2)) {e : Option Value × List ab_C} (K : Ef (3, ab_Tb ++ [xs]) 41 mL_law (1451, [some (.ref 1000002), some (.ref 0), some (.ref 65), some (.int (nI v))], [], (wt x2)) e) : Ef (3, ab_Tb ++ [xs]) 41 mL_law (27, [some (.ref 1000002), some (.ref 0), some (.ref 65), some (.int (nI v))], [], (wt x)) e := by
  refine E_aload_n rfl rfl ?_
  refine E_iload_n rfl rfl ?_
  refine E_tload (x := (xs.getD v 0)) (j := v) (t := 2) rfl (List.getElem?_eq_none (by have := wt_len x; omega)) rfl (by decide) rfl (lw_neg (by omega)) (lw_cl (by omega)) (lw_at (by omega)) ?_
  refine E_bipush (x := 63) rfl (by decide) ?_
  refine E_iand (z := 5) rfl h0 ?_
  refine E_tsIn (off := 416) (t := 449) rfl (by decide) rfl rfl ?_
  refine E_aload_n rfl rfl ?_
  refine E_aload_n rfl rfl ?_
  refine E_iload_n rfl rfl ?_
  refine E_iconst (x := nI 1) rfl (by decide) ?_
  refine E_iadd (z := nI (v + 1)) rfl (nI_add _ _) ?_
  refine E_tload (x := (xs.getD (v + 1) 0)) (j := v + 1) (t := 2) rfl (List.getElem?_eq_none (by have := wt_len x; omega)) rfl (by decide) rfl (lw_neg (by omega)) (lw_cl (by omega)) (lw_at (by omega)) ?_
  refine E_callV (v := some (.int r)) (As := [.ref 0, .int (xs.getD (v + 1) 0)]) (r0 := []) (cs2 := (wt x1)) rfl rfl rfl (Nat.le_of_ble_eq_true rfl) rfl (lw_r0 _ _) hx (by decide) (by have := wt_len x; have := wt_len x1; have := wt_len x2; omega) ?_
  refine E_pop rfl rfl ?_
  refine E_aload_n rfl rfl ?_
  refine E_aload_n rfl rfl ?_
  refine E_iload_n rfl rfl ?_
  refine E_iconst (x := nI 1) rfl (by decide) ?_
  refine E_iadd (z := nI (v + 1)) rfl (nI_add _ _) ?_
  refine E_tload (x := (xs.getD (v + 1) 0)) (j := v + 1) (t := 2) rfl (List.getElem?_eq_none (by have := wt_len x1; omega)) rfl (by decide) rfl (lw_neg (by omega)) (lw_cl (by omega)) (lw_at (by omega)) ?_
  refine E_callV (v := some (.int r)) (As := [.ref 65, .int (xs.getD (v + 1) 0)]) (r0 := []) (cs2 := (wt x2)) rfl rfl rfl (Nat.le_of_ble_eq_true rfl) rfl (lw_r65 _ _) hm (by decide) (by have := wt_len x; have := wt_len x1; have := wt_len x2; omega) ?_
  refine E_pop rfl rfl ?_
  refine E_goto (t := 1451) rfl rfl ?_
  exact K
theorem lw_6 {xs : List Int32} {v : Nat} (hv : v + 6 ≤ xs.length) (hl : xs.length ≤ 3072) {x x1 x2 : St} (h0 : (xs.getD v 0) &&& 63 = 6) {r : Int32} (hx : Ev ab_Z0 3 82 [.ref 0, .int (xs.getD (v + 1) 0), .int (xs.getD (v + 2) 0)] (wt x) (some (.int r), wt x1)) (hm : Ev ab_Z0 2 141 [.ref 65, .int (xs.getD (v + 1) 0), .int (xs.getD (v + 2) 0)] (wt x1) (some (.int r), wt x2)) {e : Option Value × List ab_C} (K : Ef (3, ab_Tb ++ [xs]) 41 mL_law (1451, [some (.ref 1000002), some (.ref 0), some (.ref 65), some (.int (nI v))], [], (wt x2)) e) : Ef (3, ab_Tb ++ [xs]) 41 mL_law (27, [some (.ref 1000002), some (.ref 0), some (.ref 65), some (.int (nI v))], [], (wt x)) e := by
  refine E_aload_n rfl rfl ?_
  refine E_iload_n rfl rfl ?_
  refine E_tload (x := (xs.getD v 0)) (j := v) (t := 2) rfl (List.getElem?_eq_none (by have := wt_len x; omega)) rfl (by decide) rfl (lw_neg (by omega)) (lw_cl (by omega)) (lw_at (by omega)) ?_
  refine E_bipush (x := 63) rfl (by decide) ?_
  refine E_iand (z := 6) rfl h0 ?_
  refine E_tsIn (off := 439) (t := 472) rfl (by decide) rfl rfl ?_
  refine E_aload_n rfl rfl ?_
  refine E_aload_n rfl rfl ?_
  refine E_iload_n rfl rfl ?_
  refine E_iconst (x := nI 1) rfl (by decide) ?_
  refine E_iadd (z := nI (v + 1)) rfl (nI_add _ _) ?_
  refine E_tload (x := (xs.getD (v + 1) 0)) (j := v + 1) (t := 2) rfl (List.getElem?_eq_none (by have := wt_len x; omega)) rfl (by decide) rfl (lw_neg (by omega)) (lw_cl (by omega)) (lw_at (by omega)) ?_
  refine E_aload_n rfl rfl ?_
  refine E_iload_n rfl rfl ?_
  refine E_iconst (x := nI 2) rfl (by decide) ?_
  refine E_iadd (z := nI (v + 2)) rfl (nI_add _ _) ?_
  refine E_tload (x := (xs.getD (v + 2) 0)) (j := v + 2) (t := 2) rfl (List.getElem?_eq_none (by have := wt_len x; omega)) rfl (by decide) rfl (lw_neg (by omega)) (lw_cl (by omega)) (lw_at (by omega)) ?_
  refine E_callV (v := some (.int r)) (As := [.ref 0, .int (xs.getD (v + 1) 0), .int (xs.getD (v + 2) 0)]) (r0 := []) (cs2 := (wt x1)) rfl rfl rfl (Nat.le_of_ble_eq_true rfl) rfl (lw_r0 _ _) hx (by decide) (by have := wt_len x; have := wt_len x1; have := wt_len x2; omega) ?_
  refine E_pop rfl rfl ?_
  refine E_aload_n rfl rfl ?_
  refine E_aload_n rfl rfl ?_
  refine E_iload_n rfl rfl ?_
  refine E_iconst (x := nI 1) rfl (by decide) ?_
  refine E_iadd (z := nI (v + 1)) rfl (nI_add _ _) ?_
  refine E_tload (x := (xs.getD (v + 1) 0)) (j := v + 1) (t := 2) rfl (List.getElem?_eq_none (by have := wt_len x1; omega)) rfl (by decide) rfl (lw_neg (by omega)) (lw_cl (by omega)) (lw_at (by omega)) ?_
  refine E_aload_n rfl rfl ?_
  refine E_iload_n rfl rfl ?_
  refine E_iconst (x := nI 2) rfl (by decide) ?_
  refine E_iadd (z := nI (v + 2)) rfl (nI_add _ _) ?_
  refine E_tload (x := (xs.getD (v + 2) 0)) (j := v + 2) (t := 2) rfl (List.getElem?_eq_none (by have := wt_len x1; omega)) rfl (by decide) rfl (lw_neg (by omega)) (lw_cl (by omega)) (lw_at (by omega)) ?_
  refine E_callV (v := some (.int r)) (As := [.ref 65, .int (xs.getD (v + 1) 0), .int (xs.getD (v + 2) 0)]) (r0 := []) (cs2 := (wt x2)) rfl rfl rfl (Nat.le_of_ble_eq_true rfl) rfl (lw_r65 _ _) hm (by decide) (by have := wt_len x; have := wt_len x1; have := wt_len x2; omega) ?_
  refine E_pop rfl rfl ?_
  refine E_goto (t := 1451) rfl rfl ?_
  exact K
theorem lw_7 {xs : List Int32} {v : Nat} (hv : v + 6 ≤ xs.length) (hl : xs.length ≤ 3072) {x x1 x2 : St} (h0 : (xs.getD v 0) &&& 63 = 7) {r : Int32} (hx : Ev ab_Z0 3 83 [.ref 0, .int (xs.getD (v + 1) 0), .int (xs.getD (v + 2) 0), .int (xs.getD (v + 3) 0)] (wt x) (some (.int r), wt x1)) (hm : Ev ab_Z0 2 148 [.ref 65, .int (xs.getD (v + 1) 0), .int (xs.getD (v + 2) 0), .int (xs.getD (v + 3) 0)] (wt x1) (some (.int r), wt x2)) {e : Option Value × List ab_C} (K : Ef (3, ab_Tb ++ [xs]) 41 mL_law (1451, [some (.ref 1000002), some (.ref 0), some (.ref 65), some (.int (nI v))], [], (wt x2)) e) : Ef (3, ab_Tb ++ [xs]) 41 mL_law (27, [some (.ref 1000002), some (.ref 0), some (.ref 65), some (.int (nI v))], [], (wt x)) e := by
  refine E_aload_n rfl rfl ?_
  refine E_iload_n rfl rfl ?_
  refine E_tload (x := (xs.getD v 0)) (j := v) (t := 2) rfl (List.getElem?_eq_none (by have := wt_len x; omega)) rfl (by decide) rfl (lw_neg (by omega)) (lw_cl (by omega)) (lw_at (by omega)) ?_
  refine E_bipush (x := 63) rfl (by decide) ?_
  refine E_iand (z := 7) rfl h0 ?_
  refine E_tsIn (off := 472) (t := 505) rfl (by decide) rfl rfl ?_
  refine E_aload_n rfl rfl ?_
  refine E_aload_n rfl rfl ?_
  refine E_iload_n rfl rfl ?_
  refine E_iconst (x := nI 1) rfl (by decide) ?_
  refine E_iadd (z := nI (v + 1)) rfl (nI_add _ _) ?_
  refine E_tload (x := (xs.getD (v + 1) 0)) (j := v + 1) (t := 2) rfl (List.getElem?_eq_none (by have := wt_len x; omega)) rfl (by decide) rfl (lw_neg (by omega)) (lw_cl (by omega)) (lw_at (by omega)) ?_
  refine E_aload_n rfl rfl ?_
  refine E_iload_n rfl rfl ?_
  refine E_iconst (x := nI 2) rfl (by decide) ?_
  refine E_iadd (z := nI (v + 2)) rfl (nI_add _ _) ?_
  refine E_tload (x := (xs.getD (v + 2) 0)) (j := v + 2) (t := 2) rfl (List.getElem?_eq_none (by have := wt_len x; omega)) rfl (by decide) rfl (lw_neg (by omega)) (lw_cl (by omega)) (lw_at (by omega)) ?_
  refine E_aload_n rfl rfl ?_
  refine E_iload_n rfl rfl ?_
  refine E_iconst (x := nI 3) rfl (by decide) ?_
  refine E_iadd (z := nI (v + 3)) rfl (nI_add _ _) ?_
  refine E_tload (x := (xs.getD (v + 3) 0)) (j := v + 3) (t := 2) rfl (List.getElem?_eq_none (by have := wt_len x; omega)) rfl (by decide) rfl (lw_neg (by omega)) (lw_cl (by omega)) (lw_at (by omega)) ?_
  refine E_callV (v := some (.int r)) (As := [.ref 0, .int (xs.getD (v + 1) 0), .int (xs.getD (v + 2) 0), .int (xs.getD (v + 3) 0)]) (r0 := []) (cs2 := (wt x1)) rfl rfl rfl (Nat.le_of_ble_eq_true rfl) rfl (lw_r0 _ _) hx (by decide) (by have := wt_len x; have := wt_len x1; have := wt_len x2; omega) ?_
  refine E_pop rfl rfl ?_
  refine E_aload_n rfl rfl ?_
  refine E_aload_n rfl rfl ?_
  refine E_iload_n rfl rfl ?_
  refine E_iconst (x := nI 1) rfl (by decide) ?_
  refine E_iadd (z := nI (v + 1)) rfl (nI_add _ _) ?_
  refine E_tload (x := (xs.getD (v + 1) 0)) (j := v + 1) (t := 2) rfl (List.getElem?_eq_none (by have := wt_len x1; omega)) rfl (by decide) rfl (lw_neg (by omega)) (lw_cl (by omega)) (lw_at (by omega)) ?_
  refine E_aload_n rfl rfl ?_
  refine E_iload_n rfl rfl ?_
  refine E_iconst (x := nI 2) rfl (by decide) ?_
  refine E_iadd (z := nI (v + 2)) rfl (nI_add _ _) ?_
  refine E_tload (x := (xs.getD (v + 2) 0)) (j := v + 2) (t := 2) rfl (List.getElem?_eq_none (by have := wt_len x1; omega)) rfl (by decide) rfl (lw_neg (by omega)) (lw_cl (by omega)) (lw_at (by omega)) ?_
  refine E_aload_n rfl rfl ?_
  refine E_iload_n rfl rfl ?_
  refine E_iconst (x := nI 3) rfl (by decide) ?_
  refine E_iadd (z := nI (v + 3)) rfl (nI_add _ _) ?_
  refine E_tload (x := (xs.getD (v + 3) 0)) (j := v + 3) (t := 2) rfl (List.getElem?_eq_none (by have := wt_len x1; omega)) rfl (by decide) rfl (lw_neg (by omega)) (lw_cl (by omega)) (lw_at (by omega)) ?_
  refine E_callV (v := some (.int r)) (As := [.ref 65, .int (xs.getD (v + 1) 0), .int (xs.getD (v + 2) 0), .int (xs.getD (v + 3) 0)]) (r0 := []) (cs2 := (wt x2)) rfl rfl rfl (Nat.le_of_ble_eq_true rfl) rfl (lw_r65 _ _) hm (by decide) (by have := wt_len x; have := wt_len x1; have := wt_len x2; omega) ?_
  refine E_pop rfl rfl ?_
  refine E_goto (t := 1451) rfl rfl ?_
  exact K
theorem lw_8 {xs : List Int32} {v : Nat} (hv : v + 6 ≤ xs.length) (hl : xs.length ≤ 3072) {x x1 x2 : St} (h0 : (xs.getD v 0) &&& 63 = 8) {r : Int32} (hx : Ev ab_Z0 3 84 [.ref 0, .int (xs.getD (v + 1) 0), .int (xs.getD (v + 2) 0), .int (xs.getD (v + 3) 0)] (wt x) (some (.int r), wt x1)) (hm : Ev ab_Z0 2 149 [.ref 65, .int (xs.getD (v + 1) 0), .int (xs.getD (v + 2) 0), .int (xs.getD (v + 3) 0)] (wt x1) (some (.int r), wt x2)) {e : Option Value × List ab_C} (K : Ef (3, ab_Tb ++ [xs]) 41 mL_law (1451, [some (.ref 1000002), some (.ref 0), some (.ref 65), some (.int (nI v))], [], (wt x2)) e) : Ef (3, ab_Tb ++ [xs]) 41 mL_law (27, [some (.ref 1000002), some (.ref 0), some (.ref 65), some (.int (nI v))], [], (wt x)) e := by
  refine E_aload_n rfl rfl ?_
  refine E_iload_n rfl rfl ?_
  refine E_tload (x := (xs.getD v 0)) (j := v) (t := 2) rfl (List.getElem?_eq_none (by have := wt_len x; omega)) rfl (by decide) rfl (lw_neg (by omega)) (lw_cl (by omega)) (lw_at (by omega)) ?_
  refine E_bipush (x := 63) rfl (by decide) ?_
  refine E_iand (z := 8) rfl h0 ?_
  refine E_tsIn (off := 515) (t := 548) rfl (by decide) rfl rfl ?_
  refine E_aload_n rfl rfl ?_
  refine E_aload_n rfl rfl ?_
  refine E_iload_n rfl rfl ?_
  refine E_iconst (x := nI 1) rfl (by decide) ?_
  refine E_iadd (z := nI (v + 1)) rfl (nI_add _ _) ?_
  refine E_tload (x := (xs.getD (v + 1) 0)) (j := v + 1) (t := 2) rfl (List.getElem?_eq_none (by have := wt_len x; omega)) rfl (by decide) rfl (lw_neg (by omega)) (lw_cl (by omega)) (lw_at (by omega)) ?_
  refine E_aload_n rfl rfl ?_
  refine E_iload_n rfl rfl ?_
  refine E_iconst (x := nI 2) rfl (by decide) ?_
  refine E_iadd (z := nI (v + 2)) rfl (nI_add _ _) ?_
  refine E_tload (x := (xs.getD (v + 2) 0)) (j := v + 2) (t := 2) rfl (List.getElem?_eq_none (by have := wt_len x; omega)) rfl (by decide) rfl (lw_neg (by omega)) (lw_cl (by omega)) (lw_at (by omega)) ?_
  refine E_aload_n rfl rfl ?_
  refine E_iload_n rfl rfl ?_
  refine E_iconst (x := nI 3) rfl (by decide) ?_
  refine E_iadd (z := nI (v + 3)) rfl (nI_add _ _) ?_
  refine E_tload (x := (xs.getD (v + 3) 0)) (j := v + 3) (t := 2) rfl (List.getElem?_eq_none (by have := wt_len x; omega)) rfl (by decide) rfl (lw_neg (by omega)) (lw_cl (by omega)) (lw_at (by omega)) ?_
  refine E_callV (v := some (.int r)) (As := [.ref 0, .int (xs.getD (v + 1) 0), .int (xs.getD (v + 2) 0), .int (xs.getD (v + 3) 0)]) (r0 := []) (cs2 := (wt x1)) rfl rfl rfl (Nat.le_of_ble_eq_true rfl) rfl (lw_r0 _ _) hx (by decide) (by have := wt_len x; have := wt_len x1; have := wt_len x2; omega) ?_
  refine E_pop rfl rfl ?_
  refine E_aload_n rfl rfl ?_
  refine E_aload_n rfl rfl ?_
  refine E_iload_n rfl rfl ?_
  refine E_iconst (x := nI 1) rfl (by decide) ?_
  refine E_iadd (z := nI (v + 1)) rfl (nI_add _ _) ?_
  refine E_tload (x := (xs.getD (v + 1) 0)) (j := v + 1) (t := 2) rfl (List.getElem?_eq_none (by have := wt_len x1; omega)) rfl (by decide) rfl (lw_neg (by omega)) (lw_cl (by omega)) (lw_at (by omega)) ?_
  refine E_aload_n rfl rfl ?_
  refine E_iload_n rfl rfl ?_
  refine E_iconst (x := nI 2) rfl (by decide) ?_
  refine E_iadd (z := nI (v + 2)) rfl (nI_add _ _) ?_
  refine E_tload (x := (xs.getD (v + 2) 0)) (j := v + 2) (t := 2) rfl (List.getElem?_eq_none (by have := wt_len x1; omega)) rfl (by decide) rfl (lw_neg (by omega)) (lw_cl (by omega)) (lw_at (by omega)) ?_
  refine E_aload_n rfl rfl ?_
  refine E_iload_n rfl rfl ?_
  refine E_iconst (x := nI 3) rfl (by decide) ?_
  refine E_iadd (z := nI (v + 3)) rfl (nI_add _ _) ?_
  refine E_tload (x := (xs.getD (v + 3) 0)) (j := v + 3) (t := 2) rfl (List.getElem?_eq_none (by have := wt_len x1; omega)) rfl (by decide) rfl (lw_neg (by omega)) (lw_cl (by omega)) (lw_at (by omega)) ?_
  refine E_callV (v := some (.int r)) (As := [.ref 65, .int (xs.getD (v + 1) 0), .int (xs.getD (v + 2) 0), .int (xs.getD (v + 3) 0)]) (r0 := []) (cs2 := (wt x2)) rfl rfl rfl (Nat.le_of_ble_eq_true rfl) rfl (lw_r65 _ _) hm (by decide) (by have := wt_len x; have := wt_len x1; have := wt_len x2; omega) ?_
  refine E_pop rfl rfl ?_
  refine E_goto (t := 1451) rfl rfl ?_
  exact K
theorem lw_9 {xs : List Int32} {v : Nat} (hv : v + 6 ≤ xs.length) (hl : xs.length ≤ 3072) {x x1 x2 : St} (h0 : (xs.getD v 0) &&& 63 = 9) {r : Int32} (hx : Ev ab_Z0 3 85 [.ref 0, .int (xs.getD (v + 1) 0), .int (xs.getD (v + 2) 0)] (wt x) (some (.int r), wt x1)) (hm : Ev ab_Z0 2 150 [.ref 65, .int (xs.getD (v + 1) 0), .int (xs.getD (v + 2) 0)] (wt x1) (some (.int r), wt x2)) {e : Option Value × List ab_C} (K : Ef (3, ab_Tb ++ [xs]) 41 mL_law (1451, [some (.ref 1000002), some (.ref 0), some (.ref 65), some (.int (nI v))], [], (wt x2)) e) : Ef (3, ab_Tb ++ [xs]) 41 mL_law (27, [some (.ref 1000002), some (.ref 0), some (.ref 65), some (.int (nI v))], [], (wt x)) e := by
  refine E_aload_n rfl rfl ?_
  refine E_iload_n rfl rfl ?_
  refine E_tload (x := (xs.getD v 0)) (j := v) (t := 2) rfl (List.getElem?_eq_none (by have := wt_len x; omega)) rfl (by decide) rfl (lw_neg (by omega)) (lw_cl (by omega)) (lw_at (by omega)) ?_
  refine E_bipush (x := 63) rfl (by decide) ?_
  refine E_iand (z := 9) rfl h0 ?_
  refine E_tsIn (off := 558) (t := 591) rfl (by decide) rfl rfl ?_
  refine E_aload_n rfl rfl ?_
  refine E_aload_n rfl rfl ?_
  refine E_iload_n rfl rfl ?_
  refine E_iconst (x := nI 1) rfl (by decide) ?_
  refine E_iadd (z := nI (v + 1)) rfl (nI_add _ _) ?_
  refine E_tload (x := (xs.getD (v + 1) 0)) (j := v + 1) (t := 2) rfl (List.getElem?_eq_none (by have := wt_len x; omega)) rfl (by decide) rfl (lw_neg (by omega)) (lw_cl (by omega)) (lw_at (by omega)) ?_
  refine E_aload_n rfl rfl ?_
  refine E_iload_n rfl rfl ?_
  refine E_iconst (x := nI 2) rfl (by decide) ?_
  refine E_iadd (z := nI (v + 2)) rfl (nI_add _ _) ?_
  refine E_tload (x := (xs.getD (v + 2) 0)) (j := v + 2) (t := 2) rfl (List.getElem?_eq_none (by have := wt_len x; omega)) rfl (by decide) rfl (lw_neg (by omega)) (lw_cl (by omega)) (lw_at (by omega)) ?_
  refine E_callV (v := some (.int r)) (As := [.ref 0, .int (xs.getD (v + 1) 0), .int (xs.getD (v + 2) 0)]) (r0 := []) (cs2 := (wt x1)) rfl rfl rfl (Nat.le_of_ble_eq_true rfl) rfl (lw_r0 _ _) hx (by decide) (by have := wt_len x; have := wt_len x1; have := wt_len x2; omega) ?_
  refine E_pop rfl rfl ?_
  refine E_aload_n rfl rfl ?_
  refine E_aload_n rfl rfl ?_
  refine E_iload_n rfl rfl ?_
  refine E_iconst (x := nI 1) rfl (by decide) ?_
  refine E_iadd (z := nI (v + 1)) rfl (nI_add _ _) ?_
  refine E_tload (x := (xs.getD (v + 1) 0)) (j := v + 1) (t := 2) rfl (List.getElem?_eq_none (by have := wt_len x1; omega)) rfl (by decide) rfl (lw_neg (by omega)) (lw_cl (by omega)) (lw_at (by omega)) ?_
  refine E_aload_n rfl rfl ?_
  refine E_iload_n rfl rfl ?_
  refine E_iconst (x := nI 2) rfl (by decide) ?_
  refine E_iadd (z := nI (v + 2)) rfl (nI_add _ _) ?_
  refine E_tload (x := (xs.getD (v + 2) 0)) (j := v + 2) (t := 2) rfl (List.getElem?_eq_none (by have := wt_len x1; omega)) rfl (by decide) rfl (lw_neg (by omega)) (lw_cl (by omega)) (lw_at (by omega)) ?_
  refine E_callV (v := some (.int r)) (As := [.ref 65, .int (xs.getD (v + 1) 0), .int (xs.getD (v + 2) 0)]) (r0 := []) (cs2 := (wt x2)) rfl rfl rfl (Nat.le_of_ble_eq_true rfl) rfl (lw_r65 _ _) hm (by decide) (by have := wt_len x; have := wt_len x1; have := wt_len x2; omega) ?_
  refine E_pop rfl rfl ?_
  refine E_goto (t := 1451) rfl rfl ?_
  exact K
theorem lw_10 {xs : List Int32} {v : Nat} (hv : v + 6 ≤ xs.length) (hl : xs.length ≤ 3072) {x x1 x2 : St} (h0 : (xs.getD v 0) &&& 63 = 10) {r : Int32} (hx : Ev ab_Z0 3 86 [.ref 0, .int (xs.getD (v + 1) 0)] (wt x) (some (.int r), wt x1)) (hm : Ev ab_Z0 2 151 [.ref 65, .int (xs.getD (v + 1) 0)] (wt x1) (some (.int r), wt x2)) {e : Option Value × List ab_C} (K : Ef (3, ab_Tb ++ [xs]) 41 mL_law (1451, [some (.ref 1000002), some (.ref 0), some (.ref 65), some (.int (nI v))], [], (wt x2)) e) : Ef (3, ab_Tb ++ [xs]) 41 mL_law (27, [some (.ref 1000002), some (.ref 0), some (.ref 65), some (.int (nI v))], [], (wt x)) e := by
  refine E_aload_n rfl rfl ?_
  refine E_iload_n rfl rfl ?_
  refine E_tload (x := (xs.getD v 0)) (j := v) (t := 2) rfl (List.getElem?_eq_none (by have := wt_len x; omega)) rfl (by decide) rfl (lw_neg (by omega)) (lw_cl (by omega)) (lw_at (by omega)) ?_
  refine E_bipush (x := 63) rfl (by decide) ?_
  refine E_iand (z := 10) rfl h0 ?_
  refine E_tsIn (off := 591) (t := 624) rfl (by decide) rfl rfl ?_
  refine E_aload_n rfl rfl ?_
  refine E_aload_n rfl rfl ?_
  refine E_iload_n rfl rfl ?_
  refine E_iconst (x := nI 1) rfl (by decide) ?_
  refine E_iadd (z := nI (v + 1)) rfl (nI_add _ _) ?_
  refine E_tload (x := (xs.getD (v + 1) 0)) (j := v + 1) (t := 2) rfl (List.getElem?_eq_none (by have := wt_len x; omega)) rfl (by decide) rfl (lw_neg (by omega)) (lw_cl (by omega)) (lw_at (by omega)) ?_
  refine E_callV (v := some (.int r)) (As := [.ref 0, .int (xs.getD (v + 1) 0)]) (r0 := []) (cs2 := (wt x1)) rfl rfl rfl (Nat.le_of_ble_eq_true rfl) rfl (lw_r0 _ _) hx (by decide) (by have := wt_len x; have := wt_len x1; have := wt_len x2; omega) ?_
  refine E_pop rfl rfl ?_
  refine E_aload_n rfl rfl ?_
  refine E_aload_n rfl rfl ?_
  refine E_iload_n rfl rfl ?_
  refine E_iconst (x := nI 1) rfl (by decide) ?_
  refine E_iadd (z := nI (v + 1)) rfl (nI_add _ _) ?_
  refine E_tload (x := (xs.getD (v + 1) 0)) (j := v + 1) (t := 2) rfl (List.getElem?_eq_none (by have := wt_len x1; omega)) rfl (by decide) rfl (lw_neg (by omega)) (lw_cl (by omega)) (lw_at (by omega)) ?_
  refine E_callV (v := some (.int r)) (As := [.ref 65, .int (xs.getD (v + 1) 0)]) (r0 := []) (cs2 := (wt x2)) rfl rfl rfl (Nat.le_of_ble_eq_true rfl) rfl (lw_r65 _ _) hm (by decide) (by have := wt_len x; have := wt_len x1; have := wt_len x2; omega) ?_
  refine E_pop rfl rfl ?_
  refine E_goto (t := 1451) rfl rfl ?_
  exact K
theorem lw_11 {xs : List Int32} {v : Nat} (hv : v + 6 ≤ xs.length) (hl : xs.length ≤ 3072) {x x1 x2 : St} (h0 : (xs.getD v 0) &&& 63 = 11) {r q : Int32} (hx : Ev ab_Z0 4 87 [.ref 0, .int (xs.getD (v + 1) 0), .int (xs.getD (v + 2) 0), .int (xs.getD (v + 3) 0)] (wt x) (some (.int r), wt x1)) (hm : Ev ab_Z0 2 152 [.ref 65, .int (xs.getD (v + 1) 0), .int (xs.getD (v + 2) 0), .int (xs.getD (v + 3) 0)] (wt x1) (some (.int q), wt x2)) {e : Option Value × List ab_C} (K : Ef (3, ab_Tb ++ [xs]) 41 mL_law (1451, [some (.ref 1000002), some (.ref 0), some (.ref 65), some (.int (nI v))], [], (wt x2)) e) : Ef (3, ab_Tb ++ [xs]) 41 mL_law (27, [some (.ref 1000002), some (.ref 0), some (.ref 65), some (.int (nI v))], [], (wt x)) e := by
  refine E_aload_n rfl rfl ?_
  refine E_iload_n rfl rfl ?_
  refine E_tload (x := (xs.getD v 0)) (j := v) (t := 2) rfl (List.getElem?_eq_none (by have := wt_len x; omega)) rfl (by decide) rfl (lw_neg (by omega)) (lw_cl (by omega)) (lw_at (by omega)) ?_
  refine E_bipush (x := 63) rfl (by decide) ?_
  refine E_iand (z := 11) rfl h0 ?_
  refine E_tsIn (off := 614) (t := 647) rfl (by decide) rfl rfl ?_
  refine E_aload_n rfl rfl ?_
  refine E_aload_n rfl rfl ?_
  refine E_iload_n rfl rfl ?_
  refine E_iconst (x := nI 1) rfl (by decide) ?_
  refine E_iadd (z := nI (v + 1)) rfl (nI_add _ _) ?_
  refine E_tload (x := (xs.getD (v + 1) 0)) (j := v + 1) (t := 2) rfl (List.getElem?_eq_none (by have := wt_len x; omega)) rfl (by decide) rfl (lw_neg (by omega)) (lw_cl (by omega)) (lw_at (by omega)) ?_
  refine E_aload_n rfl rfl ?_
  refine E_iload_n rfl rfl ?_
  refine E_iconst (x := nI 2) rfl (by decide) ?_
  refine E_iadd (z := nI (v + 2)) rfl (nI_add _ _) ?_
  refine E_tload (x := (xs.getD (v + 2) 0)) (j := v + 2) (t := 2) rfl (List.getElem?_eq_none (by have := wt_len x; omega)) rfl (by decide) rfl (lw_neg (by omega)) (lw_cl (by omega)) (lw_at (by omega)) ?_
  refine E_aload_n rfl rfl ?_
  refine E_iload_n rfl rfl ?_
  refine E_iconst (x := nI 3) rfl (by decide) ?_
  refine E_iadd (z := nI (v + 3)) rfl (nI_add _ _) ?_
  refine E_tload (x := (xs.getD (v + 3) 0)) (j := v + 3) (t := 2) rfl (List.getElem?_eq_none (by have := wt_len x; omega)) rfl (by decide) rfl (lw_neg (by omega)) (lw_cl (by omega)) (lw_at (by omega)) ?_
  refine E_callV (v := some (.int r)) (As := [.ref 0, .int (xs.getD (v + 1) 0), .int (xs.getD (v + 2) 0), .int (xs.getD (v + 3) 0)]) (r0 := []) (cs2 := (wt x1)) rfl rfl rfl (Nat.le_of_ble_eq_true rfl) rfl (lw_r0 _ _) hx (by decide) (by have := wt_len x; have := wt_len x1; have := wt_len x2; omega) ?_
  refine E_pop rfl rfl ?_
  refine E_aload_n rfl rfl ?_
  refine E_aload_n rfl rfl ?_
  refine E_iload_n rfl rfl ?_
  refine E_iconst (x := nI 1) rfl (by decide) ?_
  refine E_iadd (z := nI (v + 1)) rfl (nI_add _ _) ?_
  refine E_tload (x := (xs.getD (v + 1) 0)) (j := v + 1) (t := 2) rfl (List.getElem?_eq_none (by have := wt_len x1; omega)) rfl (by decide) rfl (lw_neg (by omega)) (lw_cl (by omega)) (lw_at (by omega)) ?_
  refine E_aload_n rfl rfl ?_
  refine E_iload_n rfl rfl ?_
  refine E_iconst (x := nI 2) rfl (by decide) ?_
  refine E_iadd (z := nI (v + 2)) rfl (nI_add _ _) ?_
  refine E_tload (x := (xs.getD (v + 2) 0)) (j := v + 2) (t := 2) rfl (List.getElem?_eq_none (by have := wt_len x1; omega)) rfl (by decide) rfl (lw_neg (by omega)) (lw_cl (by omega)) (lw_at (by omega)) ?_
  refine E_aload_n rfl rfl ?_
  refine E_iload_n rfl rfl ?_
  refine E_iconst (x := nI 3) rfl (by decide) ?_
  refine E_iadd (z := nI (v + 3)) rfl (nI_add _ _) ?_
  refine E_tload (x := (xs.getD (v + 3) 0)) (j := v + 3) (t := 2) rfl (List.getElem?_eq_none (by have := wt_len x1; omega)) rfl (by decide) rfl (lw_neg (by omega)) (lw_cl (by omega)) (lw_at (by omega)) ?_
  refine E_callV (v := some (.int q)) (As := [.ref 65, .int (xs.getD (v + 1) 0), .int (xs.getD (v + 2) 0), .int (xs.getD (v + 3) 0)]) (r0 := []) (cs2 := (wt x2)) rfl rfl rfl (Nat.le_of_ble_eq_true rfl) rfl (lw_r65 _ _) hm (by decide) (by have := wt_len x; have := wt_len x1; have := wt_len x2; omega) ?_
  refine E_pop rfl rfl ?_
  refine E_goto (t := 1451) rfl rfl ?_
  exact K
theorem lw_12 {xs : List Int32} {v : Nat} (hv : v + 6 ≤ xs.length) (hl : xs.length ≤ 3072) {x x1 x2 : St} (h0 : (xs.getD v 0) &&& 63 = 12) {r : Int32} (hx : Ev ab_Z0 3 88 [.ref 0, .int (xs.getD (v + 1) 0), .int (xs.getD (v + 2) 0)] (wt x) (some (.int r), wt x1)) (hm : Ev ab_Z0 2 154 [.ref 65, .int (xs.getD (v + 1) 0), .int (xs.getD (v + 2) 0)] (wt x1) (some (.int r), wt x2)) {e : Option Value × List ab_C} (K : Ef (3, ab_Tb ++ [xs]) 41 mL_law (1451, [some (.ref 1000002), some (.ref 0), some (.ref 65), some (.int (nI v))], [], (wt x2)) e) : Ef (3, ab_Tb ++ [xs]) 41 mL_law (27, [some (.ref 1000002), some (.ref 0), some (.ref 65), some (.int (nI v))], [], (wt x)) e := by
  refine E_aload_n rfl rfl ?_
  refine E_iload_n rfl rfl ?_
  refine E_tload (x := (xs.getD v 0)) (j := v) (t := 2) rfl (List.getElem?_eq_none (by have := wt_len x; omega)) rfl (by decide) rfl (lw_neg (by omega)) (lw_cl (by omega)) (lw_at (by omega)) ?_
  refine E_bipush (x := 63) rfl (by decide) ?_
  refine E_iand (z := 12) rfl h0 ?_
  refine E_tsIn (off := 657) (t := 690) rfl (by decide) rfl rfl ?_
  refine E_aload_n rfl rfl ?_
  refine E_aload_n rfl rfl ?_
  refine E_iload_n rfl rfl ?_
  refine E_iconst (x := nI 1) rfl (by decide) ?_
  refine E_iadd (z := nI (v + 1)) rfl (nI_add _ _) ?_
  refine E_tload (x := (xs.getD (v + 1) 0)) (j := v + 1) (t := 2) rfl (List.getElem?_eq_none (by have := wt_len x; omega)) rfl (by decide) rfl (lw_neg (by omega)) (lw_cl (by omega)) (lw_at (by omega)) ?_
  refine E_aload_n rfl rfl ?_
  refine E_iload_n rfl rfl ?_
  refine E_iconst (x := nI 2) rfl (by decide) ?_
  refine E_iadd (z := nI (v + 2)) rfl (nI_add _ _) ?_
  refine E_tload (x := (xs.getD (v + 2) 0)) (j := v + 2) (t := 2) rfl (List.getElem?_eq_none (by have := wt_len x; omega)) rfl (by decide) rfl (lw_neg (by omega)) (lw_cl (by omega)) (lw_at (by omega)) ?_
  refine E_callV (v := some (.int r)) (As := [.ref 0, .int (xs.getD (v + 1) 0), .int (xs.getD (v + 2) 0)]) (r0 := []) (cs2 := (wt x1)) rfl rfl rfl (Nat.le_of_ble_eq_true rfl) rfl (lw_r0 _ _) hx (by decide) (by have := wt_len x; have := wt_len x1; have := wt_len x2; omega) ?_
  refine E_pop rfl rfl ?_
  refine E_aload_n rfl rfl ?_
  refine E_aload_n rfl rfl ?_
  refine E_iload_n rfl rfl ?_
  refine E_iconst (x := nI 1) rfl (by decide) ?_
  refine E_iadd (z := nI (v + 1)) rfl (nI_add _ _) ?_
  refine E_tload (x := (xs.getD (v + 1) 0)) (j := v + 1) (t := 2) rfl (List.getElem?_eq_none (by have := wt_len x1; omega)) rfl (by decide) rfl (lw_neg (by omega)) (lw_cl (by omega)) (lw_at (by omega)) ?_
  refine E_aload_n rfl rfl ?_
  refine E_iload_n rfl rfl ?_
  refine E_iconst (x := nI 2) rfl (by decide) ?_
  refine E_iadd (z := nI (v + 2)) rfl (nI_add _ _) ?_
  refine E_tload (x := (xs.getD (v + 2) 0)) (j := v + 2) (t := 2) rfl (List.getElem?_eq_none (by have := wt_len x1; omega)) rfl (by decide) rfl (lw_neg (by omega)) (lw_cl (by omega)) (lw_at (by omega)) ?_
  refine E_callV (v := some (.int r)) (As := [.ref 65, .int (xs.getD (v + 1) 0), .int (xs.getD (v + 2) 0)]) (r0 := []) (cs2 := (wt x2)) rfl rfl rfl (Nat.le_of_ble_eq_true rfl) rfl (lw_r65 _ _) hm (by decide) (by have := wt_len x; have := wt_len x1; have := wt_len x2; omega) ?_
  refine E_pop rfl rfl ?_
  refine E_goto (t := 1451) rfl rfl ?_
  exact K
theorem lw_13 {xs : List Int32} {v : Nat} (hv : v + 6 ≤ xs.length) (hl : xs.length ≤ 3072) {x x1 x2 : St} (h0 : (xs.getD v 0) &&& 63 = 13) {r : Int32} (hx : Ev ab_Z0 3 89 [.ref 0, .int (xs.getD (v + 1) 0), .int (xs.getD (v + 2) 0)] (wt x) (some (.int r), wt x1)) (hm : Ev ab_Z0 2 155 [.ref 65, .int (xs.getD (v + 1) 0), .int (xs.getD (v + 2) 0)] (wt x1) (some (.int r), wt x2)) {e : Option Value × List ab_C} (K : Ef (3, ab_Tb ++ [xs]) 41 mL_law (1451, [some (.ref 1000002), some (.ref 0), some (.ref 65), some (.int (nI v))], [], (wt x2)) e) : Ef (3, ab_Tb ++ [xs]) 41 mL_law (27, [some (.ref 1000002), some (.ref 0), some (.ref 65), some (.int (nI v))], [], (wt x)) e := by
  refine E_aload_n rfl rfl ?_
  refine E_iload_n rfl rfl ?_
  refine E_tload (x := (xs.getD v 0)) (j := v) (t := 2) rfl (List.getElem?_eq_none (by have := wt_len x; omega)) rfl (by decide) rfl (lw_neg (by omega)) (lw_cl (by omega)) (lw_at (by omega)) ?_
  refine E_bipush (x := 63) rfl (by decide) ?_
  refine E_iand (z := 13) rfl h0 ?_
  refine E_tsIn (off := 690) (t := 723) rfl (by decide) rfl rfl ?_
  refine E_aload_n rfl rfl ?_
  refine E_aload_n rfl rfl ?_
  refine E_iload_n rfl rfl ?_
  refine E_iconst (x := nI 1) rfl (by decide) ?_
  refine E_iadd (z := nI (v + 1)) rfl (nI_add _ _) ?_
  refine E_tload (x := (xs.getD (v + 1) 0)) (j := v + 1) (t := 2) rfl (List.getElem?_eq_none (by have := wt_len x; omega)) rfl (by decide) rfl (lw_neg (by omega)) (lw_cl (by omega)) (lw_at (by omega)) ?_
  refine E_aload_n rfl rfl ?_
  refine E_iload_n rfl rfl ?_
  refine E_iconst (x := nI 2) rfl (by decide) ?_
  refine E_iadd (z := nI (v + 2)) rfl (nI_add _ _) ?_
  refine E_tload (x := (xs.getD (v + 2) 0)) (j := v + 2) (t := 2) rfl (List.getElem?_eq_none (by have := wt_len x; omega)) rfl (by decide) rfl (lw_neg (by omega)) (lw_cl (by omega)) (lw_at (by omega)) ?_
  refine E_callV (v := some (.int r)) (As := [.ref 0, .int (xs.getD (v + 1) 0), .int (xs.getD (v + 2) 0)]) (r0 := []) (cs2 := (wt x1)) rfl rfl rfl (Nat.le_of_ble_eq_true rfl) rfl (lw_r0 _ _) hx (by decide) (by have := wt_len x; have := wt_len x1; have := wt_len x2; omega) ?_
  refine E_pop rfl rfl ?_
  refine E_aload_n rfl rfl ?_
  refine E_aload_n rfl rfl ?_
  refine E_iload_n rfl rfl ?_
  refine E_iconst (x := nI 1) rfl (by decide) ?_
  refine E_iadd (z := nI (v + 1)) rfl (nI_add _ _) ?_
  refine E_tload (x := (xs.getD (v + 1) 0)) (j := v + 1) (t := 2) rfl (List.getElem?_eq_none (by have := wt_len x1; omega)) rfl (by decide) rfl (lw_neg (by omega)) (lw_cl (by omega)) (lw_at (by omega)) ?_
  refine E_aload_n rfl rfl ?_
  refine E_iload_n rfl rfl ?_
  refine E_iconst (x := nI 2) rfl (by decide) ?_
  refine E_iadd (z := nI (v + 2)) rfl (nI_add _ _) ?_
  refine E_tload (x := (xs.getD (v + 2) 0)) (j := v + 2) (t := 2) rfl (List.getElem?_eq_none (by have := wt_len x1; omega)) rfl (by decide) rfl (lw_neg (by omega)) (lw_cl (by omega)) (lw_at (by omega)) ?_
  refine E_callV (v := some (.int r)) (As := [.ref 65, .int (xs.getD (v + 1) 0), .int (xs.getD (v + 2) 0)]) (r0 := []) (cs2 := (wt x2)) rfl rfl rfl (Nat.le_of_ble_eq_true rfl) rfl (lw_r65 _ _) hm (by decide) (by have := wt_len x; have := wt_len x1; have := wt_len x2; omega) ?_
  refine E_pop rfl rfl ?_
  refine E_goto (t := 1451) rfl rfl ?_
  exact K
theorem lw_14 {xs : List Int32} {v : Nat} (hv : v + 6 ≤ xs.length) (hl : xs.length ≤ 3072) {x x1 x2 : St} (h0 : (xs.getD v 0) &&& 63 = 14) {r : Int32} (hx : Ev ab_Z0 7 90 [.ref 0, .int (xs.getD (v + 1) 0)] (wt x) (some (.int r), wt x1)) (hm : Ev ab_Z0 4 165 [.ref 65, .int (xs.getD (v + 1) 0)] (wt x1) (some (.int r), wt x2)) {e : Option Value × List ab_C} (K : Ef (3, ab_Tb ++ [xs]) 41 mL_law (1451, [some (.ref 1000002), some (.ref 0), some (.ref 65), some (.int (nI v))], [], (wt x2)) e) : Ef (3, ab_Tb ++ [xs]) 41 mL_law (27, [some (.ref 1000002), some (.ref 0), some (.ref 65), some (.int (nI v))], [], (wt x)) e := by
  refine E_aload_n rfl rfl ?_
  refine E_iload_n rfl rfl ?_
  refine E_tload (x := (xs.getD v 0)) (j := v) (t := 2) rfl (List.getElem?_eq_none (by have := wt_len x; omega)) rfl (by decide) rfl (lw_neg (by omega)) (lw_cl (by omega)) (lw_at (by omega)) ?_
  refine E_bipush (x := 63) rfl (by decide) ?_
  refine E_iand (z := 14) rfl h0 ?_
  refine E_tsIn (off := 723) (t := 756) rfl (by decide) rfl rfl ?_
  refine E_aload_n rfl rfl ?_
  refine E_aload_n rfl rfl ?_
  refine E_iload_n rfl rfl ?_
  refine E_iconst (x := nI 1) rfl (by decide) ?_
  refine E_iadd (z := nI (v + 1)) rfl (nI_add _ _) ?_
  refine E_tload (x := (xs.getD (v + 1) 0)) (j := v + 1) (t := 2) rfl (List.getElem?_eq_none (by have := wt_len x; omega)) rfl (by decide) rfl (lw_neg (by omega)) (lw_cl (by omega)) (lw_at (by omega)) ?_
  refine E_callV (v := some (.int r)) (As := [.ref 0, .int (xs.getD (v + 1) 0)]) (r0 := []) (cs2 := (wt x1)) rfl rfl rfl (Nat.le_of_ble_eq_true rfl) rfl (lw_r0 _ _) hx (by decide) (by have := wt_len x; have := wt_len x1; have := wt_len x2; omega) ?_
  refine E_pop rfl rfl ?_
  refine E_aload_n rfl rfl ?_
  refine E_aload_n rfl rfl ?_
  refine E_iload_n rfl rfl ?_
  refine E_iconst (x := nI 1) rfl (by decide) ?_
  refine E_iadd (z := nI (v + 1)) rfl (nI_add _ _) ?_
  refine E_tload (x := (xs.getD (v + 1) 0)) (j := v + 1) (t := 2) rfl (List.getElem?_eq_none (by have := wt_len x1; omega)) rfl (by decide) rfl (lw_neg (by omega)) (lw_cl (by omega)) (lw_at (by omega)) ?_
  refine E_callV (v := some (.int r)) (As := [.ref 65, .int (xs.getD (v + 1) 0)]) (r0 := []) (cs2 := (wt x2)) rfl rfl rfl (Nat.le_of_ble_eq_true rfl) rfl (lw_r65 _ _) hm (by decide) (by have := wt_len x; have := wt_len x1; have := wt_len x2; omega) ?_
  refine E_pop rfl rfl ?_
  refine E_goto (t := 1451) rfl rfl ?_
  exact K
theorem lw_15 {xs : List Int32} {v : Nat} (hv : v + 6 ≤ xs.length) (hl : xs.length ≤ 3072) {x x1 x2 : St} (h0 : (xs.getD v 0) &&& 63 = 15) {r : Int32} (hx : Ev ab_Z0 1 91 [.ref 0] (wt x) (some (.int r), wt x1)) (hm : Ev ab_Z0 1 166 [.ref 65] (wt x1) (some (.int r), wt x2)) {e : Option Value × List ab_C} (K : Ef (3, ab_Tb ++ [xs]) 41 mL_law (1451, [some (.ref 1000002), some (.ref 0), some (.ref 65), some (.int (nI v))], [], (wt x2)) e) : Ef (3, ab_Tb ++ [xs]) 41 mL_law (27, [some (.ref 1000002), some (.ref 0), some (.ref 65), some (.int (nI v))], [], (wt x)) e := by
  refine E_aload_n rfl rfl ?_
  refine E_iload_n rfl rfl ?_
  refine E_tload (x := (xs.getD v 0)) (j := v) (t := 2) rfl (List.getElem?_eq_none (by have := wt_len x; omega)) rfl (by decide) rfl (lw_neg (by omega)) (lw_cl (by omega)) (lw_at (by omega)) ?_
  refine E_bipush (x := 63) rfl (by decide) ?_
  refine E_iand (z := 15) rfl h0 ?_
  refine E_tsIn (off := 746) (t := 779) rfl (by decide) rfl rfl ?_
  refine E_aload_n rfl rfl ?_
  refine E_callV (v := some (.int r)) (As := [.ref 0]) (r0 := []) (cs2 := (wt x1)) rfl rfl rfl (Nat.le_of_ble_eq_true rfl) rfl (lw_r0 _ _) hx (by decide) (by have := wt_len x; have := wt_len x1; have := wt_len x2; omega) ?_
  refine E_pop rfl rfl ?_
  refine E_aload_n rfl rfl ?_
  refine E_callV (v := some (.int r)) (As := [.ref 65]) (r0 := []) (cs2 := (wt x2)) rfl rfl rfl (Nat.le_of_ble_eq_true rfl) rfl (lw_r65 _ _) hm (by decide) (by have := wt_len x; have := wt_len x1; have := wt_len x2; omega) ?_
  refine E_pop rfl rfl ?_
  refine E_goto (t := 1451) rfl rfl ?_
  exact K
theorem lw_16 {xs : List Int32} {v : Nat} (hv : v + 6 ≤ xs.length) (hl : xs.length ≤ 3072) {x x1 x2 : St} (h0 : (xs.getD v 0) &&& 63 = 16) {r : Int32} (hx : Ev ab_Z0 4 92 [.ref 0, .int (xs.getD (v + 1) 0), .int (xs.getD (v + 2) 0)] (wt x) (some (.int r), wt x1)) (hm : Ev ab_Z0 2 175 [.ref 65, .int (xs.getD (v + 1) 0), .int (xs.getD (v + 2) 0)] (wt x1) (some (.int r), wt x2)) {e : Option Value × List ab_C} (K : Ef (3, ab_Tb ++ [xs]) 41 mL_law (1451, [some (.ref 1000002), some (.ref 0), some (.ref 65), some (.int (nI v))], [], (wt x2)) e) : Ef (3, ab_Tb ++ [xs]) 41 mL_law (27, [some (.ref 1000002), some (.ref 0), some (.ref 65), some (.int (nI v))], [], (wt x)) e := by
  refine E_aload_n rfl rfl ?_
  refine E_iload_n rfl rfl ?_
  refine E_tload (x := (xs.getD v 0)) (j := v) (t := 2) rfl (List.getElem?_eq_none (by have := wt_len x; omega)) rfl (by decide) rfl (lw_neg (by omega)) (lw_cl (by omega)) (lw_at (by omega)) ?_
  refine E_bipush (x := 63) rfl (by decide) ?_
  refine E_iand (z := 16) rfl h0 ?_
  refine E_tsIn (off := 759) (t := 792) rfl (by decide) rfl rfl ?_
  refine E_aload_n rfl rfl ?_
  refine E_aload_n rfl rfl ?_
  refine E_iload_n rfl rfl ?_
  refine E_iconst (x := nI 1) rfl (by decide) ?_
  refine E_iadd (z := nI (v + 1)) rfl (nI_add _ _) ?_
  refine E_tload (x := (xs.getD (v + 1) 0)) (j := v + 1) (t := 2) rfl (List.getElem?_eq_none (by have := wt_len x; omega)) rfl (by decide) rfl (lw_neg (by omega)) (lw_cl (by omega)) (lw_at (by omega)) ?_
  refine E_aload_n rfl rfl ?_
  refine E_iload_n rfl rfl ?_
  refine E_iconst (x := nI 2) rfl (by decide) ?_
  refine E_iadd (z := nI (v + 2)) rfl (nI_add _ _) ?_
  refine E_tload (x := (xs.getD (v + 2) 0)) (j := v + 2) (t := 2) rfl (List.getElem?_eq_none (by have := wt_len x; omega)) rfl (by decide) rfl (lw_neg (by omega)) (lw_cl (by omega)) (lw_at (by omega)) ?_
  refine E_callV (v := some (.int r)) (As := [.ref 0, .int (xs.getD (v + 1) 0), .int (xs.getD (v + 2) 0)]) (r0 := []) (cs2 := (wt x1)) rfl rfl rfl (Nat.le_of_ble_eq_true rfl) rfl (lw_r0 _ _) hx (by decide) (by have := wt_len x; have := wt_len x1; have := wt_len x2; omega) ?_
  refine E_pop rfl rfl ?_
  refine E_aload_n rfl rfl ?_
  refine E_aload_n rfl rfl ?_
  refine E_iload_n rfl rfl ?_
  refine E_iconst (x := nI 1) rfl (by decide) ?_
  refine E_iadd (z := nI (v + 1)) rfl (nI_add _ _) ?_
  refine E_tload (x := (xs.getD (v + 1) 0)) (j := v + 1) (t := 2) rfl (List.getElem?_eq_none (by have := wt_len x1; omega)) rfl (by decide) rfl (lw_neg (by omega)) (lw_cl (by omega)) (lw_at (by omega)) ?_
  refine E_aload_n rfl rfl ?_
  refine E_iload_n rfl rfl ?_
  refine E_iconst (x := nI 2) rfl (by decide) ?_
  refine E_iadd (z := nI (v + 2)) rfl (nI_add _ _) ?_
  refine E_tload (x := (xs.getD (v + 2) 0)) (j := v + 2) (t := 2) rfl (List.getElem?_eq_none (by have := wt_len x1; omega)) rfl (by decide) rfl (lw_neg (by omega)) (lw_cl (by omega)) (lw_at (by omega)) ?_
  refine E_callV (v := some (.int r)) (As := [.ref 65, .int (xs.getD (v + 1) 0), .int (xs.getD (v + 2) 0)]) (r0 := []) (cs2 := (wt x2)) rfl rfl rfl (Nat.le_of_ble_eq_true rfl) rfl (lw_r65 _ _) hm (by decide) (by have := wt_len x; have := wt_len x1; have := wt_len x2; omega) ?_
  refine E_pop rfl rfl ?_
  refine E_goto (t := 1451) rfl rfl ?_
  exact K
theorem lw_17 {xs : List Int32} {v : Nat} (hv : v + 6 ≤ xs.length) (hl : xs.length ≤ 3072) {x x1 x2 : St} (h0 : (xs.getD v 0) &&& 63 = 17) {r : Int32} (hx : Ev ab_Z0 5 93 [.ref 0, .int (xs.getD (v + 1) 0), .int (xs.getD (v + 2) 0)] (wt x) (some (.int r), wt x1)) (hm : Ev ab_Z0 4 173 [.ref 65, .int (xs.getD (v + 1) 0), .int (xs.getD (v + 2) 0)] (wt x1) (some (.int r), wt x2)) {e : Option Value × List ab_C} (K : Ef (3, ab_Tb ++ [xs]) 41 mL_law (1451, [some (.ref 1000002), some (.ref 0), some (.ref 65), some (.int (nI v))], [], (wt x2)) e) : Ef (3, ab_Tb ++ [xs]) 41 mL_law (27, [some (.ref 1000002), some (.ref 0), some (.ref 65), some (.int (nI v))], [], (wt x)) e := by
  refine E_aload_n rfl rfl ?_
  refine E_iload_n rfl rfl ?_
  refine E_tload (x := (xs.getD v 0)) (j := v) (t := 2) rfl (List.getElem?_eq_none (by have := wt_len x; omega)) rfl (by decide) rfl (lw_neg (by omega)) (lw_cl (by omega)) (lw_at (by omega)) ?_
  refine E_bipush (x := 63) rfl (by decide) ?_
  refine E_iand (z := 17) rfl h0 ?_
  refine E_tsIn (off := 792) (t := 825) rfl (by decide) rfl rfl ?_
  refine E_aload_n rfl rfl ?_
  refine E_aload_n rfl rfl ?_
  refine E_iload_n rfl rfl ?_
  refine E_iconst (x := nI 1) rfl (by decide) ?_
  refine E_iadd (z := nI (v + 1)) rfl (nI_add _ _) ?_
  refine E_tload (x := (xs.getD (v + 1) 0)) (j := v + 1) (t := 2) rfl (List.getElem?_eq_none (by have := wt_len x; omega)) rfl (by decide) rfl (lw_neg (by omega)) (lw_cl (by omega)) (lw_at (by omega)) ?_
  refine E_aload_n rfl rfl ?_
  refine E_iload_n rfl rfl ?_
  refine E_iconst (x := nI 2) rfl (by decide) ?_
  refine E_iadd (z := nI (v + 2)) rfl (nI_add _ _) ?_
  refine E_tload (x := (xs.getD (v + 2) 0)) (j := v + 2) (t := 2) rfl (List.getElem?_eq_none (by have := wt_len x; omega)) rfl (by decide) rfl (lw_neg (by omega)) (lw_cl (by omega)) (lw_at (by omega)) ?_
  refine E_callV (v := some (.int r)) (As := [.ref 0, .int (xs.getD (v + 1) 0), .int (xs.getD (v + 2) 0)]) (r0 := []) (cs2 := (wt x1)) rfl rfl rfl (Nat.le_of_ble_eq_true rfl) rfl (lw_r0 _ _) hx (by decide) (by have := wt_len x; have := wt_len x1; have := wt_len x2; omega) ?_
  refine E_pop rfl rfl ?_
  refine E_aload_n rfl rfl ?_
  refine E_aload_n rfl rfl ?_
  refine E_iload_n rfl rfl ?_
  refine E_iconst (x := nI 1) rfl (by decide) ?_
  refine E_iadd (z := nI (v + 1)) rfl (nI_add _ _) ?_
  refine E_tload (x := (xs.getD (v + 1) 0)) (j := v + 1) (t := 2) rfl (List.getElem?_eq_none (by have := wt_len x1; omega)) rfl (by decide) rfl (lw_neg (by omega)) (lw_cl (by omega)) (lw_at (by omega)) ?_
  refine E_aload_n rfl rfl ?_
  refine E_iload_n rfl rfl ?_
  refine E_iconst (x := nI 2) rfl (by decide) ?_
  refine E_iadd (z := nI (v + 2)) rfl (nI_add _ _) ?_
  refine E_tload (x := (xs.getD (v + 2) 0)) (j := v + 2) (t := 2) rfl (List.getElem?_eq_none (by have := wt_len x1; omega)) rfl (by decide) rfl (lw_neg (by omega)) (lw_cl (by omega)) (lw_at (by omega)) ?_
  refine E_callV (v := some (.int r)) (As := [.ref 65, .int (xs.getD (v + 1) 0), .int (xs.getD (v + 2) 0)]) (r0 := []) (cs2 := (wt x2)) rfl rfl rfl (Nat.le_of_ble_eq_true rfl) rfl (lw_r65 _ _) hm (by decide) (by have := wt_len x; have := wt_len x1; have := wt_len x2; omega) ?_
  refine E_pop rfl rfl ?_
  refine E_goto (t := 1451) rfl rfl ?_
  exact K
theorem lw_18 {xs : List Int32} {v : Nat} (hv : v + 6 ≤ xs.length) (hl : xs.length ≤ 3072) {x x1 x2 : St} (h0 : (xs.getD v 0) &&& 63 = 18) {r : Int32} (hx : Ev ab_Z0 6 94 [.ref 0, .int (xs.getD (v + 1) 0), .int (xs.getD (v + 2) 0)] (wt x) (some (.int r), wt x1)) (hm : Ev ab_Z0 5 178 [.ref 65, .int (xs.getD (v + 1) 0), .int (xs.getD (v + 2) 0)] (wt x1) (some (.int r), wt x2)) {e : Option Value × List ab_C} (K : Ef (3, ab_Tb ++ [xs]) 41 mL_law (1451, [some (.ref 1000002), some (.ref 0), some (.ref 65), some (.int (nI v))], [], (wt x2)) e) : Ef (3, ab_Tb ++ [xs]) 41 mL_law (27, [some (.ref 1000002), some (.ref 0), some (.ref 65), some (.int (nI v))], [], (wt x)) e := by
  refine E_aload_n rfl rfl ?_
  refine E_iload_n rfl rfl ?_
  refine E_tload (x := (xs.getD v 0)) (j := v) (t := 2) rfl (List.getElem?_eq_none (by have := wt_len x; omega)) rfl (by decide) rfl (lw_neg (by omega)) (lw_cl (by omega)) (lw_at (by omega)) ?_
  refine E_bipush (x := 63) rfl (by decide) ?_
  refine E_iand (z := 18) rfl h0 ?_
  refine E_tsIn (off := 825) (t := 858) rfl (by decide) rfl rfl ?_
  refine E_aload_n rfl rfl ?_
  refine E_aload_n rfl rfl ?_
  refine E_iload_n rfl rfl ?_
  refine E_iconst (x := nI 1) rfl (by decide) ?_
  refine E_iadd (z := nI (v + 1)) rfl (nI_add _ _) ?_
  refine E_tload (x := (xs.getD (v + 1) 0)) (j := v + 1) (t := 2) rfl (List.getElem?_eq_none (by have := wt_len x; omega)) rfl (by decide) rfl (lw_neg (by omega)) (lw_cl (by omega)) (lw_at (by omega)) ?_
  refine E_aload_n rfl rfl ?_
  refine E_iload_n rfl rfl ?_
  refine E_iconst (x := nI 2) rfl (by decide) ?_
  refine E_iadd (z := nI (v + 2)) rfl (nI_add _ _) ?_
  refine E_tload (x := (xs.getD (v + 2) 0)) (j := v + 2) (t := 2) rfl (List.getElem?_eq_none (by have := wt_len x; omega)) rfl (by decide) rfl (lw_neg (by omega)) (lw_cl (by omega)) (lw_at (by omega)) ?_
  refine E_callV (v := some (.int r)) (As := [.ref 0, .int (xs.getD (v + 1) 0), .int (xs.getD (v + 2) 0)]) (r0 := []) (cs2 := (wt x1)) rfl rfl rfl (Nat.le_of_ble_eq_true rfl) rfl (lw_r0 _ _) hx (by decide) (by have := wt_len x; have := wt_len x1; have := wt_len x2; omega) ?_
  refine E_pop rfl rfl ?_
  refine E_aload_n rfl rfl ?_
  refine E_aload_n rfl rfl ?_
  refine E_iload_n rfl rfl ?_
  refine E_iconst (x := nI 1) rfl (by decide) ?_
  refine E_iadd (z := nI (v + 1)) rfl (nI_add _ _) ?_
  refine E_tload (x := (xs.getD (v + 1) 0)) (j := v + 1) (t := 2) rfl (List.getElem?_eq_none (by have := wt_len x1; omega)) rfl (by decide) rfl (lw_neg (by omega)) (lw_cl (by omega)) (lw_at (by omega)) ?_
  refine E_aload_n rfl rfl ?_
  refine E_iload_n rfl rfl ?_
  refine E_iconst (x := nI 2) rfl (by decide) ?_
  refine E_iadd (z := nI (v + 2)) rfl (nI_add _ _) ?_
  refine E_tload (x := (xs.getD (v + 2) 0)) (j := v + 2) (t := 2) rfl (List.getElem?_eq_none (by have := wt_len x1; omega)) rfl (by decide) rfl (lw_neg (by omega)) (lw_cl (by omega)) (lw_at (by omega)) ?_
  refine E_callV (v := some (.int r)) (As := [.ref 65, .int (xs.getD (v + 1) 0), .int (xs.getD (v + 2) 0)]) (r0 := []) (cs2 := (wt x2)) rfl rfl rfl (Nat.le_of_ble_eq_true rfl) rfl (lw_r65 _ _) hm (by decide) (by have := wt_len x; have := wt_len x1; have := wt_len x2; omega) ?_
  refine E_pop rfl rfl ?_
  refine E_goto (t := 1451) rfl rfl ?_
  exact K
theorem lw_19 {xs : List Int32} {v : Nat} (hv : v + 6 ≤ xs.length) (hl : xs.length ≤ 3072) {x x1 x2 : St} (h0 : (xs.getD v 0) &&& 63 = 19) {r : Int32} (hx : Ev ab_Z0 5 95 [.ref 0, .int (xs.getD (v + 1) 0), .int (xs.getD (v + 2) 0)] (wt x) (some (.int r), wt x1)) (hm : Ev ab_Z0 6 179 [.ref 65, .int (xs.getD (v + 1) 0), .int (xs.getD (v + 2) 0)] (wt x1) (some (.int r), wt x2)) {e : Option Value × List ab_C} (K : Ef (3, ab_Tb ++ [xs]) 41 mL_law (1451, [some (.ref 1000002), some (.ref 0), some (.ref 65), some (.int (nI v))], [], (wt x2)) e) : Ef (3, ab_Tb ++ [xs]) 41 mL_law (27, [some (.ref 1000002), some (.ref 0), some (.ref 65), some (.int (nI v))], [], (wt x)) e := by
  refine E_aload_n rfl rfl ?_
  refine E_iload_n rfl rfl ?_
  refine E_tload (x := (xs.getD v 0)) (j := v) (t := 2) rfl (List.getElem?_eq_none (by have := wt_len x; omega)) rfl (by decide) rfl (lw_neg (by omega)) (lw_cl (by omega)) (lw_at (by omega)) ?_
  refine E_bipush (x := 63) rfl (by decide) ?_
  refine E_iand (z := 19) rfl h0 ?_
  refine E_tsIn (off := 858) (t := 891) rfl (by decide) rfl rfl ?_
  refine E_aload_n rfl rfl ?_
  refine E_aload_n rfl rfl ?_
  refine E_iload_n rfl rfl ?_
  refine E_iconst (x := nI 1) rfl (by decide) ?_
  refine E_iadd (z := nI (v + 1)) rfl (nI_add _ _) ?_
  refine E_tload (x := (xs.getD (v + 1) 0)) (j := v + 1) (t := 2) rfl (List.getElem?_eq_none (by have := wt_len x; omega)) rfl (by decide) rfl (lw_neg (by omega)) (lw_cl (by omega)) (lw_at (by omega)) ?_
  refine E_aload_n rfl rfl ?_
  refine E_iload_n rfl rfl ?_
  refine E_iconst (x := nI 2) rfl (by decide) ?_
  refine E_iadd (z := nI (v + 2)) rfl (nI_add _ _) ?_
  refine E_tload (x := (xs.getD (v + 2) 0)) (j := v + 2) (t := 2) rfl (List.getElem?_eq_none (by have := wt_len x; omega)) rfl (by decide) rfl (lw_neg (by omega)) (lw_cl (by omega)) (lw_at (by omega)) ?_
  refine E_callV (v := some (.int r)) (As := [.ref 0, .int (xs.getD (v + 1) 0), .int (xs.getD (v + 2) 0)]) (r0 := []) (cs2 := (wt x1)) rfl rfl rfl (Nat.le_of_ble_eq_true rfl) rfl (lw_r0 _ _) hx (by decide) (by have := wt_len x; have := wt_len x1; have := wt_len x2; omega) ?_
  refine E_pop rfl rfl ?_
  refine E_aload_n rfl rfl ?_
  refine E_aload_n rfl rfl ?_
  refine E_iload_n rfl rfl ?_
  refine E_iconst (x := nI 1) rfl (by decide) ?_
  refine E_iadd (z := nI (v + 1)) rfl (nI_add _ _) ?_
  refine E_tload (x := (xs.getD (v + 1) 0)) (j := v + 1) (t := 2) rfl (List.getElem?_eq_none (by have := wt_len x1; omega)) rfl (by decide) rfl (lw_neg (by omega)) (lw_cl (by omega)) (lw_at (by omega)) ?_
  refine E_aload_n rfl rfl ?_
  refine E_iload_n rfl rfl ?_
  refine E_iconst (x := nI 2) rfl (by decide) ?_
  refine E_iadd (z := nI (v + 2)) rfl (nI_add _ _) ?_
  refine E_tload (x := (xs.getD (v + 2) 0)) (j := v + 2) (t := 2) rfl (List.getElem?_eq_none (by have := wt_len x1; omega)) rfl (by decide) rfl (lw_neg (by omega)) (lw_cl (by omega)) (lw_at (by omega)) ?_
  refine E_callV (v := some (.int r)) (As := [.ref 65, .int (xs.getD (v + 1) 0), .int (xs.getD (v + 2) 0)]) (r0 := []) (cs2 := (wt x2)) rfl rfl rfl (Nat.le_of_ble_eq_true rfl) rfl (lw_r65 _ _) hm (by decide) (by have := wt_len x; have := wt_len x1; have := wt_len x2; omega) ?_
  refine E_pop rfl rfl ?_
  refine E_goto (t := 1451) rfl rfl ?_
  exact K
theorem lw_20 {xs : List Int32} {v : Nat} (hv : v + 6 ≤ xs.length) (hl : xs.length ≤ 3072) {x x1 x2 : St} (h0 : (xs.getD v 0) &&& 63 = 20) {r : Int32} (hx : Ev ab_Z0 4 96 [.ref 0, .int (xs.getD (v + 1) 0)] (wt x) (some (.int r), wt x1)) (hm : Ev ab_Z0 4 180 [.ref 65, .int (xs.getD (v + 1) 0)] (wt x1) (some (.int r), wt x2)) {e : Option Value × List ab_C} (K : Ef (3, ab_Tb ++ [xs]) 41 mL_law (1451, [some (.ref 1000002), some (.ref 0), some (.ref 65), some (.int (nI v))], [], (wt x2)) e) : Ef (3, ab_Tb ++ [xs]) 41 mL_law (27, [some (.ref 1000002), some (.ref 0), some (.ref 65), some (.int (nI v))], [], (wt x)) e := by
  refine E_aload_n rfl rfl ?_
  refine E_iload_n rfl rfl ?_
  refine E_tload (x := (xs.getD v 0)) (j := v) (t := 2) rfl (List.getElem?_eq_none (by have := wt_len x; omega)) rfl (by decide) rfl (lw_neg (by omega)) (lw_cl (by omega)) (lw_at (by omega)) ?_
  refine E_bipush (x := 63) rfl (by decide) ?_
  refine E_iand (z := 20) rfl h0 ?_
  refine E_tsIn (off := 891) (t := 924) rfl (by decide) rfl rfl ?_
  refine E_aload_n rfl rfl ?_
  refine E_aload_n rfl rfl ?_
  refine E_iload_n rfl rfl ?_
  refine E_iconst (x := nI 1) rfl (by decide) ?_
  refine E_iadd (z := nI (v + 1)) rfl (nI_add _ _) ?_
  refine E_tload (x := (xs.getD (v + 1) 0)) (j := v + 1) (t := 2) rfl (List.getElem?_eq_none (by have := wt_len x; omega)) rfl (by decide) rfl (lw_neg (by omega)) (lw_cl (by omega)) (lw_at (by omega)) ?_
  refine E_callV (v := some (.int r)) (As := [.ref 0, .int (xs.getD (v + 1) 0)]) (r0 := []) (cs2 := (wt x1)) rfl rfl rfl (Nat.le_of_ble_eq_true rfl) rfl (lw_r0 _ _) hx (by decide) (by have := wt_len x; have := wt_len x1; have := wt_len x2; omega) ?_
  refine E_pop rfl rfl ?_
  refine E_aload_n rfl rfl ?_
  refine E_aload_n rfl rfl ?_
  refine E_iload_n rfl rfl ?_
  refine E_iconst (x := nI 1) rfl (by decide) ?_
  refine E_iadd (z := nI (v + 1)) rfl (nI_add _ _) ?_
  refine E_tload (x := (xs.getD (v + 1) 0)) (j := v + 1) (t := 2) rfl (List.getElem?_eq_none (by have := wt_len x1; omega)) rfl (by decide) rfl (lw_neg (by omega)) (lw_cl (by omega)) (lw_at (by omega)) ?_
  refine E_callV (v := some (.int r)) (As := [.ref 65, .int (xs.getD (v + 1) 0)]) (r0 := []) (cs2 := (wt x2)) rfl rfl rfl (Nat.le_of_ble_eq_true rfl) rfl (lw_r65 _ _) hm (by decide) (by have := wt_len x; have := wt_len x1; have := wt_len x2; omega) ?_
  refine E_pop rfl rfl ?_
  refine E_goto (t := 1451) rfl rfl ?_
  exact K
theorem lw_21 {xs : List Int32} {v : Nat} (hv : v + 6 ≤ xs.length) (hl : xs.length ≤ 3072) {x x1 x2 : St} (h0 : (xs.getD v 0) &&& 63 = 21) {r : Int32} (hx : Ev ab_Z0 4 97 [.ref 0, .int (xs.getD (v + 1) 0)] (wt x) (some (.int r), wt x1)) (hm : Ev ab_Z0 4 182 [.ref 65, .int (xs.getD (v + 1) 0)] (wt x1) (some (.int r), wt x2)) {e : Option Value × List ab_C} (K : Ef (3, ab_Tb ++ [xs]) 41 mL_law (1451, [some (.ref 1000002), some (.ref 0), some (.ref 65), some (.int (nI v))], [], (wt x2)) e) : Ef (3, ab_Tb ++ [xs]) 41 mL_law (27, [some (.ref 1000002), some (.ref 0), some (.ref 65), some (.int (nI v))], [], (wt x)) e := by
  refine E_aload_n rfl rfl ?_
  refine E_iload_n rfl rfl ?_
  refine E_tload (x := (xs.getD v 0)) (j := v) (t := 2) rfl (List.getElem?_eq_none (by have := wt_len x; omega)) rfl (by decide) rfl (lw_neg (by omega)) (lw_cl (by omega)) (lw_at (by omega)) ?_
  refine E_bipush (x := 63) rfl (by decide) ?_
  refine E_iand (z := 21) rfl h0 ?_
  refine E_tsIn (off := 914) (t := 947) rfl (by decide) rfl rfl ?_
  refine E_aload_n rfl rfl ?_
  refine E_aload_n rfl rfl ?_
  refine E_iload_n rfl rfl ?_
  refine E_iconst (x := nI 1) rfl (by decide) ?_
  refine E_iadd (z := nI (v + 1)) rfl (nI_add _ _) ?_
  refine E_tload (x := (xs.getD (v + 1) 0)) (j := v + 1) (t := 2) rfl (List.getElem?_eq_none (by have := wt_len x; omega)) rfl (by decide) rfl (lw_neg (by omega)) (lw_cl (by omega)) (lw_at (by omega)) ?_
  refine E_callV (v := some (.int r)) (As := [.ref 0, .int (xs.getD (v + 1) 0)]) (r0 := []) (cs2 := (wt x1)) rfl rfl rfl (Nat.le_of_ble_eq_true rfl) rfl (lw_r0 _ _) hx (by decide) (by have := wt_len x; have := wt_len x1; have := wt_len x2; omega) ?_
  refine E_pop rfl rfl ?_
  refine E_aload_n rfl rfl ?_
  refine E_aload_n rfl rfl ?_
  refine E_iload_n rfl rfl ?_
  refine E_iconst (x := nI 1) rfl (by decide) ?_
  refine E_iadd (z := nI (v + 1)) rfl (nI_add _ _) ?_
  refine E_tload (x := (xs.getD (v + 1) 0)) (j := v + 1) (t := 2) rfl (List.getElem?_eq_none (by have := wt_len x1; omega)) rfl (by decide) rfl (lw_neg (by omega)) (lw_cl (by omega)) (lw_at (by omega)) ?_
  refine E_callV (v := some (.int r)) (As := [.ref 65, .int (xs.getD (v + 1) 0)]) (r0 := []) (cs2 := (wt x2)) rfl rfl rfl (Nat.le_of_ble_eq_true rfl) rfl (lw_r65 _ _) hm (by decide) (by have := wt_len x; have := wt_len x1; have := wt_len x2; omega) ?_
  refine E_pop rfl rfl ?_
  refine E_goto (t := 1451) rfl rfl ?_
  exact K
theorem lw_22 {xs : List Int32} {v : Nat} (hv : v + 6 ≤ xs.length) (hl : xs.length ≤ 3072) {x x1 x2 : St} (h0 : (xs.getD v 0) &&& 63 = 22) {r : Int32} (hx : Ev ab_Z0 5 98 [.ref 0, .int (xs.getD (v + 1) 0)] (wt x) (some (.int r), wt x1)) (hm : Ev ab_Z0 40 185 [.ref 65, .int (xs.getD (v + 1) 0)] (wt x1) (some (.int r), wt x2)) {e : Option Value × List ab_C} (K : Ef (3, ab_Tb ++ [xs]) 41 mL_law (1451, [some (.ref 1000002), some (.ref 0), some (.ref 65), some (.int (nI v))], [], (wt x2)) e) : Ef (3, ab_Tb ++ [xs]) 41 mL_law (27, [some (.ref 1000002), some (.ref 0), some (.ref 65), some (.int (nI v))], [], (wt x)) e := by
  refine E_aload_n rfl rfl ?_
  refine E_iload_n rfl rfl ?_
  refine E_tload (x := (xs.getD v 0)) (j := v) (t := 2) rfl (List.getElem?_eq_none (by have := wt_len x; omega)) rfl (by decide) rfl (lw_neg (by omega)) (lw_cl (by omega)) (lw_at (by omega)) ?_
  refine E_bipush (x := 63) rfl (by decide) ?_
  refine E_iand (z := 22) rfl h0 ?_
  refine E_tsIn (off := 937) (t := 970) rfl (by decide) rfl rfl ?_
  refine E_aload_n rfl rfl ?_
  refine E_aload_n rfl rfl ?_
  refine E_iload_n rfl rfl ?_
  refine E_iconst (x := nI 1) rfl (by decide) ?_
  refine E_iadd (z := nI (v + 1)) rfl (nI_add _ _) ?_
  refine E_tload (x := (xs.getD (v + 1) 0)) (j := v + 1) (t := 2) rfl (List.getElem?_eq_none (by have := wt_len x; omega)) rfl (by decide) rfl (lw_neg (by omega)) (lw_cl (by omega)) (lw_at (by omega)) ?_
  refine E_callV (v := some (.int r)) (As := [.ref 0, .int (xs.getD (v + 1) 0)]) (r0 := []) (cs2 := (wt x1)) rfl rfl rfl (Nat.le_of_ble_eq_true rfl) rfl (lw_r0 _ _) hx (by decide) (by have := wt_len x; have := wt_len x1; have := wt_len x2; omega) ?_
  refine E_pop rfl rfl ?_
  refine E_aload_n rfl rfl ?_
  refine E_aload_n rfl rfl ?_
  refine E_iload_n rfl rfl ?_
  refine E_iconst (x := nI 1) rfl (by decide) ?_
  refine E_iadd (z := nI (v + 1)) rfl (nI_add _ _) ?_
  refine E_tload (x := (xs.getD (v + 1) 0)) (j := v + 1) (t := 2) rfl (List.getElem?_eq_none (by have := wt_len x1; omega)) rfl (by decide) rfl (lw_neg (by omega)) (lw_cl (by omega)) (lw_at (by omega)) ?_
  refine E_callV (v := some (.int r)) (As := [.ref 65, .int (xs.getD (v + 1) 0)]) (r0 := []) (cs2 := (wt x2)) rfl rfl rfl (Nat.le_of_ble_eq_true rfl) rfl (lw_r65 _ _) hm (by decide) (by have := wt_len x; have := wt_len x1; have := wt_len x2; omega) ?_
  refine E_pop rfl rfl ?_
  refine E_goto (t := 1451) rfl rfl ?_
  exact K
theorem lw_23 {xs : List Int32} {v : Nat} (hv : v + 6 ≤ xs.length) (hl : xs.length ≤ 3072) {x x1 x2 : St} (h0 : (xs.getD v 0) &&& 63 = 23) {r : Int32} (hx : Ev ab_Z0 5 99 [.ref 0, .int (xs.getD (v + 1) 0), .int (xs.getD (v + 2) 0)] (wt x) (some (.int r), wt x1)) (hm : Ev ab_Z0 4 187 [.ref 65, .int (xs.getD (v + 1) 0), .int (xs.getD (v + 2) 0)] (wt x1) (some (.int r), wt x2)) {e : Option Value × List ab_C} (K : Ef (3, ab_Tb ++ [xs]) 41 mL_law (1451, [some (.ref 1000002), some (.ref 0), some (.ref 65), some (.int (nI v))], [], (wt x2)) e) : Ef (3, ab_Tb ++ [xs]) 41 mL_law (27, [some (.ref 1000002), some (.ref 0), some (.ref 65), some (.int (nI v))], [], (wt x)) e := by
  refine E_aload_n rfl rfl ?_
  refine E_iload_n rfl rfl ?_
  refine E_tload (x := (xs.getD v 0)) (j := v) (t := 2) rfl (List.getElem?_eq_none (by have := wt_len x; omega)) rfl (by decide) rfl (lw_neg (by omega)) (lw_cl (by omega)) (lw_at (by omega)) ?_
  refine E_bipush (x := 63) rfl (by decide) ?_
  refine E_iand (z := 23) rfl h0 ?_
  refine E_tsIn (off := 960) (t := 993) rfl (by decide) rfl rfl ?_
  refine E_aload_n rfl rfl ?_
  refine E_aload_n rfl rfl ?_
  refine E_iload_n rfl rfl ?_
  refine E_iconst (x := nI 1) rfl (by decide) ?_
  refine E_iadd (z := nI (v + 1)) rfl (nI_add _ _) ?_
  refine E_tload (x := (xs.getD (v + 1) 0)) (j := v + 1) (t := 2) rfl (List.getElem?_eq_none (by have := wt_len x; omega)) rfl (by decide) rfl (lw_neg (by omega)) (lw_cl (by omega)) (lw_at (by omega)) ?_
  refine E_aload_n rfl rfl ?_
  refine E_iload_n rfl rfl ?_
  refine E_iconst (x := nI 2) rfl (by decide) ?_
  refine E_iadd (z := nI (v + 2)) rfl (nI_add _ _) ?_
  refine E_tload (x := (xs.getD (v + 2) 0)) (j := v + 2) (t := 2) rfl (List.getElem?_eq_none (by have := wt_len x; omega)) rfl (by decide) rfl (lw_neg (by omega)) (lw_cl (by omega)) (lw_at (by omega)) ?_
  refine E_callV (v := some (.int r)) (As := [.ref 0, .int (xs.getD (v + 1) 0), .int (xs.getD (v + 2) 0)]) (r0 := []) (cs2 := (wt x1)) rfl rfl rfl (Nat.le_of_ble_eq_true rfl) rfl (lw_r0 _ _) hx (by decide) (by have := wt_len x; have := wt_len x1; have := wt_len x2; omega) ?_
  refine E_pop rfl rfl ?_
  refine E_aload_n rfl rfl ?_
  refine E_aload_n rfl rfl ?_
  refine E_iload_n rfl rfl ?_
  refine E_iconst (x := nI 1) rfl (by decide) ?_
  refine E_iadd (z := nI (v + 1)) rfl (nI_add _ _) ?_
  refine E_tload (x := (xs.getD (v + 1) 0)) (j := v + 1) (t := 2) rfl (List.getElem?_eq_none (by have := wt_len x1; omega)) rfl (by decide) rfl (lw_neg (by omega)) (lw_cl (by omega)) (lw_at (by omega)) ?_
  refine E_aload_n rfl rfl ?_
  refine E_iload_n rfl rfl ?_
  refine E_iconst (x := nI 2) rfl (by decide) ?_
  refine E_iadd (z := nI (v + 2)) rfl (nI_add _ _) ?_
  refine E_tload (x := (xs.getD (v + 2) 0)) (j := v + 2) (t := 2) rfl (List.getElem?_eq_none (by have := wt_len x1; omega)) rfl (by decide) rfl (lw_neg (by omega)) (lw_cl (by omega)) (lw_at (by omega)) ?_
  refine E_callV (v := some (.int r)) (As := [.ref 65, .int (xs.getD (v + 1) 0), .int (xs.getD (v + 2) 0)]) (r0 := []) (cs2 := (wt x2)) rfl rfl rfl (Nat.le_of_ble_eq_true rfl) rfl (lw_r65 _ _) hm (by decide) (by have := wt_len x; have := wt_len x1; have := wt_len x2; omega) ?_
  refine E_pop rfl rfl ?_
  refine E_goto (t := 1451) rfl rfl ?_
  exact K
theorem lw_24 {xs : List Int32} {v : Nat} (hv : v + 6 ≤ xs.length) (hl : xs.length ≤ 3072) {x x1 x2 : St} (h0 : (xs.getD v 0) &&& 63 = 24) {r : Int32} (hx : Ev ab_Z0 6 100 [.ref 0, .int (xs.getD (v + 1) 0), .int (xs.getD (v + 2) 0), .int (xs.getD (v + 3) 0), .int (xs.getD (v + 4) 0)] (wt x) (some (.int r), wt x1)) (hm : Ev ab_Z0 4 188 [.ref 65, .int (xs.getD (v + 1) 0), .int (xs.getD (v + 2) 0), .int (xs.getD (v + 3) 0), .int (xs.getD (v + 4) 0)] (wt x1) (some (.int r), wt x2)) {e : Option Value × List ab_C} (K : Ef (3, ab_Tb ++ [xs]) 41 mL_law (1451, [some (.ref 1000002), some (.ref 0), some (.ref 65), some (.int (nI v))], [], (wt x2)) e) : Ef (3, ab_Tb ++ [xs]) 41 mL_law (27, [some (.ref 1000002), some (.ref 0), some (.ref 65), some (.int (nI v))], [], (wt x)) e := by
  refine E_aload_n rfl rfl ?_
  refine E_iload_n rfl rfl ?_
  refine E_tload (x := (xs.getD v 0)) (j := v) (t := 2) rfl (List.getElem?_eq_none (by have := wt_len x; omega)) rfl (by decide) rfl (lw_neg (by omega)) (lw_cl (by omega)) (lw_at (by omega)) ?_
  refine E_bipush (x := 63) rfl (by decide) ?_
  refine E_iand (z := 24) rfl h0 ?_
  refine E_tsIn (off := 993) (t := 1026) rfl (by decide) rfl rfl ?_
  refine E_aload_n rfl rfl ?_
  refine E_aload_n rfl rfl ?_
  refine E_iload_n rfl rfl ?_
  refine E_iconst (x := nI 1) rfl (by decide) ?_
  refine E_iadd (z := nI (v + 1)) rfl (nI_add _ _) ?_
  refine E_tload (x := (xs.getD (v + 1) 0)) (j := v + 1) (t := 2) rfl (List.getElem?_eq_none (by have := wt_len x; omega)) rfl (by decide) rfl (lw_neg (by omega)) (lw_cl (by omega)) (lw_at (by omega)) ?_
  refine E_aload_n rfl rfl ?_
  refine E_iload_n rfl rfl ?_
  refine E_iconst (x := nI 2) rfl (by decide) ?_
  refine E_iadd (z := nI (v + 2)) rfl (nI_add _ _) ?_
  refine E_tload (x := (xs.getD (v + 2) 0)) (j := v + 2) (t := 2) rfl (List.getElem?_eq_none (by have := wt_len x; omega)) rfl (by decide) rfl (lw_neg (by omega)) (lw_cl (by omega)) (lw_at (by omega)) ?_
  refine E_aload_n rfl rfl ?_
  refine E_iload_n rfl rfl ?_
  refine E_iconst (x := nI 3) rfl (by decide) ?_
  refine E_iadd (z := nI (v + 3)) rfl (nI_add _ _) ?_
  refine E_tload (x := (xs.getD (v + 3) 0)) (j := v + 3) (t := 2) rfl (List.getElem?_eq_none (by have := wt_len x; omega)) rfl (by decide) rfl (lw_neg (by omega)) (lw_cl (by omega)) (lw_at (by omega)) ?_
  refine E_aload_n rfl rfl ?_
  refine E_iload_n rfl rfl ?_
  refine E_iconst (x := nI 4) rfl (by decide) ?_
  refine E_iadd (z := nI (v + 4)) rfl (nI_add _ _) ?_
  refine E_tload (x := (xs.getD (v + 4) 0)) (j := v + 4) (t := 2) rfl (List.getElem?_eq_none (by have := wt_len x; omega)) rfl (by decide) rfl (lw_neg (by omega)) (lw_cl (by omega)) (lw_at (by omega)) ?_
  refine E_callV (v := some (.int r)) (As := [.ref 0, .int (xs.getD (v + 1) 0), .int (xs.getD (v + 2) 0), .int (xs.getD (v + 3) 0), .int (xs.getD (v + 4) 0)]) (r0 := []) (cs2 := (wt x1)) rfl rfl rfl (Nat.le_of_ble_eq_true rfl) rfl (lw_r0 _ _) hx (by decide) (by have := wt_len x; have := wt_len x1; have := wt_len x2; omega) ?_
  refine E_pop rfl rfl ?_
  refine E_aload_n rfl rfl ?_
  refine E_aload_n rfl rfl ?_
  refine E_iload_n rfl rfl ?_
  refine E_iconst (x := nI 1) rfl (by decide) ?_
  refine E_iadd (z := nI (v + 1)) rfl (nI_add _ _) ?_
  refine E_tload (x := (xs.getD (v + 1) 0)) (j := v + 1) (t := 2) rfl (List.getElem?_eq_none (by have := wt_len x1; omega)) rfl (by decide) rfl (lw_neg (by omega)) (lw_cl (by omega)) (lw_at (by omega)) ?_
  refine E_aload_n rfl rfl ?_
  refine E_iload_n rfl rfl ?_
  refine E_iconst (x := nI 2) rfl (by decide) ?_
  refine E_iadd (z := nI (v + 2)) rfl (nI_add _ _) ?_
  refine E_tload (x := (xs.getD (v + 2) 0)) (j := v + 2) (t := 2) rfl (List.getElem?_eq_none (by have := wt_len x1; omega)) rfl (by decide) rfl (lw_neg (by omega)) (lw_cl (by omega)) (lw_at (by omega)) ?_
  refine E_aload_n rfl rfl ?_
  refine E_iload_n rfl rfl ?_
  refine E_iconst (x := nI 3) rfl (by decide) ?_
  refine E_iadd (z := nI (v + 3)) rfl (nI_add _ _) ?_
  refine E_tload (x := (xs.getD (v + 3) 0)) (j := v + 3) (t := 2) rfl (List.getElem?_eq_none (by have := wt_len x1; omega)) rfl (by decide) rfl (lw_neg (by omega)) (lw_cl (by omega)) (lw_at (by omega)) ?_
  refine E_aload_n rfl rfl ?_
  refine E_iload_n rfl rfl ?_
  refine E_iconst (x := nI 4) rfl (by decide) ?_
  refine E_iadd (z := nI (v + 4)) rfl (nI_add _ _) ?_
  refine E_tload (x := (xs.getD (v + 4) 0)) (j := v + 4) (t := 2) rfl (List.getElem?_eq_none (by have := wt_len x1; omega)) rfl (by decide) rfl (lw_neg (by omega)) (lw_cl (by omega)) (lw_at (by omega)) ?_
  refine E_callV (v := some (.int r)) (As := [.ref 65, .int (xs.getD (v + 1) 0), .int (xs.getD (v + 2) 0), .int (xs.getD (v + 3) 0), .int (xs.getD (v + 4) 0)]) (r0 := []) (cs2 := (wt x2)) rfl rfl rfl (Nat.le_of_ble_eq_true rfl) rfl (lw_r65 _ _) hm (by decide) (by have := wt_len x; have := wt_len x1; have := wt_len x2; omega) ?_
  refine E_pop rfl rfl ?_
  refine E_goto (t := 1451) rfl rfl ?_
  exact K
theorem lw_25 {xs : List Int32} {v : Nat} (hv : v + 6 ≤ xs.length) (hl : xs.length ≤ 3072) {x x1 x2 : St} (h0 : (xs.getD v 0) &&& 63 = 25) {r : Int32} (hx : Ev ab_Z0 5 101 [.ref 0, .int (xs.getD (v + 1) 0)] (wt x) (some (.int r), wt x1)) (hm : Ev ab_Z0 5 191 [.ref 65, .int (xs.getD (v + 1) 0)] (wt x1) (some (.int r), wt x2)) {e : Option Value × List ab_C} (K : Ef (3, ab_Tb ++ [xs]) 41 mL_law (1451, [some (.ref 1000002), some (.ref 0), some (.ref 65), some (.int (nI v))], [], (wt x2)) e) : Ef (3, ab_Tb ++ [xs]) 41 mL_law (27, [some (.ref 1000002), some (.ref 0), some (.ref 65), some (.int (nI v))], [], (wt x)) e := by
  refine E_aload_n rfl rfl ?_
  refine E_iload_n rfl rfl ?_
  refine E_tload (x := (xs.getD v 0)) (j := v) (t := 2) rfl (List.getElem?_eq_none (by have := wt_len x; omega)) rfl (by decide) rfl (lw_neg (by omega)) (lw_cl (by omega)) (lw_at (by omega)) ?_
  refine E_bipush (x := 63) rfl (by decide) ?_
  refine E_iand (z := 25) rfl h0 ?_
  refine E_tsIn (off := 1046) (t := 1079) rfl (by decide) rfl rfl ?_
  refine E_aload_n rfl rfl ?_
  refine E_aload_n rfl rfl ?_
  refine E_iload_n rfl rfl ?_
  refine E_iconst (x := nI 1) rfl (by decide) ?_
  refine E_iadd (z := nI (v + 1)) rfl (nI_add _ _) ?_
  refine E_tload (x := (xs.getD (v + 1) 0)) (j := v + 1) (t := 2) rfl (List.getElem?_eq_none (by have := wt_len x; omega)) rfl (by decide) rfl (lw_neg (by omega)) (lw_cl (by omega)) (lw_at (by omega)) ?_
  refine E_callV (v := some (.int r)) (As := [.ref 0, .int (xs.getD (v + 1) 0)]) (r0 := []) (cs2 := (wt x1)) rfl rfl rfl (Nat.le_of_ble_eq_true rfl) rfl (lw_r0 _ _) hx (by decide) (by have := wt_len x; have := wt_len x1; have := wt_len x2; omega) ?_
  refine E_pop rfl rfl ?_
  refine E_aload_n rfl rfl ?_
  refine E_aload_n rfl rfl ?_
  refine E_iload_n rfl rfl ?_
  refine E_iconst (x := nI 1) rfl (by decide) ?_
  refine E_iadd (z := nI (v + 1)) rfl (nI_add _ _) ?_
  refine E_tload (x := (xs.getD (v + 1) 0)) (j := v + 1) (t := 2) rfl (List.getElem?_eq_none (by have := wt_len x1; omega)) rfl (by decide) rfl (lw_neg (by omega)) (lw_cl (by omega)) (lw_at (by omega)) ?_
  refine E_callV (v := some (.int r)) (As := [.ref 65, .int (xs.getD (v + 1) 0)]) (r0 := []) (cs2 := (wt x2)) rfl rfl rfl (Nat.le_of_ble_eq_true rfl) rfl (lw_r65 _ _) hm (by decide) (by have := wt_len x; have := wt_len x1; have := wt_len x2; omega) ?_
  refine E_pop rfl rfl ?_
  refine E_goto (t := 1451) rfl rfl ?_
  exact K
theorem lw_26 {xs : List Int32} {v : Nat} (hv : v + 6 ≤ xs.length) (hl : xs.length ≤ 3072) {x x1 x2 : St} (h0 : (xs.getD v 0) &&& 63 = 26) {r : Int32} (hx : Ev ab_Z0 3 102 [.ref 0, .int (xs.getD (v + 1) 0)] (wt x) (some (.int r), wt x1)) (hm : Ev ab_Z0 3 192 [.ref 65, .int (xs.getD (v + 1) 0)] (wt x1) (some (.int r), wt x2)) {e : Option Value × List ab_C} (K : Ef (3, ab_Tb ++ [xs]) 41 mL_law (1451, [some (.ref 1000002), some (.ref 0), some (.ref 65), some (.int (nI v))], [], (wt x2)) e) : Ef (3, ab_Tb ++ [xs]) 41 mL_law (27, [some (.ref 1000002), some (.ref 0), some (.ref 65), some (.int (nI v))], [], (wt x)) e := by
  refine E_aload_n rfl rfl ?_
  refine E_iload_n rfl rfl ?_
  refine E_tload (x := (xs.getD v 0)) (j := v) (t := 2) rfl (List.getElem?_eq_none (by have := wt_len x; omega)) rfl (by decide) rfl (lw_neg (by omega)) (lw_cl (by omega)) (lw_at (by omega)) ?_
  refine E_bipush (x := 63) rfl (by decide) ?_
  refine E_iand (z := 26) rfl h0 ?_
  refine E_tsIn (off := 1069) (t := 1102) rfl (by decide) rfl rfl ?_
  refine E_aload_n rfl rfl ?_
  refine E_aload_n rfl rfl ?_
  refine E_iload_n rfl rfl ?_
  refine E_iconst (x := nI 1) rfl (by decide) ?_
  refine E_iadd (z := nI (v + 1)) rfl (nI_add _ _) ?_
  refine E_tload (x := (xs.getD (v + 1) 0)) (j := v + 1) (t := 2) rfl (List.getElem?_eq_none (by have := wt_len x; omega)) rfl (by decide) rfl (lw_neg (by omega)) (lw_cl (by omega)) (lw_at (by omega)) ?_
  refine E_callV (v := some (.int r)) (As := [.ref 0, .int (xs.getD (v + 1) 0)]) (r0 := []) (cs2 := (wt x1)) rfl rfl rfl (Nat.le_of_ble_eq_true rfl) rfl (lw_r0 _ _) hx (by decide) (by have := wt_len x; have := wt_len x1; have := wt_len x2; omega) ?_
  refine E_pop rfl rfl ?_
  refine E_aload_n rfl rfl ?_
  refine E_aload_n rfl rfl ?_
  refine E_iload_n rfl rfl ?_
  refine E_iconst (x := nI 1) rfl (by decide) ?_
  refine E_iadd (z := nI (v + 1)) rfl (nI_add _ _) ?_
  refine E_tload (x := (xs.getD (v + 1) 0)) (j := v + 1) (t := 2) rfl (List.getElem?_eq_none (by have := wt_len x1; omega)) rfl (by decide) rfl (lw_neg (by omega)) (lw_cl (by omega)) (lw_at (by omega)) ?_
  refine E_callV (v := some (.int r)) (As := [.ref 65, .int (xs.getD (v + 1) 0)]) (r0 := []) (cs2 := (wt x2)) rfl rfl rfl (Nat.le_of_ble_eq_true rfl) rfl (lw_r65 _ _) hm (by decide) (by have := wt_len x; have := wt_len x1; have := wt_len x2; omega) ?_
  refine E_pop rfl rfl ?_
  refine E_goto (t := 1451) rfl rfl ?_
  exact K
theorem lw_27 {xs : List Int32} {v : Nat} (hv : v + 6 ≤ xs.length) (hl : xs.length ≤ 3072) {x x1 x2 : St} (h0 : (xs.getD v 0) &&& 63 = 27) {r : Int32} (hx : Ev ab_Z0 7 103 [.ref 0, .int (xs.getD (v + 1) 0), .int (xs.getD (v + 2) 0)] (wt x) (some (.int r), wt x1)) (hm : Ev ab_Z0 6 194 [.ref 65, .int (xs.getD (v + 1) 0), .int (xs.getD (v + 2) 0)] (wt x1) (some (.int r), wt x2)) {e : Option Value × List ab_C} (K : Ef (3, ab_Tb ++ [xs]) 41 mL_law (1451, [some (.ref 1000002), some (.ref 0), some (.ref 65), some (.int (nI v))], [], (wt x2)) e) : Ef (3, ab_Tb ++ [xs]) 41 mL_law (27, [some (.ref 1000002), some (.ref 0), some (.ref 65), some (.int (nI v))], [], (wt x)) e := by
  refine E_aload_n rfl rfl ?_
  refine E_iload_n rfl rfl ?_
  refine E_tload (x := (xs.getD v 0)) (j := v) (t := 2) rfl (List.getElem?_eq_none (by have := wt_len x; omega)) rfl (by decide) rfl (lw_neg (by omega)) (lw_cl (by omega)) (lw_at (by omega)) ?_
  refine E_bipush (x := 63) rfl (by decide) ?_
  refine E_iand (z := 27) rfl h0 ?_
  refine E_tsIn (off := 1092) (t := 1125) rfl (by decide) rfl rfl ?_
  refine E_aload_n rfl rfl ?_
  refine E_aload_n rfl rfl ?_
  refine E_iload_n rfl rfl ?_
  refine E_iconst (x := nI 1) rfl (by decide) ?_
  refine E_iadd (z := nI (v + 1)) rfl (nI_add _ _) ?_
  refine E_tload (x := (xs.getD (v + 1) 0)) (j := v + 1) (t := 2) rfl (List.getElem?_eq_none (by have := wt_len x; omega)) rfl (by decide) rfl (lw_neg (by omega)) (lw_cl (by omega)) (lw_at (by omega)) ?_
  refine E_aload_n rfl rfl ?_
  refine E_iload_n rfl rfl ?_
  refine E_iconst (x := nI 2) rfl (by decide) ?_
  refine E_iadd (z := nI (v + 2)) rfl (nI_add _ _) ?_
  refine E_tload (x := (xs.getD (v + 2) 0)) (j := v + 2) (t := 2) rfl (List.getElem?_eq_none (by have := wt_len x; omega)) rfl (by decide) rfl (lw_neg (by omega)) (lw_cl (by omega)) (lw_at (by omega)) ?_
  refine E_callV (v := some (.int r)) (As := [.ref 0, .int (xs.getD (v + 1) 0), .int (xs.getD (v + 2) 0)]) (r0 := []) (cs2 := (wt x1)) rfl rfl rfl (Nat.le_of_ble_eq_true rfl) rfl (lw_r0 _ _) hx (by decide) (by have := wt_len x; have := wt_len x1; have := wt_len x2; omega) ?_
  refine E_pop rfl rfl ?_
  refine E_aload_n rfl rfl ?_
  refine E_aload_n rfl rfl ?_
  refine E_iload_n rfl rfl ?_
  refine E_iconst (x := nI 1) rfl (by decide) ?_
  refine E_iadd (z := nI (v + 1)) rfl (nI_add _ _) ?_
  refine E_tload (x := (xs.getD (v + 1) 0)) (j := v + 1) (t := 2) rfl (List.getElem?_eq_none (by have := wt_len x1; omega)) rfl (by decide) rfl (lw_neg (by omega)) (lw_cl (by omega)) (lw_at (by omega)) ?_
  refine E_aload_n rfl rfl ?_
  refine E_iload_n rfl rfl ?_
  refine E_iconst (x := nI 2) rfl (by decide) ?_
  refine E_iadd (z := nI (v + 2)) rfl (nI_add _ _) ?_
  refine E_tload (x := (xs.getD (v + 2) 0)) (j := v + 2) (t := 2) rfl (List.getElem?_eq_none (by have := wt_len x1; omega)) rfl (by decide) rfl (lw_neg (by omega)) (lw_cl (by omega)) (lw_at (by omega)) ?_
  refine E_callV (v := some (.int r)) (As := [.ref 65, .int (xs.getD (v + 1) 0), .int (xs.getD (v + 2) 0)]) (r0 := []) (cs2 := (wt x2)) rfl rfl rfl (Nat.le_of_ble_eq_true rfl) rfl (lw_r65 _ _) hm (by decide) (by have := wt_len x; have := wt_len x1; have := wt_len x2; omega) ?_
  refine E_pop rfl rfl ?_
  refine E_goto (t := 1451) rfl rfl ?_
  exact K
theorem lw_28 {xs : List Int32} {v : Nat} (hv : v + 6 ≤ xs.length) (hl : xs.length ≤ 3072) {x x1 x2 : St} (h0 : (xs.getD v 0) &&& 63 = 28) {r : Int32} (hx : Ev ab_Z0 7 104 [.ref 0, .int (xs.getD (v + 1) 0), .int (xs.getD (v + 2) 0), .int (xs.getD (v + 3) 0)] (wt x) (some (.int r), wt x1)) (hm : Ev ab_Z0 6 195 [.ref 65, .int (xs.getD (v + 1) 0), .int (xs.getD (v + 2) 0), .int (xs.getD (v + 3) 0)] (wt x1) (some (.int r), wt x2)) {e : Option Value × List ab_C} (K : Ef (3, ab_Tb ++ [xs]) 41 mL_law (1451, [some (.ref 1000002), some (.ref 0), some (.ref 65), some (.int (nI v))], [], (wt x2)) e) : Ef (3, ab_Tb ++ [xs]) 41 mL_law (27, [some (.ref 1000002), some (.ref 0), some (.ref 65), some (.int (nI v))], [], (wt x)) e := by
  refine E_aload_n rfl rfl ?_
  refine E_iload_n rfl rfl ?_
  refine E_tload (x := (xs.getD v 0)) (j := v) (t := 2) rfl (List.getElem?_eq_none (by have := wt_len x; omega)) rfl (by decide) rfl (lw_neg (by omega)) (lw_cl (by omega)) (lw_at (by omega)) ?_
  refine E_bipush (x := 63) rfl (by decide) ?_
  refine E_iand (z := 28) rfl h0 ?_
  refine E_tsIn (off := 1125) (t := 1158) rfl (by decide) rfl rfl ?_
  refine E_aload_n rfl rfl ?_
  refine E_aload_n rfl rfl ?_
  refine E_iload_n rfl rfl ?_
  refine E_iconst (x := nI 1) rfl (by decide) ?_
  refine E_iadd (z := nI (v + 1)) rfl (nI_add _ _) ?_
  refine E_tload (x := (xs.getD (v + 1) 0)) (j := v + 1) (t := 2) rfl (List.getElem?_eq_none (by have := wt_len x; omega)) rfl (by decide) rfl (lw_neg (by omega)) (lw_cl (by omega)) (lw_at (by omega)) ?_
  refine E_aload_n rfl rfl ?_
  refine E_iload_n rfl rfl ?_
  refine E_iconst (x := nI 2) rfl (by decide) ?_
  refine E_iadd (z := nI (v + 2)) rfl (nI_add _ _) ?_
  refine E_tload (x := (xs.getD (v + 2) 0)) (j := v + 2) (t := 2) rfl (List.getElem?_eq_none (by have := wt_len x; omega)) rfl (by decide) rfl (lw_neg (by omega)) (lw_cl (by omega)) (lw_at (by omega)) ?_
  refine E_aload_n rfl rfl ?_
  refine E_iload_n rfl rfl ?_
  refine E_iconst (x := nI 3) rfl (by decide) ?_
  refine E_iadd (z := nI (v + 3)) rfl (nI_add _ _) ?_
  refine E_tload (x := (xs.getD (v + 3) 0)) (j := v + 3) (t := 2) rfl (List.getElem?_eq_none (by have := wt_len x; omega)) rfl (by decide) rfl (lw_neg (by omega)) (lw_cl (by omega)) (lw_at (by omega)) ?_
  refine E_callV (v := some (.int r)) (As := [.ref 0, .int (xs.getD (v + 1) 0), .int (xs.getD (v + 2) 0), .int (xs.getD (v + 3) 0)]) (r0 := []) (cs2 := (wt x1)) rfl rfl rfl (Nat.le_of_ble_eq_true rfl) rfl (lw_r0 _ _) hx (by decide) (by have := wt_len x; have := wt_len x1; have := wt_len x2; omega) ?_
  refine E_pop rfl rfl ?_
  refine E_aload_n rfl rfl ?_
  refine E_aload_n rfl rfl ?_
  refine E_iload_n rfl rfl ?_
  refine E_iconst (x := nI 1) rfl (by decide) ?_
  refine E_iadd (z := nI (v + 1)) rfl (nI_add _ _) ?_
  refine E_tload (x := (xs.getD (v + 1) 0)) (j := v + 1) (t := 2) rfl (List.getElem?_eq_none (by have := wt_len x1; omega)) rfl (by decide) rfl (lw_neg (by omega)) (lw_cl (by omega)) (lw_at (by omega)) ?_
  refine E_aload_n rfl rfl ?_
  refine E_iload_n rfl rfl ?_
  refine E_iconst (x := nI 2) rfl (by decide) ?_
  refine E_iadd (z := nI (v + 2)) rfl (nI_add _ _) ?_
  refine E_tload (x := (xs.getD (v + 2) 0)) (j := v + 2) (t := 2) rfl (List.getElem?_eq_none (by have := wt_len x1; omega)) rfl (by decide) rfl (lw_neg (by omega)) (lw_cl (by omega)) (lw_at (by omega)) ?_
  refine E_aload_n rfl rfl ?_
  refine E_iload_n rfl rfl ?_
  refine E_iconst (x := nI 3) rfl (by decide) ?_
  refine E_iadd (z := nI (v + 3)) rfl (nI_add _ _) ?_
  refine E_tload (x := (xs.getD (v + 3) 0)) (j := v + 3) (t := 2) rfl (List.getElem?_eq_none (by have := wt_len x1; omega)) rfl (by decide) rfl (lw_neg (by omega)) (lw_cl (by omega)) (lw_at (by omega)) ?_
  refine E_callV (v := some (.int r)) (As := [.ref 65, .int (xs.getD (v + 1) 0), .int (xs.getD (v + 2) 0), .int (xs.getD (v + 3) 0)]) (r0 := []) (cs2 := (wt x2)) rfl rfl rfl (Nat.le_of_ble_eq_true rfl) rfl (lw_r65 _ _) hm (by decide) (by have := wt_len x; have := wt_len x1; have := wt_len x2; omega) ?_
  refine E_pop rfl rfl ?_
  refine E_goto (t := 1451) rfl rfl ?_
  exact K
theorem lw_29 {xs : List Int32} {v : Nat} (hv : v + 6 ≤ xs.length) (hl : xs.length ≤ 3072) {x x1 x2 : St} (h0 : (xs.getD v 0) &&& 63 = 29) {r : Int32} (hx : Ev ab_Z0 7 105 [.ref 0, .int (xs.getD (v + 1) 0), .int (xs.getD (v + 2) 0)] (wt x) (some (.int r), wt x1)) (hm : Ev ab_Z0 6 196 [.ref 65, .int (xs.getD (v + 1) 0), .int (xs.getD (v + 2) 0)] (wt x1) (some (.int r), wt x2)) {e : Option Value × List ab_C} (K : Ef (3, ab_Tb ++ [xs]) 41 mL_law (1451, [some (.ref 1000002), some (.ref 0), some (.ref 65), some (.int (nI v))], [], (wt x2)) e) : Ef (3, ab_Tb ++ [xs]) 41 mL_law (27, [some (.ref 1000002), some (.ref 0), some (.ref 65), some (.int (nI v))], [], (wt x)) e := by
  refine E_aload_n rfl rfl ?_
  refine E_iload_n rfl rfl ?_
  refine E_tload (x := (xs.getD v 0)) (j := v) (t := 2) rfl (List.getElem?_eq_none (by have := wt_len x; omega)) rfl (by decide) rfl (lw_neg (by omega)) (lw_cl (by omega)) (lw_at (by omega)) ?_
  refine E_bipush (x := 63) rfl (by decide) ?_
  refine E_iand (z := 29) rfl h0 ?_
  refine E_tsIn (off := 1168) (t := 1201) rfl (by decide) rfl rfl ?_
  refine E_aload_n rfl rfl ?_
  refine E_aload_n rfl rfl ?_
  refine E_iload_n rfl rfl ?_
  refine E_iconst (x := nI 1) rfl (by decide) ?_
  refine E_iadd (z := nI (v + 1)) rfl (nI_add _ _) ?_
  refine E_tload (x := (xs.getD (v + 1) 0)) (j := v + 1) (t := 2) rfl (List.getElem?_eq_none (by have := wt_len x; omega)) rfl (by decide) rfl (lw_neg (by omega)) (lw_cl (by omega)) (lw_at (by omega)) ?_
  refine E_aload_n rfl rfl ?_
  refine E_iload_n rfl rfl ?_
  refine E_iconst (x := nI 2) rfl (by decide) ?_
  refine E_iadd (z := nI (v + 2)) rfl (nI_add _ _) ?_
  refine E_tload (x := (xs.getD (v + 2) 0)) (j := v + 2) (t := 2) rfl (List.getElem?_eq_none (by have := wt_len x; omega)) rfl (by decide) rfl (lw_neg (by omega)) (lw_cl (by omega)) (lw_at (by omega)) ?_
  refine E_callV (v := some (.int r)) (As := [.ref 0, .int (xs.getD (v + 1) 0), .int (xs.getD (v + 2) 0)]) (r0 := []) (cs2 := (wt x1)) rfl rfl rfl (Nat.le_of_ble_eq_true rfl) rfl (lw_r0 _ _) hx (by decide) (by have := wt_len x; have := wt_len x1; have := wt_len x2; omega) ?_
  refine E_pop rfl rfl ?_
  refine E_aload_n rfl rfl ?_
  refine E_aload_n rfl rfl ?_
  refine E_iload_n rfl rfl ?_
  refine E_iconst (x := nI 1) rfl (by decide) ?_
  refine E_iadd (z := nI (v + 1)) rfl (nI_add _ _) ?_
  refine E_tload (x := (xs.getD (v + 1) 0)) (j := v + 1) (t := 2) rfl (List.getElem?_eq_none (by have := wt_len x1; omega)) rfl (by decide) rfl (lw_neg (by omega)) (lw_cl (by omega)) (lw_at (by omega)) ?_
  refine E_aload_n rfl rfl ?_
  refine E_iload_n rfl rfl ?_
  refine E_iconst (x := nI 2) rfl (by decide) ?_
  refine E_iadd (z := nI (v + 2)) rfl (nI_add _ _) ?_
  refine E_tload (x := (xs.getD (v + 2) 0)) (j := v + 2) (t := 2) rfl (List.getElem?_eq_none (by have := wt_len x1; omega)) rfl (by decide) rfl (lw_neg (by omega)) (lw_cl (by omega)) (lw_at (by omega)) ?_
  refine E_callV (v := some (.int r)) (As := [.ref 65, .int (xs.getD (v + 1) 0), .int (xs.getD (v + 2) 0)]) (r0 := []) (cs2 := (wt x2)) rfl rfl rfl (Nat.le_of_ble_eq_true rfl) rfl (lw_r65 _ _) hm (by decide) (by have := wt_len x; have := wt_len x1; have := wt_len x2; omega) ?_
  refine E_pop rfl rfl ?_
  refine E_goto (t := 1451) rfl rfl ?_
  exact K
theorem lw_30 {xs : List Int32} {v : Nat} (hv : v + 6 ≤ xs.length) (hl : xs.length ≤ 3072) {x x1 x2 : St} (h0 : (xs.getD v 0) &&& 63 = 30) {r : Int32} (hx : Ev ab_Z0 6 106 [.ref 0, .int (xs.getD (v + 1) 0), .int (xs.getD (v + 2) 0)] (wt x) (some (.int r), wt x1)) (hm : Ev ab_Z0 5 197 [.ref 65, .int (xs.getD (v + 1) 0), .int (xs.getD (v + 2) 0)] (wt x1) (some (.int r), wt x2)) {e : Option Value × List ab_C} (K : Ef (3, ab_Tb ++ [xs]) 41 mL_law (1451, [some (.ref 1000002), some (.ref 0), some (.ref 65), some (.int (nI v))], [], (wt x2)) e) : Ef (3, ab_Tb ++ [xs]) 41 mL_law (27, [some (.ref 1000002), some (.ref 0), some (.ref 65), some (.int (nI v))], [], (wt x)) e := by
  refine E_aload_n rfl rfl ?_
  refine E_iload_n rfl rfl ?_
  refine E_tload (x := (xs.getD v 0)) (j := v) (t := 2) rfl (List.getElem?_eq_none (by have := wt_len x; omega)) rfl (by decide) rfl (lw_neg (by omega)) (lw_cl (by omega)) (lw_at (by omega)) ?_
  refine E_bipush (x := 63) rfl (by decide) ?_
  refine E_iand (z := 30) rfl h0 ?_
  refine E_tsIn (off := 1201) (t := 1234) rfl (by decide) rfl rfl ?_
  refine E_aload_n rfl rfl ?_
  refine E_aload_n rfl rfl ?_
  refine E_iload_n rfl rfl ?_
  refine E_iconst (x := nI 1) rfl (by decide) ?_
  refine E_iadd (z := nI (v + 1)) rfl (nI_add _ _) ?_
  refine E_tload (x := (xs.getD (v + 1) 0)) (j := v + 1) (t := 2) rfl (List.getElem?_eq_none (by have := wt_len x; omega)) rfl (by decide) rfl (lw_neg (by omega)) (lw_cl (by omega)) (lw_at (by omega)) ?_
  refine E_aload_n rfl rfl ?_
  refine E_iload_n rfl rfl ?_
  refine E_iconst (x := nI 2) rfl (by decide) ?_
  refine E_iadd (z := nI (v + 2)) rfl (nI_add _ _) ?_
  refine E_tload (x := (xs.getD (v + 2) 0)) (j := v + 2) (t := 2) rfl (List.getElem?_eq_none (by have := wt_len x; omega)) rfl (by decide) rfl (lw_neg (by omega)) (lw_cl (by omega)) (lw_at (by omega)) ?_
  refine E_callV (v := some (.int r)) (As := [.ref 0, .int (xs.getD (v + 1) 0), .int (xs.getD (v + 2) 0)]) (r0 := []) (cs2 := (wt x1)) rfl rfl rfl (Nat.le_of_ble_eq_true rfl) rfl (lw_r0 _ _) hx (by decide) (by have := wt_len x; have := wt_len x1; have := wt_len x2; omega) ?_
  refine E_pop rfl rfl ?_
  refine E_aload_n rfl rfl ?_
  refine E_aload_n rfl rfl ?_
  refine E_iload_n rfl rfl ?_
  refine E_iconst (x := nI 1) rfl (by decide) ?_
  refine E_iadd (z := nI (v + 1)) rfl (nI_add _ _) ?_
  refine E_tload (x := (xs.getD (v + 1) 0)) (j := v + 1) (t := 2) rfl (List.getElem?_eq_none (by have := wt_len x1; omega)) rfl (by decide) rfl (lw_neg (by omega)) (lw_cl (by omega)) (lw_at (by omega)) ?_
  refine E_aload_n rfl rfl ?_
  refine E_iload_n rfl rfl ?_
  refine E_iconst (x := nI 2) rfl (by decide) ?_
  refine E_iadd (z := nI (v + 2)) rfl (nI_add _ _) ?_
  refine E_tload (x := (xs.getD (v + 2) 0)) (j := v + 2) (t := 2) rfl (List.getElem?_eq_none (by have := wt_len x1; omega)) rfl (by decide) rfl (lw_neg (by omega)) (lw_cl (by omega)) (lw_at (by omega)) ?_
  refine E_callV (v := some (.int r)) (As := [.ref 65, .int (xs.getD (v + 1) 0), .int (xs.getD (v + 2) 0)]) (r0 := []) (cs2 := (wt x2)) rfl rfl rfl (Nat.le_of_ble_eq_true rfl) rfl (lw_r65 _ _) hm (by decide) (by have := wt_len x; have := wt_len x1; have := wt_len x2; omega) ?_
  refine E_pop rfl rfl ?_
  refine E_goto (t := 1451) rfl rfl ?_
  exact K
theorem lw_31 {xs : List Int32} {v : Nat} (hv : v + 6 ≤ xs.length) (hl : xs.length ≤ 3072) {x x1 x2 : St} (h0 : (xs.getD v 0) &&& 63 = 31) {r : Int32} (hx : Ev ab_Z0 3 107 [.ref 0, .int (xs.getD (v + 1) 0)] (wt x) (some (.int r), wt x1)) (hm : Ev ab_Z0 2 198 [.ref 65, .int (xs.getD (v + 1) 0)] (wt x1) (some (.int r), wt x2)) {e : Option Value × List ab_C} (K : Ef (3, ab_Tb ++ [xs]) 41 mL_law (1451, [some (.ref 1000002), some (.ref 0), some (.ref 65), some (.int (nI v))], [], (wt x2)) e) : Ef (3, ab_Tb ++ [xs]) 41 mL_law (27, [some (.ref 1000002), some (.ref 0), some (.ref 65), some (.int (nI v))], [], (wt x)) e := by
  refine E_aload_n rfl rfl ?_
  refine E_iload_n rfl rfl ?_
  refine E_tload (x := (xs.getD v 0)) (j := v) (t := 2) rfl (List.getElem?_eq_none (by have := wt_len x; omega)) rfl (by decide) rfl (lw_neg (by omega)) (lw_cl (by omega)) (lw_at (by omega)) ?_
  refine E_bipush (x := 63) rfl (by decide) ?_
  refine E_iand (z := 31) rfl h0 ?_
  refine E_tsIn (off := 1234) (t := 1267) rfl (by decide) rfl rfl ?_
  refine E_aload_n rfl rfl ?_
  refine E_aload_n rfl rfl ?_
  refine E_iload_n rfl rfl ?_
  refine E_iconst (x := nI 1) rfl (by decide) ?_
  refine E_iadd (z := nI (v + 1)) rfl (nI_add _ _) ?_
  refine E_tload (x := (xs.getD (v + 1) 0)) (j := v + 1) (t := 2) rfl (List.getElem?_eq_none (by have := wt_len x; omega)) rfl (by decide) rfl (lw_neg (by omega)) (lw_cl (by omega)) (lw_at (by omega)) ?_
  refine E_callV (v := some (.int r)) (As := [.ref 0, .int (xs.getD (v + 1) 0)]) (r0 := []) (cs2 := (wt x1)) rfl rfl rfl (Nat.le_of_ble_eq_true rfl) rfl (lw_r0 _ _) hx (by decide) (by have := wt_len x; have := wt_len x1; have := wt_len x2; omega) ?_
  refine E_pop rfl rfl ?_
  refine E_aload_n rfl rfl ?_
  refine E_aload_n rfl rfl ?_
  refine E_iload_n rfl rfl ?_
  refine E_iconst (x := nI 1) rfl (by decide) ?_
  refine E_iadd (z := nI (v + 1)) rfl (nI_add _ _) ?_
  refine E_tload (x := (xs.getD (v + 1) 0)) (j := v + 1) (t := 2) rfl (List.getElem?_eq_none (by have := wt_len x1; omega)) rfl (by decide) rfl (lw_neg (by omega)) (lw_cl (by omega)) (lw_at (by omega)) ?_
  refine E_callV (v := some (.int r)) (As := [.ref 65, .int (xs.getD (v + 1) 0)]) (r0 := []) (cs2 := (wt x2)) rfl rfl rfl (Nat.le_of_ble_eq_true rfl) rfl (lw_r65 _ _) hm (by decide) (by have := wt_len x; have := wt_len x1; have := wt_len x2; omega) ?_
  refine E_pop rfl rfl ?_
  refine E_goto (t := 1451) rfl rfl ?_
  exact K
theorem lw_32 {xs : List Int32} {v : Nat} (hv : v + 6 ≤ xs.length) (hl : xs.length ≤ 3072) {x x1 x2 : St} (h0 : (xs.getD v 0) &&& 63 = 32) {r : Int32} (hx : Ev ab_Z0 6 108 [.ref 0, .int (xs.getD (v + 1) 0)] (wt x) (some (.int r), wt x1)) (hm : Ev ab_Z0 7 202 [.ref 65, .int (xs.getD (v + 1) 0)] (wt x1) (some (.int r), wt x2)) {e : Option Value × List ab_C} (K : Ef (3, ab_Tb ++ [xs]) 41 mL_law (1451, [some (.ref 1000002), some (.ref 0), some (.ref 65), some (.int (nI v))], [], (wt x2)) e) : Ef (3, ab_Tb ++ [xs]) 41 mL_law (27, [some (.ref 1000002), some (.ref 0), some (.ref 65), some (.int (nI v))], [], (wt x)) e := by
  refine E_aload_n rfl rfl ?_
  refine E_iload_n rfl rfl ?_
  refine E_tload (x := (xs.getD v 0)) (j := v) (t := 2) rfl (List.getElem?_eq_none (by have := wt_len x; omega)) rfl (by decide) rfl (lw_neg (by omega)) (lw_cl (by omega)) (lw_at (by omega)) ?_
  refine E_bipush (x := 63) rfl (by decide) ?_
  refine E_iand (z := 32) rfl h0 ?_
  refine E_tsIn (off := 1257) (t := 1290) rfl (by decide) rfl rfl ?_
  refine E_aload_n rfl rfl ?_
  refine E_aload_n rfl rfl ?_
  refine E_iload_n rfl rfl ?_
  refine E_iconst (x := nI 1) rfl (by decide) ?_
  refine E_iadd (z := nI (v + 1)) rfl (nI_add _ _) ?_
  refine E_tload (x := (xs.getD (v + 1) 0)) (j := v + 1) (t := 2) rfl (List.getElem?_eq_none (by have := wt_len x; omega)) rfl (by decide) rfl (lw_neg (by omega)) (lw_cl (by omega)) (lw_at (by omega)) ?_
  refine E_callV (v := some (.int r)) (As := [.ref 0, .int (xs.getD (v + 1) 0)]) (r0 := []) (cs2 := (wt x1)) rfl rfl rfl (Nat.le_of_ble_eq_true rfl) rfl (lw_r0 _ _) hx (by decide) (by have := wt_len x; have := wt_len x1; have := wt_len x2; omega) ?_
  refine E_pop rfl rfl ?_
  refine E_aload_n rfl rfl ?_
  refine E_aload_n rfl rfl ?_
  refine E_iload_n rfl rfl ?_
  refine E_iconst (x := nI 1) rfl (by decide) ?_
  refine E_iadd (z := nI (v + 1)) rfl (nI_add _ _) ?_
  refine E_tload (x := (xs.getD (v + 1) 0)) (j := v + 1) (t := 2) rfl (List.getElem?_eq_none (by have := wt_len x1; omega)) rfl (by decide) rfl (lw_neg (by omega)) (lw_cl (by omega)) (lw_at (by omega)) ?_
  refine E_callV (v := some (.int r)) (As := [.ref 65, .int (xs.getD (v + 1) 0)]) (r0 := []) (cs2 := (wt x2)) rfl rfl rfl (Nat.le_of_ble_eq_true rfl) rfl (lw_r65 _ _) hm (by decide) (by have := wt_len x; have := wt_len x1; have := wt_len x2; omega) ?_
  refine E_pop rfl rfl ?_
  refine E_goto (t := 1451) rfl rfl ?_
  exact K
theorem lw_33 {xs : List Int32} {v : Nat} (hv : v + 6 ≤ xs.length) (hl : xs.length ≤ 3072) {x x1 x2 : St} (h0 : (xs.getD v 0) &&& 63 = 33) {r : Int32} (hx : Ev ab_Z0 1 109 [.ref 0, .int (xs.getD (v + 1) 0)] (wt x) (some (.int r), wt x1)) (hm : Ev ab_Z0 1 203 [.ref 65, .int (xs.getD (v + 1) 0)] (wt x1) (some (.int r), wt x2)) {e : Option Value × List ab_C} (K : Ef (3, ab_Tb ++ [xs]) 41 mL_law (1451, [some (.ref 1000002), some (.ref 0), some (.ref 65), some (.int (nI v))], [], (wt x2)) e) : Ef (3, ab_Tb ++ [xs]) 41 mL_law (27, [some (.ref 1000002), some (.ref 0), some (.ref 65), some (.int (nI v))], [], (wt x)) e := by
  refine E_aload_n rfl rfl ?_
  refine E_iload_n rfl rfl ?_
  refine E_tload (x := (xs.getD v 0)) (j := v) (t := 2) rfl (List.getElem?_eq_none (by have := wt_len x; omega)) rfl (by decide) rfl (lw_neg (by omega)) (lw_cl (by omega)) (lw_at (by omega)) ?_
  refine E_bipush (x := 63) rfl (by decide) ?_
  refine E_iand (z := 33) rfl h0 ?_
  refine E_tsIn (off := 1280) (t := 1313) rfl (by decide) rfl rfl ?_
  refine E_aload_n rfl rfl ?_
  refine E_aload_n rfl rfl ?_
  refine E_iload_n rfl rfl ?_
  refine E_iconst (x := nI 1) rfl (by decide) ?_
  refine E_iadd (z := nI (v + 1)) rfl (nI_add _ _) ?_
  refine E_tload (x := (xs.getD (v + 1) 0)) (j := v + 1) (t := 2) rfl (List.getElem?_eq_none (by have := wt_len x; omega)) rfl (by decide) rfl (lw_neg (by omega)) (lw_cl (by omega)) (lw_at (by omega)) ?_
  refine E_callV (v := some (.int r)) (As := [.ref 0, .int (xs.getD (v + 1) 0)]) (r0 := []) (cs2 := (wt x1)) rfl rfl rfl (Nat.le_of_ble_eq_true rfl) rfl (lw_r0 _ _) hx (by decide) (by have := wt_len x; have := wt_len x1; have := wt_len x2; omega) ?_
  refine E_pop rfl rfl ?_
  refine E_aload_n rfl rfl ?_
  refine E_aload_n rfl rfl ?_
  refine E_iload_n rfl rfl ?_
  refine E_iconst (x := nI 1) rfl (by decide) ?_
  refine E_iadd (z := nI (v + 1)) rfl (nI_add _ _) ?_
  refine E_tload (x := (xs.getD (v + 1) 0)) (j := v + 1) (t := 2) rfl (List.getElem?_eq_none (by have := wt_len x1; omega)) rfl (by decide) rfl (lw_neg (by omega)) (lw_cl (by omega)) (lw_at (by omega)) ?_
  refine E_callV (v := some (.int r)) (As := [.ref 65, .int (xs.getD (v + 1) 0)]) (r0 := []) (cs2 := (wt x2)) rfl rfl rfl (Nat.le_of_ble_eq_true rfl) rfl (lw_r65 _ _) hm (by decide) (by have := wt_len x; have := wt_len x1; have := wt_len x2; omega) ?_
  refine E_pop rfl rfl ?_
  refine E_goto (t := 1451) rfl rfl ?_
  exact K
theorem lw_34 {xs : List Int32} {v : Nat} (hv : v + 6 ≤ xs.length) (hl : xs.length ≤ 3072) {x x1 x2 : St} (h0 : (xs.getD v 0) &&& 63 = 34) {r : Int32} (hx : Ev ab_Z0 40 110 [.ref 0, .int (xs.getD (v + 1) 0), .int (xs.getD (v + 2) 0), .int (xs.getD (v + 3) 0)] (wt x) (some (.int r), wt x1)) (hm : Ev ab_Z0 40 208 [.ref 65, .int (xs.getD (v + 1) 0), .int (xs.getD (v + 2) 0), .int (xs.getD (v + 3) 0)] (wt x1) (some (.int r), wt x2)) {e : Option Value × List ab_C} (K : Ef (3, ab_Tb ++ [xs]) 41 mL_law (1451, [some (.ref 1000002), some (.ref 0), some (.ref 65), some (.int (nI v))], [], (wt x2)) e) : Ef (3, ab_Tb ++ [xs]) 41 mL_law (27, [some (.ref 1000002), some (.ref 0), some (.ref 65), some (.int (nI v))], [], (wt x)) e := by
  refine E_aload_n rfl rfl ?_
  refine E_iload_n rfl rfl ?_
  refine E_tload (x := (xs.getD v 0)) (j := v) (t := 2) rfl (List.getElem?_eq_none (by have := wt_len x; omega)) rfl (by decide) rfl (lw_neg (by omega)) (lw_cl (by omega)) (lw_at (by omega)) ?_
  refine E_bipush (x := 63) rfl (by decide) ?_
  refine E_iand (z := 34) rfl h0 ?_
  refine E_tsIn (off := 1303) (t := 1336) rfl (by decide) rfl rfl ?_
  refine E_aload_n rfl rfl ?_
  refine E_aload_n rfl rfl ?_
  refine E_iload_n rfl rfl ?_
  refine E_iconst (x := nI 1) rfl (by decide) ?_
  refine E_iadd (z := nI (v + 1)) rfl (nI_add _ _) ?_
  refine E_tload (x := (xs.getD (v + 1) 0)) (j := v + 1) (t := 2) rfl (List.getElem?_eq_none (by have := wt_len x; omega)) rfl (by decide) rfl (lw_neg (by omega)) (lw_cl (by omega)) (lw_at (by omega)) ?_
  refine E_aload_n rfl rfl ?_
  refine E_iload_n rfl rfl ?_
  refine E_iconst (x := nI 2) rfl (by decide) ?_
  refine E_iadd (z := nI (v + 2)) rfl (nI_add _ _) ?_
  refine E_tload (x := (xs.getD (v + 2) 0)) (j := v + 2) (t := 2) rfl (List.getElem?_eq_none (by have := wt_len x; omega)) rfl (by decide) rfl (lw_neg (by omega)) (lw_cl (by omega)) (lw_at (by omega)) ?_
  refine E_aload_n rfl rfl ?_
  refine E_iload_n rfl rfl ?_
  refine E_iconst (x := nI 3) rfl (by decide) ?_
  refine E_iadd (z := nI (v + 3)) rfl (nI_add _ _) ?_
  refine E_tload (x := (xs.getD (v + 3) 0)) (j := v + 3) (t := 2) rfl (List.getElem?_eq_none (by have := wt_len x; omega)) rfl (by decide) rfl (lw_neg (by omega)) (lw_cl (by omega)) (lw_at (by omega)) ?_
  refine E_callV (v := some (.int r)) (As := [.ref 0, .int (xs.getD (v + 1) 0), .int (xs.getD (v + 2) 0), .int (xs.getD (v + 3) 0)]) (r0 := []) (cs2 := (wt x1)) rfl rfl rfl (Nat.le_of_ble_eq_true rfl) rfl (lw_r0 _ _) hx (by decide) (by have := wt_len x; have := wt_len x1; have := wt_len x2; omega) ?_
  refine E_pop rfl rfl ?_
  refine E_aload_n rfl rfl ?_
  refine E_aload_n rfl rfl ?_
  refine E_iload_n rfl rfl ?_
  refine E_iconst (x := nI 1) rfl (by decide) ?_
  refine E_iadd (z := nI (v + 1)) rfl (nI_add _ _) ?_
  refine E_tload (x := (xs.getD (v + 1) 0)) (j := v + 1) (t := 2) rfl (List.getElem?_eq_none (by have := wt_len x1; omega)) rfl (by decide) rfl (lw_neg (by omega)) (lw_cl (by omega)) (lw_at (by omega)) ?_
  refine E_aload_n rfl rfl ?_
  refine E_iload_n rfl rfl ?_
  refine E_iconst (x := nI 2) rfl (by decide) ?_
  refine E_iadd (z := nI (v + 2)) rfl (nI_add _ _) ?_
  refine E_tload (x := (xs.getD (v + 2) 0)) (j := v + 2) (t := 2) rfl (List.getElem?_eq_none (by have := wt_len x1; omega)) rfl (by decide) rfl (lw_neg (by omega)) (lw_cl (by omega)) (lw_at (by omega)) ?_
  refine E_aload_n rfl rfl ?_
  refine E_iload_n rfl rfl ?_
  refine E_iconst (x := nI 3) rfl (by decide) ?_
  refine E_iadd (z := nI (v + 3)) rfl (nI_add _ _) ?_
  refine E_tload (x := (xs.getD (v + 3) 0)) (j := v + 3) (t := 2) rfl (List.getElem?_eq_none (by have := wt_len x1; omega)) rfl (by decide) rfl (lw_neg (by omega)) (lw_cl (by omega)) (lw_at (by omega)) ?_
  refine E_callV (v := some (.int r)) (As := [.ref 65, .int (xs.getD (v + 1) 0), .int (xs.getD (v + 2) 0), .int (xs.getD (v + 3) 0)]) (r0 := []) (cs2 := (wt x2)) rfl rfl rfl (Nat.le_of_ble_eq_true rfl) rfl (lw_r65 _ _) hm (by decide) (by have := wt_len x; have := wt_len x1; have := wt_len x2; omega) ?_
  refine E_pop rfl rfl ?_
  refine E_goto (t := 1451) rfl rfl ?_
  exact K
theorem lw_35 {xs : List Int32} {v : Nat} (hv : v + 6 ≤ xs.length) (hl : xs.length ≤ 3072) {x x1 x2 : St} (h0 : (xs.getD v 0) &&& 63 = 35) {r : Int32} (hx : Ev ab_Z0 2 111 [.ref 0, .int (xs.getD (v + 1) 0)] (wt x) (some (.int r), wt x1)) (hm : Ev ab_Z0 1 209 [.ref 65, .int (xs.getD (v + 1) 0)] (wt x1) (some (.int r), wt x2)) {e : Option Value × List ab_C} (K : Ef (3, ab_Tb ++ [xs]) 41 mL_law (1451, [some (.ref 1000002), some (.ref 0), some (.ref 65), some (.int (nI v))], [], (wt x2)) e) : Ef (3, ab_Tb ++ [xs]) 41 mL_law (27, [some (.ref 1000002), some (.ref 0), some (.ref 65), some (.int (nI v))], [], (wt x)) e := by
  refine E_aload_n rfl rfl ?_
  refine E_iload_n rfl rfl ?_
  refine E_tload (x := (xs.getD v 0)) (j := v) (t := 2) rfl (List.getElem?_eq_none (by have := wt_len x; omega)) rfl (by decide) rfl (lw_neg (by omega)) (lw_cl (by omega)) (lw_at (by omega)) ?_
  refine E_bipush (x := 63) rfl (by decide) ?_
  refine E_iand (z := 35) rfl h0 ?_
  refine E_tsIn (off := 1346) (t := 1379) rfl (by decide) rfl rfl ?_
  refine E_aload_n rfl rfl ?_
  refine E_aload_n rfl rfl ?_
  refine E_iload_n rfl rfl ?_
  refine E_iconst (x := nI 1) rfl (by decide) ?_
  refine E_iadd (z := nI (v + 1)) rfl (nI_add _ _) ?_
  refine E_tload (x := (xs.getD (v + 1) 0)) (j := v + 1) (t := 2) rfl (List.getElem?_eq_none (by have := wt_len x; omega)) rfl (by decide) rfl (lw_neg (by omega)) (lw_cl (by omega)) (lw_at (by omega)) ?_
  refine E_callV (v := some (.int r)) (As := [.ref 0, .int (xs.getD (v + 1) 0)]) (r0 := []) (cs2 := (wt x1)) rfl rfl rfl (Nat.le_of_ble_eq_true rfl) rfl (lw_r0 _ _) hx (by decide) (by have := wt_len x; have := wt_len x1; have := wt_len x2; omega) ?_
  refine E_pop rfl rfl ?_
  refine E_aload_n rfl rfl ?_
  refine E_aload_n rfl rfl ?_
  refine E_iload_n rfl rfl ?_
  refine E_iconst (x := nI 1) rfl (by decide) ?_
  refine E_iadd (z := nI (v + 1)) rfl (nI_add _ _) ?_
  refine E_tload (x := (xs.getD (v + 1) 0)) (j := v + 1) (t := 2) rfl (List.getElem?_eq_none (by have := wt_len x1; omega)) rfl (by decide) rfl (lw_neg (by omega)) (lw_cl (by omega)) (lw_at (by omega)) ?_
  refine E_callV (v := some (.int r)) (As := [.ref 65, .int (xs.getD (v + 1) 0)]) (r0 := []) (cs2 := (wt x2)) rfl rfl rfl (Nat.le_of_ble_eq_true rfl) rfl (lw_r65 _ _) hm (by decide) (by have := wt_len x; have := wt_len x1; have := wt_len x2; omega) ?_
  refine E_pop rfl rfl ?_
  refine E_goto (t := 1451) rfl rfl ?_
  exact K
theorem lw_36 {xs : List Int32} {v : Nat} (hv : v + 6 ≤ xs.length) (hl : xs.length ≤ 3072) {x x1 x2 : St} (h0 : (xs.getD v 0) &&& 63 = 36) {r : Int32} (hx : Ev ab_Z0 2 112 [.ref 0] (wt x) (some (.int r), wt x1)) (hm : Ev ab_Z0 3 210 [.ref 65] (wt x1) (some (.int r), wt x2)) {e : Option Value × List ab_C} (K : Ef (3, ab_Tb ++ [xs]) 41 mL_law (1451, [some (.ref 1000002), some (.ref 0), some (.ref 65), some (.int (nI v))], [], (wt x2)) e) : Ef (3, ab_Tb ++ [xs]) 41 mL_law (27, [some (.ref 1000002), some (.ref 0), some (.ref 65), some (.int (nI v))], [], (wt x)) e := by
  refine E_aload_n rfl rfl ?_
  refine E_iload_n rfl rfl ?_
  refine E_tload (x := (xs.getD v 0)) (j := v) (t := 2) rfl (List.getElem?_eq_none (by have := wt_len x; omega)) rfl (by decide) rfl (lw_neg (by omega)) (lw_cl (by omega)) (lw_at (by omega)) ?_
  refine E_bipush (x := 63) rfl (by decide) ?_
  refine E_iand (z := 36) rfl h0 ?_
  refine E_tsIn (off := 1369) (t := 1402) rfl (by decide) rfl rfl ?_
  refine E_aload_n rfl rfl ?_
  refine E_callV (v := some (.int r)) (As := [.ref 0]) (r0 := []) (cs2 := (wt x1)) rfl rfl rfl (Nat.le_of_ble_eq_true rfl) rfl (lw_r0 _ _) hx (by decide) (by have := wt_len x; have := wt_len x1; have := wt_len x2; omega) ?_
  refine E_pop rfl rfl ?_
  refine E_aload_n rfl rfl ?_
  refine E_callV (v := some (.int r)) (As := [.ref 65]) (r0 := []) (cs2 := (wt x2)) rfl rfl rfl (Nat.le_of_ble_eq_true rfl) rfl (lw_r65 _ _) hm (by decide) (by have := wt_len x; have := wt_len x1; have := wt_len x2; omega) ?_
  refine E_pop rfl rfl ?_
  refine E_goto (t := 1451) rfl rfl ?_
  exact K
theorem lw_37 {xs : List Int32} {v : Nat} (hv : v + 6 ≤ xs.length) (hl : xs.length ≤ 3072) {x x1 x2 : St} (h0 : (xs.getD v 0) &&& 63 = 37) {r : Int32} (hx : Ev ab_Z0 3 113 [.ref 0] (wt x) (some (.int r), wt x1)) (hm : Ev ab_Z0 3 211 [.ref 65] (wt x1) (some (.int r), wt x2)) {e : Option Value × List ab_C} (K : Ef (3, ab_Tb ++ [xs]) 41 mL_law (1451, [some (.ref 1000002), some (.ref 0), some (.ref 65), some (.int (nI v))], [], (wt x2)) e) : Ef (3, ab_Tb ++ [xs]) 41 mL_law (27, [some (.ref 1000002), some (.ref 0), some (.ref 65), some (.int (nI v))], [], (wt x)) e := by
  refine E_aload_n rfl rfl ?_
  refine E_iload_n rfl rfl ?_
  refine E_tload (x := (xs.getD v 0)) (j := v) (t := 2) rfl (List.getElem?_eq_none (by have := wt_len x; omega)) rfl (by decide) rfl (lw_neg (by omega)) (lw_cl (by omega)) (lw_at (by omega)) ?_
  refine E_bipush (x := 63) rfl (by decide) ?_
  refine E_iand (z := 37) rfl h0 ?_
  refine E_tsIn (off := 1382) (t := 1415) rfl (by decide) rfl rfl ?_
  refine E_aload_n rfl rfl ?_
  refine E_callV (v := some (.int r)) (As := [.ref 0]) (r0 := []) (cs2 := (wt x1)) rfl rfl rfl (Nat.le_of_ble_eq_true rfl) rfl (lw_r0 _ _) hx (by decide) (by have := wt_len x; have := wt_len x1; have := wt_len x2; omega) ?_
  refine E_aload_n rfl rfl ?_
  refine E_callV (v := some (.int r)) (As := [.ref 65]) (r0 := [.int r]) (cs2 := (wt x2)) rfl rfl rfl (Nat.le_of_ble_eq_true rfl) rfl (lw_r65 _ _) hm (by decide) (by have := wt_len x; have := wt_len x1; have := wt_len x2; omega) ?_
  refine E_ic (t := 1451) (b := true) rfl rfl (decide_eq_true rfl) ?_
  exact K
theorem lw_38 {xs : List Int32} {v : Nat} (hv : v + 6 ≤ xs.length) (hl : xs.length ≤ 3072) {x x1 x2 : St} (h0 : (xs.getD v 0) &&& 63 = 38) {r q : Int32} (hx : Ev ab_Z0 3 114 [.ref 0, .int (xs.getD (v + 1) 0)] (wt x) (some (.int r), wt x1)) (hm : Ev ab_Z0 3 212 [.ref 65, .int (xs.getD (v + 1) 0)] (wt x1) (some (.int q), wt x2)) {e : Option Value × List ab_C} (K : Ef (3, ab_Tb ++ [xs]) 41 mL_law (1451, [some (.ref 1000002), some (.ref 0), some (.ref 65), some (.int (nI v))], [], (wt x2)) e) : Ef (3, ab_Tb ++ [xs]) 41 mL_law (27, [some (.ref 1000002), some (.ref 0), some (.ref 65), some (.int (nI v))], [], (wt x)) e := by
  refine E_aload_n rfl rfl ?_
  refine E_iload_n rfl rfl ?_
  refine E_tload (x := (xs.getD v 0)) (j := v) (t := 2) rfl (List.getElem?_eq_none (by have := wt_len x; omega)) rfl (by decide) rfl (lw_neg (by omega)) (lw_cl (by omega)) (lw_at (by omega)) ?_
  refine E_bipush (x := 63) rfl (by decide) ?_
  refine E_iand (z := 38) rfl h0 ?_
  refine E_tsIn (off := 1395) (t := 1428) rfl (by decide) rfl rfl ?_
  refine E_aload_n rfl rfl ?_
  refine E_aload_n rfl rfl ?_
  refine E_iload_n rfl rfl ?_
  refine E_iconst (x := nI 1) rfl (by decide) ?_
  refine E_iadd (z := nI (v + 1)) rfl (nI_add _ _) ?_
  refine E_tload (x := (xs.getD (v + 1) 0)) (j := v + 1) (t := 2) rfl (List.getElem?_eq_none (by have := wt_len x; omega)) rfl (by decide) rfl (lw_neg (by omega)) (lw_cl (by omega)) (lw_at (by omega)) ?_
  refine E_callV (v := some (.int r)) (As := [.ref 0, .int (xs.getD (v + 1) 0)]) (r0 := []) (cs2 := (wt x1)) rfl rfl rfl (Nat.le_of_ble_eq_true rfl) rfl (lw_r0 _ _) hx (by decide) (by have := wt_len x; have := wt_len x1; have := wt_len x2; omega) ?_
  refine E_pop rfl rfl ?_
  refine E_aload_n rfl rfl ?_
  refine E_aload_n rfl rfl ?_
  refine E_iload_n rfl rfl ?_
  refine E_iconst (x := nI 1) rfl (by decide) ?_
  refine E_iadd (z := nI (v + 1)) rfl (nI_add _ _) ?_
  refine E_tload (x := (xs.getD (v + 1) 0)) (j := v + 1) (t := 2) rfl (List.getElem?_eq_none (by have := wt_len x1; omega)) rfl (by decide) rfl (lw_neg (by omega)) (lw_cl (by omega)) (lw_at (by omega)) ?_
  refine E_callV (v := some (.int q)) (As := [.ref 65, .int (xs.getD (v + 1) 0)]) (r0 := []) (cs2 := (wt x2)) rfl rfl rfl (Nat.le_of_ble_eq_true rfl) rfl (lw_r65 _ _) hm (by decide) (by have := wt_len x; have := wt_len x1; have := wt_len x2; omega) ?_
  refine E_pop rfl rfl ?_
  refine E_goto (t := 1451) rfl rfl ?_
  exact K
theorem lw_d {xs : List Int32} {v : Nat} (hv : v + 6 ≤ xs.length) (hl : xs.length ≤ 3072) {x : St} (hk : (38 : Int) < ((xs.getD v 0) &&& 63).toInt) {e : Option Value × List ab_C} (K : Ef (3, ab_Tb ++ [xs]) 41 mL_law (1451, [some (.ref 1000002), some (.ref 0), some (.ref 65), some (.int (nI v))], [], (wt x)) e) : Ef (3, ab_Tb ++ [xs]) 41 mL_law (27, [some (.ref 1000002), some (.ref 0), some (.ref 65), some (.int (nI v))], [], (wt x)) e := by
  refine E_aload_n rfl rfl ?_
  refine E_iload_n rfl rfl ?_
  refine E_tload (x := (xs.getD v 0)) (j := v) (t := 2) rfl (List.getElem?_eq_none (by have := wt_len x; omega)) rfl (by decide) rfl (lw_neg (by omega)) (lw_cl (by omega)) (lw_at (by omega)) ?_
  refine E_bipush (x := 63) rfl (by decide) ?_
  refine E_iand (z := ((xs.getD v 0) &&& 63)) rfl rfl ?_
  refine E_tsOut (t := 1451) rfl (Or.inr hk) rfl ?_
  exact K
theorem lw_in {xs : List Int32} {v : Nat} (hv : v + 6 ≤ xs.length) (hl : xs.length ≤ 3072) {x : St} {e : Option Value × List ab_C} (K : Ef (3, ab_Tb ++ [xs]) 41 mL_law (27, [some (.ref 1000002), some (.ref 0), some (.ref 65), some (.int (nI v))], [], (wt x)) e) : Ef (3, ab_Tb ++ [xs]) 41 mL_law (18, [some (.ref 1000002), some (.ref 0), some (.ref 65), some (.int (nI v))], [], (wt x)) e := by
  refine E_iload_n rfl rfl ?_
  refine E_aload_n rfl rfl ?_
  refine E_tlen (n := nI xs.length) (t := 2) rfl (List.getElem?_eq_none (by have := wt_len x; omega)) rfl (by decide) rfl rfl ?_
  refine E_bipush (x := nI 6) rfl (by decide) ?_
  refine E_isub (z := nI xs.length - nI 6) rfl rfl ?_
  refine E_ic (t := 1457) (b := false) rfl rfl ((cn_gt (nI_toInt (by omega)) (ab_subI (by omega) (by omega))).trans (decide_eq_false (by omega))) ?_
  exact K
theorem lw_out {xs : List Int32} {v : Nat} (hv : xs.length < v + 6) (hv2 : v < 10000) (hl : xs.length ≤ 3072) {x : St} : Ef (3, ab_Tb ++ [xs]) 41 mL_law (18, [some (.ref 1000002), some (.ref 0), some (.ref 65), some (.int (nI v))], [], (wt x)) (some (.int 1), wt x) := by
  refine E_iload_n rfl rfl ?_
  refine E_aload_n rfl rfl ?_
  refine E_tlen (n := nI xs.length) (t := 2) rfl (List.getElem?_eq_none (by have := wt_len x; omega)) rfl (by decide) rfl rfl ?_
  refine E_bipush (x := nI 6) rfl (by decide) ?_
  refine E_isub (z := nI xs.length - nI 6) rfl rfl ?_
  refine E_ic (t := 1457) (b := true) rfl rfl ((cn_gt (nI_toInt (by omega)) (ab_subI (by omega) (by omega))).trans (decide_eq_true (by omega))) ?_
  refine E_iconst (x := 1) rfl (by decide) ?_
  exact E_iret rfl rfl
theorem lw_next {xs : List Int32} {v : Nat} {x : St} {e : Option Value × List ab_C} (K : Ef (3, ab_Tb ++ [xs]) 41 mL_law (18, [some (.ref 1000002), some (.ref 0), some (.ref 65), some (.int (nI (v + 6)))], [], (wt x)) e) : Ef (3, ab_Tb ++ [xs]) 41 mL_law (1451, [some (.ref 1000002), some (.ref 0), some (.ref 65), some (.int (nI v))], [], (wt x)) e := by
  refine E_iinc (y := nI (v + 6)) (L2 := [some (.ref 1000002), some (.ref 0), some (.ref 65), some (.int (nI (v + 6)))]) rfl rfl (by rw [show Int32.ofInt 6 = nI 6 by decide]; exact nI_add v 6) rfl ?_
  refine E_goto (t := 18) rfl rfl ?_
  exact K
theorem lw_one {xs : List Int32} {v : Nat} (hv : v + 6 ≤ xs.length) (hl : xs.length ≤ 3072) (x : St) (hx : wI x) : ∃ x2, wI x2 ∧ ∀ e, Ef (3, ab_Tb ++ [xs]) 41 mL_law (1451, [some (.ref 1000002), some (.ref 0), some (.ref 65), some (.int (nI v))], [], (wt x2)) e → Ef (3, ab_Tb ++ [xs]) 41 mL_law (27, [some (.ref 1000002), some (.ref 0), some (.ref 65), some (.int (nI v))], [], (wt x)) e := by
  obtain ⟨j, hj, hk⟩ := pk_andE (xs.getD v 0) (m := 63) 6 (by decide)
  match j, hj, hk with
  | 0, _, hk =>
    obtain ⟨r, x1, x2, e1, e2, h2⟩ := op_row x hx (xs.getD (v + 1) 0) (xs.getD (v + 2) 0) (xs.getD (v + 3) 0)
    exact ⟨x2, h2, fun e K => lw_0 hv hl (hk.trans (by decide)) e1 e2 K⟩
  | 1, _, hk =>
    obtain ⟨r, x1, x2, e1, e2, h2⟩ := op_set x hx (xs.getD (v + 1) 0) (xs.getD (v + 2) 0) ((((xs.getD (v + 3) 0).toInt64) <<< ((32 : Int32).toInt64 &&& 63)) ||| (((xs.getD (v + 4) 0).toInt64) &&& 4294967295))
    exact ⟨x2, h2, fun e K => lw_1 hv hl (hk.trans (by decide)) e1 e2 K⟩
  | 2, _, hk =>
    obtain ⟨r, x1, x2, e1, e2, h2⟩ := op_copy x hx (xs.getD (v + 1) 0) (xs.getD (v + 2) 0) (xs.getD (v + 3) 0) (xs.getD (v + 4) 0) (xs.getD (v + 5) 0)
    exact ⟨x2, h2, fun e K => lw_2 hv hl (hk.trans (by decide)) e1 e2 K⟩
  | 3, _, hk =>
    obtain ⟨r, x1, x2, e1, e2, h2⟩ := op_element x hx (xs.getD (v + 1) 0) (xs.getD (v + 2) 0)
    exact ⟨x2, h2, fun e K => lw_3 hv hl (hk.trans (by decide)) e1 e2 K⟩
  | 4, _, hk =>
    obtain ⟨r, x1, x2, e1, e2, h2⟩ := op_show x hx (xs.getD (v + 1) 0) (xs.getD (v + 2) 0)
    exact ⟨x2, h2, fun e K => lw_4 hv hl (hk.trans (by decide)) e1 e2 K⟩
  | 5, _, hk =>
    obtain ⟨r, x1, x2, e1, e2, h2⟩ := op_holds x hx (xs.getD (v + 1) 0)
    exact ⟨x2, h2, fun e K => lw_5 hv hl (hk.trans (by decide)) e1 e2 K⟩
  | 6, _, hk =>
    obtain ⟨r, x1, x2, e1, e2, h2⟩ := op_says x hx (xs.getD (v + 1) 0) (xs.getD (v + 2) 0)
    exact ⟨x2, h2, fun e K => lw_6 hv hl (hk.trans (by decide)) e1 e2 K⟩
  | 7, _, hk =>
    obtain ⟨r, x1, x2, e1, e2, h2⟩ := op_piece x hx (xs.getD (v + 1) 0) (xs.getD (v + 2) 0) (xs.getD (v + 3) 0)
    exact ⟨x2, h2, fun e K => lw_7 hv hl (hk.trans (by decide)) e1 e2 K⟩
  | 8, _, hk =>
    obtain ⟨r, x1, x2, e1, e2, h2⟩ := op_person x hx (xs.getD (v + 1) 0) (xs.getD (v + 2) 0) (xs.getD (v + 3) 0)
    exact ⟨x2, h2, fun e K => lw_8 hv hl (hk.trans (by decide)) e1 e2 K⟩
  | 9, _, hk =>
    obtain ⟨r, x1, x2, e1, e2, h2⟩ := op_cost x hx (xs.getD (v + 1) 0) (xs.getD (v + 2) 0)
    exact ⟨x2, h2, fun e K => lw_9 hv hl (hk.trans (by decide)) e1 e2 K⟩
  | 10, _, hk =>
    obtain ⟨r, x1, x2, e1, e2, h2⟩ := op_rule x hx (xs.getD (v + 1) 0)
    exact ⟨x2, h2, fun e K => lw_10 hv hl (hk.trans (by decide)) e1 e2 K⟩
  | 11, _, hk =>
    obtain ⟨r, q, x1, x2, e1, e2, h2⟩ := op_tell x hx (xs.getD (v + 1) 0) (xs.getD (v + 2) 0) (xs.getD (v + 3) 0)
    exact ⟨x2, h2, fun e K => lw_11 hv hl (hk.trans (by decide)) e1 e2 K⟩
  | 12, _, hk =>
    obtain ⟨r, x1, x2, e1, e2, h2⟩ := op_pieceOf x hx (xs.getD (v + 1) 0) (xs.getD (v + 2) 0)
    exact ⟨x2, h2, fun e K => lw_12 hv hl (hk.trans (by decide)) e1 e2 K⟩
  | 13, _, hk =>
    obtain ⟨r, x1, x2, e1, e2, h2⟩ := op_personOf x hx (xs.getD (v + 1) 0) (xs.getD (v + 2) 0)
    exact ⟨x2, h2, fun e K => lw_13 hv hl (hk.trans (by decide)) e1 e2 K⟩
  | 14, _, hk =>
    obtain ⟨r, x1, x2, e1, e2, h2⟩ := op_square x hx (xs.getD (v + 1) 0)
    exact ⟨x2, h2, fun e K => lw_14 hv hl (hk.trans (by decide)) e1 e2 K⟩
  | 15, _, hk =>
    obtain ⟨r, x1, x2, e1, e2, h2⟩ := op_fault x hx
    exact ⟨x2, h2, fun e K => lw_15 hv hl (hk.trans (by decide)) e1 e2 K⟩
  | 16, _, hk =>
    obtain ⟨r, x1, x2, e1, e2, h2⟩ := op_price x hx (xs.getD (v + 1) 0) (xs.getD (v + 2) 0)
    exact ⟨x2, h2, fun e K => lw_16 hv hl (hk.trans (by decide)) e1 e2 K⟩
  | 17, _, hk =>
    obtain ⟨r, x1, x2, e1, e2, h2⟩ := op_change x hx (xs.getD (v + 1) 0) (xs.getD (v + 2) 0)
    exact ⟨x2, h2, fun e K => lw_17 hv hl (hk.trans (by decide)) e1 e2 K⟩
  | 18, _, hk =>
    obtain ⟨r, x1, x2, e1, e2, h2⟩ := op_harm x hx (xs.getD (v + 1) 0) (xs.getD (v + 2) 0)
    exact ⟨x2, h2, fun e K => lw_18 hv hl (hk.trans (by decide)) e1 e2 K⟩
  | 19, _, hk =>
    obtain ⟨r, x1, x2, e1, e2, h2⟩ := op_best x hx (xs.getD (v + 1) 0) (xs.getD (v + 2) 0)
    exact ⟨x2, h2, fun e K => lw_19 hv hl (hk.trans (by decide)) e1 e2 K⟩
  | 20, _, hk =>
    obtain ⟨r, x1, x2, e1, e2, h2⟩ := op_fails x hx (xs.getD (v + 1) 0)
    exact ⟨x2, h2, fun e K => lw_20 hv hl (hk.trans (by decide)) e1 e2 K⟩
  | 21, _, hk =>
    obtain ⟨r, x1, x2, e1, e2, h2⟩ := op_amounts x hx (xs.getD (v + 1) 0)
    exact ⟨x2, h2, fun e K => lw_21 hv hl (hk.trans (by decide)) e1 e2 K⟩
  | 22, _, hk =>
    obtain ⟨r, x1, x2, e1, e2, h2⟩ := op_run x hx (xs.getD (v + 1) 0)
    exact ⟨x2, h2, fun e K => lw_22 hv hl (hk.trans (by decide)) e1 e2 K⟩
  | 23, _, hk =>
    obtain ⟨r, x1, x2, e1, e2, h2⟩ := op_rules x hx (xs.getD (v + 1) 0) (xs.getD (v + 2) 0)
    exact ⟨x2, h2, fun e K => lw_23 hv hl (hk.trans (by decide)) e1 e2 K⟩
  | 24, _, hk =>
    obtain ⟨r, x1, x2, e1, e2, h2⟩ := op_costs x hx (xs.getD (v + 1) 0) (xs.getD (v + 2) 0) (xs.getD (v + 3) 0) (xs.getD (v + 4) 0)
    exact ⟨x2, h2, fun e K => lw_24 hv hl (hk.trans (by decide)) e1 e2 K⟩
  | 25, _, hk =>
    obtain ⟨r, x1, x2, e1, e2, h2⟩ := op_dear x hx (xs.getD (v + 1) 0)
    exact ⟨x2, h2, fun e K => lw_25 hv hl (hk.trans (by decide)) e1 e2 K⟩
  | 26, _, hk =>
    obtain ⟨r, x1, x2, e1, e2, h2⟩ := op_rich x hx (xs.getD (v + 1) 0)
    exact ⟨x2, h2, fun e K => lw_26 hv hl (hk.trans (by decide)) e1 e2 K⟩
  | 27, _, hk =>
    obtain ⟨r, x1, x2, e1, e2, h2⟩ := op_judge x hx (xs.getD (v + 1) 0) (xs.getD (v + 2) 0)
    exact ⟨x2, h2, fun e K => lw_27 hv hl (hk.trans (by decide)) e1 e2 K⟩
  | 28, _, hk =>
    obtain ⟨r, x1, x2, e1, e2, h2⟩ := op_behind x hx (xs.getD (v + 1) 0) (xs.getD (v + 2) 0) (xs.getD (v + 3) 0)
    exact ⟨x2, h2, fun e K => lw_28 hv hl (hk.trans (by decide)) e1 e2 K⟩
  | 29, _, hk =>
    obtain ⟨r, x1, x2, e1, e2, h2⟩ := op_done x hx (xs.getD (v + 1) 0) (xs.getD (v + 2) 0)
    exact ⟨x2, h2, fun e K => lw_29 hv hl (hk.trans (by decide)) e1 e2 K⟩
  | 30, _, hk =>
    obtain ⟨r, x1, x2, e1, e2, h2⟩ := op_cast x hx (xs.getD (v + 1) 0) (xs.getD (v + 2) 0)
    exact ⟨x2, h2, fun e K => lw_30 hv hl (hk.trans (by decide)) e1 e2 K⟩
  | 31, _, hk =>
    obtain ⟨r, x1, x2, e1, e2, h2⟩ := op_back x hx (xs.getD (v + 1) 0)
    exact ⟨x2, h2, fun e K => lw_31 hv hl (hk.trans (by decide)) e1 e2 K⟩
  | 32, _, hk =>
    obtain ⟨r, x1, x2, e1, e2, h2⟩ := op_days x hx (xs.getD (v + 1) 0)
    exact ⟨x2, h2, fun e K => lw_32 hv hl (hk.trans (by decide)) e1 e2 K⟩
  | 33, _, hk =>
    obtain ⟨r, x1, x2, e1, e2, h2⟩ := op_seed x hx (xs.getD (v + 1) 0)
    exact ⟨x2, h2, fun e K => lw_33 hv hl (hk.trans (by decide)) e1 e2 K⟩
  | 34, _, hk =>
    obtain ⟨r, x1, x2, e1, e2, h2⟩ := op_act x hx (xs.getD (v + 1) 0) (xs.getD (v + 2) 0) (xs.getD (v + 3) 0)
    exact ⟨x2, h2, fun e K => lw_34 hv hl (hk.trans (by decide)) e1 e2 K⟩
  | 35, _, hk =>
    obtain ⟨r, x1, x2, e1, e2, h2⟩ := op_trace x hx (xs.getD (v + 1) 0)
    exact ⟨x2, h2, fun e K => lw_35 hv hl (hk.trans (by decide)) e1 e2 K⟩
  | 36, _, hk =>
    obtain ⟨r, x1, x2, e1, e2, h2⟩ := op_image x hx
    exact ⟨x2, h2, fun e K => lw_36 hv hl (hk.trans (by decide)) e1 e2 K⟩
  | 37, _, hk =>
    obtain ⟨r, x1, x2, e1, e2, h2⟩ := op_restore x hx
    exact ⟨x2, h2, fun e K => lw_37 hv hl (hk.trans (by decide)) e1 e2 K⟩
  | 38, _, hk =>
    obtain ⟨r, q, x1, x2, e1, e2, h2⟩ := op_status x hx (xs.getD (v + 1) 0)
    exact ⟨x2, h2, fun e K => lw_38 hv hl (hk.trans (by decide)) e1 e2 K⟩
  | j + 39, hj, hk => exact ⟨x, hx, fun e K => lw_d hv hl (by rw [hk, nI_toInt (by omega)]; omega) K⟩
theorem lw_all {xs : List Int32} (hl : xs.length ≤ 3072) : ∀ (n0 v : Nat) (x : St), xs.length < v + 6 * n0 + 6 → v < 10000 → wI x → ∃ x2, wI x2 ∧ Ef (3, ab_Tb ++ [xs]) 41 mL_law (18, [some (.ref 1000002), some (.ref 0), some (.ref 65), some (.int (nI v))], [], (wt x)) (some (.int 1), wt x2) := by
  intro n0
  induction n0 with
  | zero =>
    intro v x hn hv hx
    exact ⟨x, hx, lw_out (by omega) hv hl⟩
  | succ n0 ih =>
    intro v x hn hv hx
    by_cases c : v + 6 ≤ xs.length
    · obtain ⟨x1, h1, k1⟩ := lw_one c hl x hx
      obtain ⟨x2, h2, k2⟩ := ih (v + 6) x1 (by omega) (by omega) h1
      exact ⟨x2, h2, lw_in c hl (k1 _ (lw_next k2))⟩
    · exact ⟨x, hx, lw_out (by omega) hv hl⟩
